set_option maxHeartbeats 4000000 in
set_option maxRecDepth 100000 in
theorem dv_c_X12_putsOn (l : Launch) (D : va_G) (cI cL : ClassId) (ad zz : Nat → Nat) (hJ : jD ad) (σ : Nat → Nat → Int32) (τ : Nat → Nat → Int64) (B0 : Int32) (hB0 : jmb σ B0 = 1) (a1 : Int32) (A1 : Int) (t1 : a1.toInt = A1) (hI101 : jI101 σ) (hI102 : jI102 σ) (hI103 : jI103 σ) (hI104 : jI104 σ) (hI105 : jI105 σ) (hI106 : jI106 σ) (hI120 : jI120 σ) (hs_jKept : jKept σ) (hs_jTR : jTR σ) (hs_jqSt : jqSt σ) (hp0 : 0 ≤ B0.toInt ∧ B0.toInt < (σ 55 6).toInt) (hp1 : 0 ≤ A1 ∧ A1 ≤ 19) (hp2 : (σ 55 25).toInt < (σ 55 10).toInt) (hp3 : (σ 55 26).toInt < (σ 55 12).toInt) (hp4 : ((σ 70 a1.toNatClampNeg).toInt ≠ 2) ∨ ((σ 55 12).toInt - (σ 55 26).toInt ≤ 8)) : jM l yX12_putsOn cX12_putsOn 7 (some .int) ({ frames := 103, cells := 0, slots := 0, locals := 5061 }) D cI cL ad zz [.ref (ad 55), .int a1] σ τ (fun r σ' τ' => τ = τ' ∧ (∀ i : Nat, (i < 55 ∨ 55 < i) ∧ (i < 66 ∨ 66 < i) ∧ (i < 74 ∨ 78 < i) → σ' i = σ i) ∧ (∀ k : Nat, (k < 18 ∨ 18 < k) ∧ (k < 19 ∨ 19 < k) ∧ (k < 20 ∨ 20 < k) ∧ (k < 21 ∨ 21 < k) ∧ (k < 22 ∨ 22 < k) ∧ (k < 37 ∨ 37 < k) → σ' 55 k = σ 55 k) ∧ (jKept σ') ∧ (jTR σ') ∧ (jqSt σ') ∧ ((jrP σ → jrM σ → (r : Int32).toInt = jrPv σ (A1) ∧ jrM σ')) ∧ ((True ∧ (0 ≤ r.toInt ∧ r.toInt ≤ 3)))) := by
  refine jM.of hJ (by decide +kernel) (nt := .int) rfl (Nat.le_of_ble_eq_true rfl) ?_
  intro p e s m args below meth c Q ls hC hret hl hP
  obtain ⟨hx, hb, hr, hml, hown, hts, hK, -, hlocks, hZ⟩ := hC
  have hown : s.vm.findClass RX12 = some m.cls := hown
  have hS : va_S (jA ad) s.heap s.heap [] := va_S.rf
  have hA : ∀ q, jA ad q → jA ad q := fun _ h => h
  have hl : lv_has ls 7 [(0, .ref (ad 55)), (1, .int a1)] := hl
  have g1 := jrg t1
  obtain ⟨i1, w2, w3⟩ : (0 ≤ (σ 55 6).toInt ∧ (σ 55 6).toInt ≤ 4) ∧ (∀ k : Nat, k < 4 → 0 ≤ (σ 60 k).toInt ∧ (σ 60 k).toInt ≤ 50) ∧ (∀ k : Nat, k < 4 → 0 ≤ (σ 61 k).toInt ∧ (σ 61 k).toInt ≤ 20) := id hI102
  obtain ⟨i4, i5, i6, w7, w8⟩ : (1 ≤ (σ 55 10).toInt ∧ (σ 55 10).toInt ≤ 8) ∧ (1 ≤ (σ 55 12).toInt ∧ (σ 55 12).toInt ≤ 12) ∧ (0 ≤ (σ 55 13).toInt ∧ (σ 55 13).toInt ≤ 999) ∧ (∀ k : Nat, k < 8 → 0 ≤ (σ 62 k).toInt ∧ (σ 62 k).toInt ≤ 3) ∧ (∀ k : Nat, k < 8 → 0 ≤ (σ 67 k).toInt ∧ (σ 67 k).toInt ≤ 3) := id hI104
  obtain ⟨i9, w10⟩ : (0 ≤ (σ 55 15).toInt ∧ (σ 55 15).toInt ≤ 80) ∧ (∀ k : Nat, k < 2 → (-1) ≤ (σ 65 k).toInt ∧ (σ 65 k).toInt ≤ 80) := id hI105
  obtain ⟨i11, w12, w13, w14⟩ : (0 ≤ (σ 55 32).toInt ∧ (σ 55 32).toInt ≤ 20) ∧ (∀ k : Nat, k < 20 → 0 ≤ (σ 70 k).toInt ∧ (σ 70 k).toInt ≤ 6) ∧ (∀ k : Nat, k < 20 → 0 ≤ (σ 71 k).toInt ∧ (σ 71 k).toInt ≤ 8) ∧ (∀ k : Nat, k < 160 → 0 ≤ (σ 72 k).toInt ∧ (σ 72 k).toInt ≤ 3) := id hI106
  obtain ⟨i15, i16, i17, i18, i19, w20⟩ : (0 ≤ (σ 55 25).toInt) ∧ ((σ 55 25).toInt ≤ (σ 55 10).toInt) ∧ (0 ≤ (σ 55 26).toInt) ∧ ((σ 55 26).toInt ≤ (σ 55 12).toInt) ∧ ((-1) ≤ (σ 55 27).toInt ∧ (σ 55 27).toInt ≤ 3) ∧ (∀ k : Nat, k < 4 → 0 ≤ (σ 68 k).toInt ∧ (σ 68 k).toInt ≤ 3) := id hI120
  refine lv_aload_n hx hb dX12_putsOn_0 rfl (lv_at hl 0 rfl) ?_
  refine va_get (D := D) hx hb hts inlX12 hown hK hP 55 (jc_55 cI cL ad σ τ) rfl 33 (by decide) (hts _ kw_7_18) (fun _ h9 => h9) rfl dX12_putsOn_1 ?_
  refine lv_iload_n hx hb dX12_putsOn_4 rfl (lv_at hl 1 rfl) ?_
  refine jald hx hb hK hP (jc_70 cI cL ad σ τ) (jin t1 (by omega) (by omega)) dX12_putsOn_5 ?_
  have g21 := w12 _ (jnat (x := a1) t1 (n := 20) (by omega) (by decide))
  refine jtopr (y := (σ 70 a1.toNatClampNeg)) rfl ?_
  refine lv_iconst (v := 1) hx hb dX12_putsOn_6 (by decide) ?_
  refine lv_icmp_ne (tgt := 17) hx hb dX12_putsOn_7 (by decide) (fun c22 => ?_) (fun c22 => ?_)
  · have kc22 := jne c22 rfl jz_1
    refine lv_aload_n hx hb dX12_putsOn_17 rfl (lv_at hl 0 rfl) ?_
    refine va_get (D := D) hx hb hts inlX12 hown hK hP 55 (jc_55 cI cL ad σ τ) rfl 33 (by decide) (hts _ kw_7_18) (fun _ h9 => h9) rfl dX12_putsOn_18 ?_
    refine lv_iload_n hx hb dX12_putsOn_21 rfl (lv_at hl 1 rfl) ?_
    refine jald hx hb hK hP (jc_70 cI cL ad σ τ) (jin t1 (by omega) (by omega)) dX12_putsOn_22 ?_
    have g23 := w12 _ (jnat (x := a1) t1 (n := 20) (by omega) (by decide))
    refine jtopr (y := (σ 70 a1.toNatClampNeg)) rfl ?_
    refine lv_iconst (v := 4) hx hb dX12_putsOn_23 (by decide) ?_
    refine lv_icmp_ne (tgt := 86) hx hb dX12_putsOn_24 (by decide) (fun c24 => ?_) (fun c24 => ?_)
    · have kc24 := jne c24 rfl jz_4
      refine lv_aload_n hx hb dX12_putsOn_86 rfl (lv_at hl 0 rfl) ?_
      refine va_get (D := D) hx hb hts inlX12 hown hK hP 55 (jc_55 cI cL ad σ τ) rfl 33 (by decide) (hts _ kw_7_18) (fun _ h9 => h9) rfl dX12_putsOn_87 ?_
      refine lv_iload_n hx hb dX12_putsOn_90 rfl (lv_at hl 1 rfl) ?_
      refine jald hx hb hK hP (jc_70 cI cL ad σ τ) (jin t1 (by omega) (by omega)) dX12_putsOn_91 ?_
      refine jtopr (y := (σ 70 a1.toNatClampNeg)) rfl ?_
      refine lv_iconst (v := 2) hx hb dX12_putsOn_92 (by decide) ?_
      refine lv_icmp_ne (tgt := 106) hx hb dX12_putsOn_93 (by decide) (fun c25 => ?_) (fun c25 => ?_)
      · have kc25 := jne c25 rfl jz_2
        refine lv_iconst (v := (-1)) hx hb dX12_putsOn_106 (by decide) ?_
        refine lv_istore_n (lv' := [(2, .int (-1)), (0, .ref (ad 55)), (1, .int a1)]) hx hb dX12_putsOn_107 rfl hl (by decide) rfl (fun ls hl => ?_)
        refine lv_iconst (v := 0) hx hb dX12_putsOn_108 (by decide) ?_
        refine lv_istore_n (lv' := [(3, .int 0), (2, .int (-1)), (0, .ref (ad 55)), (1, .int a1)]) hx hb dX12_putsOn_109 rfl hl (by decide) rfl (fun ls hl => ?_)
        refine lv_iconst (v := 0) hx hb dX12_putsOn_110 (by decide) ?_
        refine lv_istore (lv' := [(4, .int 0), (3, .int 0), (2, .int (-1)), (0, .ref (ad 55)), (1, .int a1)]) hx hb dX12_putsOn_111 hl (by decide) rfl (fun ls hl => ?_)
        have lp26 : ∀ (n27 : Nat) (x28 : Int32) (x29 : Int32) (x30 : Int32) (σ33 : Nat → Nat → Int32) (H : Heap) (locs : List Loc) (ls : Array Slot), (-x30.toInt + 4 : Int) < n27 → (-1) ≤ x28.toInt → x28.toInt ≤ 3 → 0 ≤ x30.toInt → x30.toInt ≤ 4 → ((0 ≤ x28.toInt) ∨ (x28.toInt = (-1) ∧ x30.toInt ≤ B0.toInt)) → (∀ i : Nat, (i < 55 ∨ 55 < i) ∧ (i < 66 ∨ 66 < i) → σ33 i = σ i) → (∀ k : Nat, (k < 18 ∨ 18 < k) ∧ (k < 19 ∨ 19 < k) ∧ (k < 20 ∨ 20 < k) ∧ (k < 21 ∨ 21 < k) ∧ (k < 22 ∨ 22 < k) → σ33 55 k = σ 55 k) → ((jrP σ → jrM σ → jrGt σ (A1) (x30 : Int32).toInt (x28 : Int32).toInt (x29 : Int32).toInt ∧ jrM σ33)) → jH D cI cL ad σ33 τ H → va_S (jA ad) s.heap H locs → lv_has ls 7 [(4, .int x30), (3, .int x29), (2, .int x28), (0, .ref (ad 55)), (1, .int a1)] → W p l e ({ frames := 103, cells := 0, slots := 0, locals := 5061 }) s m args below meth c H locs 0 0 Q (F0 m 113 ls []) := by
          intro n27
          induction n27 with
          | zero => intro x28 x29 x30 σ33 H locs ls h35 h36 h37 h38 h39 h40; have gx29 := jrg (rfl : x29.toInt = x29.toInt); exact absurd h35 (by omega)
          | succ n27 ihlp26 =>
            intro x28 x29 x30 σ33 H locs ls h35 h36 h37 h38 h39 h40 f41 f42 q43 hP hS hl
            have gx29 := jrg (rfl : x29.toInt = x29.toInt)
            have H47 : σ33 55 27 = σ 55 27 := (f42 27 (by decide))
            have H44 : jrP σ → jrP σ33 := fun pr => ((jrEq.v (σ := σ) (σ' := σ33) ⟨⟨(f41 56 (by decide)), (f41 60 (by decide)), (f41 61 (by decide)), (f41 62 (by decide)), (f41 64 (by decide)), (f41 65 (by decide))⟩, (f42 6 (by decide)), (f42 9 (by decide)), (f42 10 (by decide)), (f42 12 (by decide)), (f42 13 (by decide)), (f42 30 (by decide)), (f42 31 (by decide)), (f42 42 (by decide))⟩ (f41 68 (by decide)) (f41 69 (by decide)) (f42 25 (by decide)) (f42 26 (by decide)) (f42 27 (by decide))).2 pr)
            have H45 : jrLf σ33 = jrLf σ := by unfold jrLf; rw [(show jrEq σ σ33 from ⟨⟨(f41 56 (by decide)), (f41 60 (by decide)), (f41 61 (by decide)), (f41 62 (by decide)), (f41 64 (by decide)), (f41 65 (by decide))⟩, (f42 6 (by decide)), (f42 9 (by decide)), (f42 10 (by decide)), (f42 12 (by decide)), (f42 13 (by decide)), (f42 30 (by decide)), (f42 31 (by decide)), (f42 42 (by decide))⟩).ov, show σ33 55 6 = σ 55 6 from (f42 6 (by decide)), show jrW σ33 = jrW σ from by funext c; unfold jrW; rw [show σ33 69 = σ 69 from (f41 69 (by decide))]]
            have H46 : jrRg σ33 = jrRg σ := jrEq.rg (σ := σ) (σ' := σ33) ⟨⟨(f41 56 (by decide)), (f41 60 (by decide)), (f41 61 (by decide)), (f41 62 (by decide)), (f41 64 (by decide)), (f41 65 (by decide))⟩, (f42 6 (by decide)), (f42 9 (by decide)), (f42 10 (by decide)), (f42 12 (by decide)), (f42 13 (by decide)), (f42 30 (by decide)), (f42 31 (by decide)), (f42 42 (by decide))⟩ (f41 68 (by decide)) (f41 69 (by decide)) (f42 25 (by decide)) (f42 26 (by decide)) (f41 70 (by decide)) (f41 73 (by decide))
            have z48 : (σ33 55 25).toInt = (σ 55 25).toInt := (congrArg Int32.toInt (show σ33 55 25 = (σ 55 25) from (f42 25 (by decide))))
            have z49 : (σ33 55 26).toInt = (σ 55 26).toInt := (congrArg Int32.toInt (show σ33 55 26 = (σ 55 26) from (f42 26 (by decide))))
            have z50 : (σ33 55 27).toInt = (σ 55 27).toInt := (congrArg Int32.toInt (show σ33 55 27 = (σ 55 27) from (f42 27 (by decide))))
            have z51 : (σ33 55 6).toInt = (σ 55 6).toInt := (congrArg Int32.toInt (show σ33 55 6 = (σ 55 6) from (f42 6 (by decide))))
            refine lv_iload hx hb dX12_putsOn_113 (lv_at hl 0 rfl) ?_
            refine lv_aload_n hx hb dX12_putsOn_115 rfl (lv_at hl 3 rfl) ?_
            refine va_get (D := D) hx hb hts inlX12 hown hK hP 55 (jc_55 cI cL ad σ33 τ) rfl 6 (by decide) (hts _ kw_9_13) (fun _ h9 => h9) rfl dX12_putsOn_116 ?_
            have m52 : σ33 55 6 = (σ 55 6) := (f42 6 (by decide))
            refine jtopr m52 ?_
            refine lv_icmp_ge (tgt := 255) hx hb dX12_putsOn_119 (by decide) (fun c53 => ?_) (fun c53 => ?_)
            · have kc53 := jle c53 rfl rfl
              refine lv_iload_n hx hb dX12_putsOn_255 rfl (lv_at hl 2 rfl) ?_
              have p54 : jKept σ33 := jKept.fr (f41 75 (by decide)) (f41 76 (by decide)) (f41 77 (by decide)) hs_jKept
              have p55 : jTR σ33 := jTR.fr (f41 64 (by decide)) (f41 65 (by decide)) hs_jTR
              have p56 : jqSt σ33 := jqSt.fr (f41 78 (by decide)) (f42 42 (by decide)) hs_jqSt
              have z57 : (σ33 55 37).toInt = (σ 55 37).toInt := (congrArg Int32.toInt (show σ33 55 37 = (σ 55 37) from (f42 37 (by decide))))
              exact hret x28 σ33 τ _ _ _ _ rfl ⟨rfl, (fun i hi => (f41 i (imp_204 i hi))), (fun i hi => (f42 i (imp_205 i hi))), p54, p55, p56, (fun pr mm => ⟨(q43 pr mm).1.fin (by omega) (by omega) (by omega) (by rw [(show (σ 70 (A1).toNat).toInt = (σ 70 a1.toNatClampNeg).toInt from by rw [jnc (show a1.toInt = A1 from t1)])]; omega), (q43 pr mm).2⟩), ⟨trivial, (by omega)⟩⟩ hP hS dX12_putsOn_256
            · have kc53 := jnle c53 rfl rfl
              refine lv_aload_n hx hb dX12_putsOn_122 rfl (lv_at hl 3 rfl) ?_
              refine lv_iload hx hb dX12_putsOn_123 (lv_at hl 0 rfl) ?_
              refine jcallV (As := [.int x30]) (rest := []) ⟨hx, hb, hml, hown, hts⟩ hK hP hA hS hZ (c_X12_mayBowl l D cI cL ad zz hJ σ33 τ x30 (x30.toInt) rfl (by omega)) cw_RX12_249 (jc_55 cI cL ad σ33 τ) rfl ⟨Nat.le_of_ble_eq_true rfl, Nat.le_of_ble_eq_true rfl⟩ rfl rfl rfl hl.1 rfl (Nat.le_of_ble_eq_true rfl) dX12_putsOn_125 ⟨Nat.zero_le _, Nat.zero_le _⟩ (fun r59 σ58 τ58 H locs h58 hP hS => ?_)
              obtain ⟨⟨rfl, rfl⟩, h58⟩ := h58
              rcases h58 with h60 | h61
              · obtain ⟨q63, k62⟩ := h60
                have q63 := q63.symm
                subst q63
                refine lv_if_ne (tgt := 134) hx hb dX12_putsOn_128 (by decide) (fun _ => ?_) (fun c => absurd c (by decide))
                refine lv_aload_n hx hb dX12_putsOn_134 rfl (lv_at hl 3 rfl) ?_
                refine va_get (D := D) hx hb hts inlX12 hown hK hP 55 (jc_55 cI cL ad σ33 τ) rfl 33 (by decide) (hts _ kw_7_18) (fun _ h9 => h9) rfl dX12_putsOn_135 ?_
                refine lv_iload_n hx hb dX12_putsOn_138 rfl (lv_at hl 4 rfl) ?_
                refine jald hx hb hK hP (jc_70 cI cL ad σ33 τ) (jin t1 (by omega) (by omega)) dX12_putsOn_139 ?_
                refine jtopr (y := (σ 70 a1.toNatClampNeg)) (by rw [f41 70 (by decide)]) ?_
                refine lv_bipush (v := 6) hx hb dX12_putsOn_140 (by decide) ?_
                refine lv_icmp_ne (tgt := 149) hx hb dX12_putsOn_142 (by decide) (fun c64 => ?_) (fun c64 => ?_)
                · have kc64 := jne c64 rfl jz_6
                  refine lv_iconst (v := 0) hx hb dX12_putsOn_149 (by decide) ?_
                  refine lv_istore (lv' := [(5, .int 0), (4, .int x30), (3, .int x29), (2, .int x28), (0, .ref (ad 55)), (1, .int a1)]) hx hb dX12_putsOn_150 hl (by decide) rfl (fun ls hl => ?_)
                  refine lv_iload hx hb dX12_putsOn_152 (lv_at hl 0 rfl) ?_
                  refine lv_if_ne (tgt := 167) hx hb dX12_putsOn_154 (by decide) (fun c => absurd (by decide) c) (fun _ => ?_)
                  refine lv_aload_n hx hb dX12_putsOn_157 rfl (lv_at hl 4 rfl) ?_
                  refine lv_iload_n hx hb dX12_putsOn_158 rfl (lv_at hl 5 rfl) ?_
                  refine lv_iload hx hb dX12_putsOn_159 (lv_at hl 1 rfl) ?_
                  have I65 : jI101 σ33 := jI101_fr (f42 4 (by decide)) (f42 5 (by decide)) (f41 56 (by decide)) (f41 57 (by decide)) (f41 58 (by decide)) (f41 59 (by decide)) hI101
                  have I66 : jI102 σ33 := jI102_fr (f42 6 (by decide)) (f41 60 (by decide)) (f41 61 (by decide)) hI102
                  have I67 : jI103 σ33 := jI103_fr (f42 9 (by decide)) hI103
                  have I68 : jI104 σ33 := jI104_fr (f42 10 (by decide)) (f42 12 (by decide)) (f42 13 (by decide)) (f41 62 (by decide)) (f41 67 (by decide)) hI104
                  have I69 : jI105 σ33 := jI105_fr (f42 15 (by decide)) (f41 65 (by decide)) hI105
                  have I70 : jI106 σ33 := jI106_fr (f42 32 (by decide)) (f41 70 (by decide)) (f41 71 (by decide)) (f41 72 (by decide)) hI106
                  have w71 : ∀ k : Nat, k < 4 → 0 ≤ (σ33 68 k).toInt ∧ (σ33 68 k).toInt ≤ 3 := (jrr_fr (f41 68 (by decide)) w20)
                  have p72 : jTR σ33 := jTR.fr (f41 64 (by decide)) (f41 65 (by decide)) hs_jTR
                  refine jcallV (As := [.int a1, .int x30]) (rest := []) ⟨hx, hb, hml, hown, hts⟩ hK hP hA hS hZ (c_X12_worthBy l D cI cL ad zz hJ σ33 τ a1 (A1) t1 x30 (x30.toInt) rfl I65 I66 I67 I68 I69 I70 w71 p72 (by omega) (by omega) (by omega) (by omega)) cw_RX12_286 (jc_55 cI cL ad σ33 τ) rfl ⟨Nat.le_of_ble_eq_true rfl, Nat.le_of_ble_eq_true rfl⟩ rfl rfl rfl hl.1 rfl (Nat.le_of_ble_eq_true rfl) dX12_putsOn_161 ⟨Nat.zero_le _, Nat.zero_le _⟩ (fun r74 σ73 τ73 H locs h73 hP hS => ?_)
                  obtain ⟨rfl, f75, f76, p77, w78, h73⟩ := h73
                  have G80 : jrP σ → (r74 : Int32).toInt = -(jrRg σ (A1) (x30 : Int32).toInt.toNat) := fun pr => by have ge := w78 (H44 pr) k62 (by omega) (by rw [show σ33 70 = σ 70 from (f41 70 (by decide)), (show (σ 70 (A1).toNat).toInt = (σ 70 a1.toNatClampNeg).toInt from by rw [jnc (show a1.toInt = A1 from t1)])]; omega); rw [H46] at ge; exact ge
                  refine lv_goto (tgt := 217) hx hb dX12_putsOn_164 (by decide) ?_
                  refine lv_istore (lv' := [(6, .int r74), (5, .int 0), (4, .int x30), (3, .int x29), (2, .int x28), (0, .ref (ad 55)), (1, .int a1)]) hx hb dX12_putsOn_217 hl (by decide) rfl (fun ls hl => ?_)
                  refine lv_iload_n hx hb dX12_putsOn_219 rfl (lv_at hl 4 rfl) ?_
                  refine lv_if_lt (tgt := 243) hx hb dX12_putsOn_220 (by decide) (fun c81 => ?_) (fun c81 => ?_)
                  · have kc81 := jlt c81 rfl jz_0
                    refine lv_iload hx hb dX12_putsOn_243 (lv_at hl 2 rfl) ?_
                    refine lv_istore_n (lv' := [(2, .int x30), (6, .int r74), (5, .int 0), (4, .int x30), (3, .int x29), (0, .ref (ad 55)), (1, .int a1)]) hx hb dX12_putsOn_245 rfl hl (by decide) rfl (fun ls hl => ?_)
                    refine lv_iload hx hb dX12_putsOn_246 (lv_at hl 1 rfl) ?_
                    refine lv_istore_n (lv' := [(3, .int r74), (2, .int x30), (6, .int r74), (5, .int 0), (4, .int x30), (0, .ref (ad 55)), (1, .int a1)]) hx hb dX12_putsOn_248 rfl hl (by decide) rfl (fun ls hl => ?_)
                    obtain ⟨x82, ex82⟩ : ∃ y : Int32, y = x30 + 1 := ⟨_, rfl⟩
                    have tx82 : x82.toInt = x30.toInt + 1 := (jadd ex82 rfl jz_1 (by omega) (by omega)).trans (by omega)
                    refine lv_iinc (v := x82) (lv' := [(4, .int x82), (3, .int r74), (2, .int x30), (6, .int r74), (5, .int 0), (0, .ref (ad 55)), (1, .int a1)]) hx hb dX12_putsOn_249 hl (k := 4) rfl (by rw [ex82]; rfl) (by decide) rfl (fun ls hl => ?_)
                    refine lv_goto (tgt := 113) hx hb dX12_putsOn_252 (by decide) ?_
                    exact ihlp26 x30 r74 x82 σ73 _ _ ls (by have h92 := tx82; omega) (by have h92 := tx82; omega) (by have h92 := tx82; omega) (by have h92 := tx82; omega) (by have h92 := tx82; omega) (by have h92 := tx82; omega) (fun i hi => ((f75 i hi).trans (f41 i hi))) (fun i hi => ((f76 i hi).trans (f42 i hi)))  (fun pr mm => by have prh := H44 pr; have q := q43 pr mm; have my := (prh.my (by omega) (by omega) (by omega)).mp k62; rw [H47, H45] at my; have ge := G80 pr; exact ⟨q.1.take (v := (r74 : Int32).toInt) (by omega) my (Or.inr ⟨by rw [(show (σ 70 (A1).toNat).toInt = (σ 70 a1.toNatClampNeg).toInt from by rw [jnc (show a1.toInt = A1 from t1)])]; omega, ge, (by omega)⟩) (by omega) (by omega) (by have h9 := tx82; omega), (jrEq.m (σ := σ33) (σ' := σ73) ⟨⟨(f75 56 (by decide)), (f75 60 (by decide)), (f75 61 (by decide)), (f75 62 (by decide)), (f75 64 (by decide)), (f75 65 (by decide))⟩, (f76 6 (by decide)), (f76 9 (by decide)), (f76 10 (by decide)), (f76 12 (by decide)), (f76 13 (by decide)), (f76 30 (by decide)), (f76 31 (by decide)), (f76 42 (by decide))⟩ (f75 78 (by decide)) (f75 74 (by decide)) (f75 75 (by decide)) (f75 76 (by decide)) (f75 77 (by decide)) q.2)⟩) hP hS (lv_sub hl [0, 1, 2, 5, 6] rfl)
                  · have kc81 := jnlt c81 rfl jz_0
                    refine lv_iload hx hb dX12_putsOn_223 (lv_at hl 1 rfl) ?_
                    refine lv_if_eq (tgt := 237) hx hb dX12_putsOn_225 (by decide) (fun _ => ?_) (fun c => absurd (by decide) c)
                    refine lv_iload hx hb dX12_putsOn_237 (lv_at hl 0 rfl) ?_
                    refine lv_iload_n hx hb dX12_putsOn_239 rfl (lv_at hl 3 rfl) ?_
                    refine lv_icmp_ge (tgt := 249) hx hb dX12_putsOn_240 (by decide) (fun c83 => ?_) (fun c83 => ?_)
                    · have kc83 := jle c83 rfl rfl
                      obtain ⟨x84, ex84⟩ : ∃ y : Int32, y = x30 + 1 := ⟨_, rfl⟩
                      have tx84 : x84.toInt = x30.toInt + 1 := (jadd ex84 rfl jz_1 (by omega) (by omega)).trans (by omega)
                      refine lv_iinc (v := x84) (lv' := [(4, .int x84), (6, .int r74), (5, .int 0), (3, .int x29), (2, .int x28), (0, .ref (ad 55)), (1, .int a1)]) hx hb dX12_putsOn_249 hl (k := 2) rfl (by rw [ex84]; rfl) (by decide) rfl (fun ls hl => ?_)
                      refine lv_goto (tgt := 113) hx hb dX12_putsOn_252 (by decide) ?_
                      exact ihlp26 x28 x29 x84 σ73 _ _ ls (by have h92 := tx84; omega) (by have h92 := tx84; omega) (by have h92 := tx84; omega) (by have h92 := tx84; omega) (by have h92 := tx84; omega) (by have h92 := tx84; omega) (fun i hi => ((f75 i hi).trans (f41 i hi))) (fun i hi => ((f76 i hi).trans (f42 i hi)))  (fun pr mm => by have prh := H44 pr; have q := q43 pr mm; have ge := G80 pr; exact ⟨q.1.keep (v := (r74 : Int32).toInt) (by omega) (Or.inr ⟨by rw [(show (σ 70 (A1).toNat).toInt = (σ 70 a1.toNatClampNeg).toInt from by rw [jnc (show a1.toInt = A1 from t1)])]; omega, ge, (by omega)⟩) (by have h9 := tx84; omega), (jrEq.m (σ := σ33) (σ' := σ73) ⟨⟨(f75 56 (by decide)), (f75 60 (by decide)), (f75 61 (by decide)), (f75 62 (by decide)), (f75 64 (by decide)), (f75 65 (by decide))⟩, (f76 6 (by decide)), (f76 9 (by decide)), (f76 10 (by decide)), (f76 12 (by decide)), (f76 13 (by decide)), (f76 30 (by decide)), (f76 31 (by decide)), (f76 42 (by decide))⟩ (f75 78 (by decide)) (f75 74 (by decide)) (f75 75 (by decide)) (f75 76 (by decide)) (f75 77 (by decide)) q.2)⟩) hP hS (lv_sub hl [0, 3, 4, 5, 6] rfl)
                    · have kc83 := jnle c83 rfl rfl
                      refine lv_iload hx hb dX12_putsOn_243 (lv_at hl 2 rfl) ?_
                      refine lv_istore_n (lv' := [(2, .int x30), (6, .int r74), (5, .int 0), (4, .int x30), (3, .int x29), (0, .ref (ad 55)), (1, .int a1)]) hx hb dX12_putsOn_245 rfl hl (by decide) rfl (fun ls hl => ?_)
                      refine lv_iload hx hb dX12_putsOn_246 (lv_at hl 1 rfl) ?_
                      refine lv_istore_n (lv' := [(3, .int r74), (2, .int x30), (6, .int r74), (5, .int 0), (4, .int x30), (0, .ref (ad 55)), (1, .int a1)]) hx hb dX12_putsOn_248 rfl hl (by decide) rfl (fun ls hl => ?_)
                      obtain ⟨x85, ex85⟩ : ∃ y : Int32, y = x30 + 1 := ⟨_, rfl⟩
                      have tx85 : x85.toInt = x30.toInt + 1 := (jadd ex85 rfl jz_1 (by omega) (by omega)).trans (by omega)
                      refine lv_iinc (v := x85) (lv' := [(4, .int x85), (3, .int r74), (2, .int x30), (6, .int r74), (5, .int 0), (0, .ref (ad 55)), (1, .int a1)]) hx hb dX12_putsOn_249 hl (k := 4) rfl (by rw [ex85]; rfl) (by decide) rfl (fun ls hl => ?_)
                      refine lv_goto (tgt := 113) hx hb dX12_putsOn_252 (by decide) ?_
                      exact ihlp26 x30 r74 x85 σ73 _ _ ls (by have h92 := tx85; omega) (by have h92 := tx85; omega) (by have h92 := tx85; omega) (by have h92 := tx85; omega) (by have h92 := tx85; omega) (by have h92 := tx85; omega) (fun i hi => ((f75 i hi).trans (f41 i hi))) (fun i hi => ((f76 i hi).trans (f42 i hi)))  (fun pr mm => by have prh := H44 pr; have q := q43 pr mm; have my := (prh.my (by omega) (by omega) (by omega)).mp k62; rw [H47, H45] at my; have ge := G80 pr; exact ⟨q.1.take (v := (r74 : Int32).toInt) (by omega) my (Or.inr ⟨by rw [(show (σ 70 (A1).toNat).toInt = (σ 70 a1.toNatClampNeg).toInt from by rw [jnc (show a1.toInt = A1 from t1)])]; omega, ge, (by omega)⟩) (by omega) (by omega) (by have h9 := tx85; omega), (jrEq.m (σ := σ33) (σ' := σ73) ⟨⟨(f75 56 (by decide)), (f75 60 (by decide)), (f75 61 (by decide)), (f75 62 (by decide)), (f75 64 (by decide)), (f75 65 (by decide))⟩, (f76 6 (by decide)), (f76 9 (by decide)), (f76 10 (by decide)), (f76 12 (by decide)), (f76 13 (by decide)), (f76 30 (by decide)), (f76 31 (by decide)), (f76 42 (by decide))⟩ (f75 78 (by decide)) (f75 74 (by decide)) (f75 75 (by decide)) (f75 76 (by decide)) (f75 77 (by decide)) q.2)⟩) hP hS (lv_sub hl [0, 1, 2, 5, 6] rfl)
                · have kc64 := jeq c64 rfl jz_6
                  refine lv_iconst (v := 1) hx hb dX12_putsOn_145 (by decide) ?_
                  refine lv_goto (tgt := 150) hx hb dX12_putsOn_146 (by decide) ?_
                  refine lv_istore (lv' := [(5, .int 1), (4, .int x30), (3, .int x29), (2, .int x28), (0, .ref (ad 55)), (1, .int a1)]) hx hb dX12_putsOn_150 hl (by decide) rfl (fun ls hl => ?_)
                  refine lv_iload hx hb dX12_putsOn_152 (lv_at hl 0 rfl) ?_
                  refine lv_if_ne (tgt := 167) hx hb dX12_putsOn_154 (by decide) (fun _ => ?_) (fun c => absurd c (by decide))
                  refine lv_aload_n hx hb dX12_putsOn_167 rfl (lv_at hl 4 rfl) ?_
                  refine va_get (D := D) hx hb hts inlX12 hown hK hP 55 (jc_55 cI cL ad σ33 τ) rfl 17 (by decide) (hts _ kw_7_11) (fun _ h9 => h9) rfl dX12_putsOn_168 ?_
                  refine lv_iconst (v := 0) hx hb dX12_putsOn_171 (by decide) ?_
                  refine jald hx hb hK hP (jc_65 cI cL ad σ33 τ) (jin jz_0 (by omega) (by omega)) dX12_putsOn_172 ?_
                  refine jtopr (y := σ33 65 0) rfl ?_
                  have m86 : σ33 65 0 = (σ 65 0) := (congrFun (f41 65 (by decide)) 0)
                  refine jtopr m86 ?_
                  have w87 : ∀ k : Nat, k < 2 → (-1) ≤ (σ33 65 k).toInt ∧ (σ33 65 k).toInt ≤ 80 := (jrr_fr (f41 65 (by decide)) w10)
                  have g88 := w87 0 (by decide)
                  rw [m86] at g88
                  refine lv_if_ge (tgt := 180) hx hb dX12_putsOn_173 (by decide) (fun c89 => ?_) (fun c89 => ?_)
                  · have kc89 := jle c89 jz_0 rfl
                    refine lv_aload_n hx hb dX12_putsOn_180 rfl (lv_at hl 4 rfl) ?_
                    refine lv_iconst (v := 0) hx hb dX12_putsOn_181 (by decide) ?_
                    refine lv_iload hx hb dX12_putsOn_182 (lv_at hl 1 rfl) ?_
                    refine lv_aload_n hx hb dX12_putsOn_184 rfl (lv_at hl 4 rfl) ?_
                    refine va_get (D := D) hx hb hts inlX12 hown hK hP 55 (jc_55 cI cL ad σ33 τ) rfl 11 (by decide) (hts _ kw_7_8) (fun _ h9 => h9) rfl dX12_putsOn_185 ?_
                    refine lv_aload_n hx hb dX12_putsOn_188 rfl (lv_at hl 4 rfl) ?_
                    refine va_get (D := D) hx hb hts inlX12 hown hK hP 55 (jc_55 cI cL ad σ33 τ) rfl 25 (by decide) (hts _ kw_23_6) (fun _ h9 => h9) rfl dX12_putsOn_189 ?_
                    have m90 : σ33 55 25 = (σ 55 25) := (f42 25 (by decide))
                    refine jtopr m90 ?_
                    refine jald hx hb hK hP (jc_62 cI cL ad σ33 τ) (jin rfl (by omega) (by omega)) dX12_putsOn_192 ?_
                    have w91 : ∀ k : Nat, k < 8 → 0 ≤ (σ33 62 k).toInt ∧ (σ33 62 k).toInt ≤ 3 := (jrr_fr (f41 62 (by decide)) w7)
                    have g92 := w91 _ (jnat (x := (σ 55 25)) rfl (n := 8) (by omega) (by decide))
                    refine jtopr (y := (σ 62 (σ 55 25).toNatClampNeg)) (by rw [f41 62 (by decide)]) ?_
                    rw [f41 62 (by decide)] at g92
                    refine lv_aload_n hx hb dX12_putsOn_193 rfl (lv_at hl 4 rfl) ?_
                    refine lv_iload hx hb dX12_putsOn_194 (lv_at hl 1 rfl) ?_
                    refine lv_aload_n hx hb dX12_putsOn_196 rfl (lv_at hl 4 rfl) ?_
                    refine va_get (D := D) hx hb hts inlX12 hown hK hP 55 (jc_55 cI cL ad σ33 τ) rfl 11 (by decide) (hts _ kw_7_8) (fun _ h9 => h9) rfl dX12_putsOn_197 ?_
                    refine lv_aload_n hx hb dX12_putsOn_200 rfl (lv_at hl 4 rfl) ?_
                    refine va_get (D := D) hx hb hts inlX12 hown hK hP 55 (jc_55 cI cL ad σ33 τ) rfl 25 (by decide) (hts _ kw_23_6) (fun _ h9 => h9) rfl dX12_putsOn_201 ?_
                    refine jtopr m90 ?_
                    refine jald hx hb hK hP (jc_62 cI cL ad σ33 τ) (jin rfl (by omega) (by omega)) dX12_putsOn_204 ?_
                    refine jtopr (y := (σ 62 (σ 55 25).toNatClampNeg)) (by rw [f41 62 (by decide)]) ?_
                    have I93 : jI101 σ33 := jI101_fr (f42 4 (by decide)) (f42 5 (by decide)) (f41 56 (by decide)) (f41 57 (by decide)) (f41 58 (by decide)) (f41 59 (by decide)) hI101
                    have I94 : jI102 σ33 := jI102_fr (f42 6 (by decide)) (f41 60 (by decide)) (f41 61 (by decide)) hI102
                    have I95 : jI103 σ33 := jI103_fr (f42 9 (by decide)) hI103
                    have I96 : jI105 σ33 := jI105_fr (f42 15 (by decide)) (f41 65 (by decide)) hI105
                    have w97 : ∀ k : Nat, k < 4 → 0 ≤ (σ33 68 k).toInt ∧ (σ33 68 k).toInt ≤ 3 := (jrr_fr (f41 68 (by decide)) w20)
                    have p98 : jTR σ33 := jTR.fr (f41 64 (by decide)) (f41 65 (by decide)) hs_jTR
                    refine jcallV (As := [.int x30, .int (σ 62 (σ 55 25).toNatClampNeg)]) (rest := [.int (σ 62 (σ 55 25).toNatClampNeg), .int x30, .int 0, .ref (ad 55)]) ⟨hx, hb, hml, hown, hts⟩ hK hP hA hS hZ (c_X12_outBy l D cI cL ad zz hJ σ33 τ x30 (x30.toInt) rfl (σ 62 (σ 55 25).toNatClampNeg) ((σ 62 (σ 55 25).toNatClampNeg).toInt) rfl I93 I94 I95 I96 w97 p98 (by omega) (by omega)) cw_RX12_259 (jc_55 cI cL ad σ33 τ) rfl ⟨Nat.le_of_ble_eq_true rfl, Nat.le_of_ble_eq_true rfl⟩ rfl rfl rfl hl.1 rfl (Nat.le_of_ble_eq_true rfl) dX12_putsOn_205 ⟨Nat.zero_le _, Nat.zero_le _⟩ (fun r100 σ99 τ99 H locs h99 hP hS => ?_)
                    obtain ⟨rfl, f101, f102, p103, w104, h99⟩ := h99
                    have h106 := h99
                    obtain ⟨q108, k107⟩ := h106
                    refine lv_aload_n hx hb dX12_putsOn_208 rfl (lv_at hl 4 rfl) ?_
                    refine va_get (D := D) hx hb hts inlX12 hown hK hP 55 (jc_55 cI cL ad σ99 τ) rfl 36 (by decide) (hts _ kw_7_21) (fun _ h9 => h9) rfl dX12_putsOn_209 ?_
                    refine lv_iload_n hx hb dX12_putsOn_212 rfl (lv_at hl 5 rfl) ?_
                    refine jald hx hb hK hP (jc_73 cI cL ad σ99 τ) (jin t1 (by omega) (by omega)) dX12_putsOn_213 ?_
                    refine jtopr (y := (σ 73 a1.toNatClampNeg)) (by rw [f101 73 (by decide), f41 73 (by decide)]) ?_
                    have I109 : jI105 σ99 := jI105_fr (f102 15 (by decide)) (f101 65 (by decide)) I96
                    have z110 : (σ99 65 0).toInt = (σ 65 0).toInt := (congrArg Int32.toInt (show σ99 65 0 = (σ 65 0) from ((congrFun (f101 65 (by decide)) 0).trans m86)))
                    refine jcallV (As := [.int 0, .int x30, .int (σ 62 (σ 55 25).toNatClampNeg), .int r100, .int (σ 73 a1.toNatClampNeg)]) (rest := []) ⟨hx, hb, hml, hown, hts⟩ hK hP hA hS hZ (c_X12_textGives_0 l D cI cL ad zz hJ σ99 τ x30 (x30.toInt) rfl (σ 62 (σ 55 25).toNatClampNeg) ((σ 62 (σ 55 25).toNatClampNeg).toInt) rfl r100 (r100.toInt) rfl (σ 73 a1.toNatClampNeg) ((σ 73 a1.toNatClampNeg).toInt) rfl I109 p103 (by omega) (by omega)) cw_RX12_252 (jc_55 cI cL ad σ99 τ) rfl ⟨Nat.le_of_ble_eq_true rfl, Nat.le_of_ble_eq_true rfl⟩ rfl rfl rfl hl.1 rfl (Nat.le_of_ble_eq_true rfl) dX12_putsOn_214 ⟨Nat.zero_le _, Nat.zero_le _⟩ (fun r112 σ111 τ111 H locs h111 hP hS => ?_)
                    obtain ⟨rfl, f113, f114, p115, w116, h111⟩ := h111
                    have z118 : (σ99 55 25).toInt = (σ 55 25).toInt := (congrArg Int32.toInt (show σ99 55 25 = (σ 55 25) from ((f102 25 (by decide)).trans m90)))
                    have z119 : (σ99 55 26).toInt = (σ 55 26).toInt := (congrArg Int32.toInt (show σ99 55 26 = (σ 55 26) from ((f102 26 (by decide)).trans (f42 26 (by decide)))))
                    have z120 : (σ99 55 6).toInt = (σ 55 6).toInt := (congrArg Int32.toInt (show σ99 55 6 = (σ 55 6) from ((f102 6 (by decide)).trans m52)))
                    have G121 : jrP σ → (r112 : Int32).toInt = jrRg σ (A1) (x30 : Int32).toInt.toNat := fun pr => by have c := jrCh_of (c := (x30 : Int32).toInt.toNat) (X := (σ 62 (σ 55 25).toInt.toNat).toInt) w104 ((jrEq.v (σ := σ) (σ' := σ33) ⟨⟨(f41 56 (by decide)), (f41 60 (by decide)), (f41 61 (by decide)), (f41 62 (by decide)), (f41 64 (by decide)), (f41 65 (by decide))⟩, (f42 6 (by decide)), (f42 9 (by decide)), (f42 10 (by decide)), (f42 12 (by decide)), (f42 13 (by decide)), (f42 30 (by decide)), (f42 31 (by decide)), (f42 42 (by decide))⟩ (f41 68 (by decide)) (f41 69 (by decide)) (f42 25 (by decide)) (f42 26 (by decide)) (f42 27 (by decide))).2 pr) (by omega) (by omega) (by omega) rfl (w7 _ (by omega)) (by omega) (by omega) ((jmb_fr rfl rfl rfl rfl rfl x30).trans k62); rw [(jrEq.ch (σ := σ) (σ' := σ33) ⟨⟨(f41 56 (by decide)), (f41 60 (by decide)), (f41 61 (by decide)), (f41 62 (by decide)), (f41 64 (by decide)), (f41 65 (by decide))⟩, (f42 6 (by decide)), (f42 9 (by decide)), (f42 10 (by decide)), (f42 12 (by decide)), (f42 13 (by decide)), (f42 30 (by decide)), (f42 31 (by decide)), (f42 42 (by decide))⟩ (f41 68 (by decide)) (f41 69 (by decide)) (f42 25 (by decide)) (f42 26 (by decide))).1, (jrEq.ch (σ := σ) (σ' := σ33) ⟨⟨(f41 56 (by decide)), (f41 60 (by decide)), (f41 61 (by decide)), (f41 62 (by decide)), (f41 64 (by decide)), (f41 65 (by decide))⟩, (f42 6 (by decide)), (f42 9 (by decide)), (f42 10 (by decide)), (f42 12 (by decide)), (f42 13 (by decide)), (f42 30 (by decide)), (f42 31 (by decide)), (f42 42 (by decide))⟩ (f41 68 (by decide)) (f41 69 (by decide)) (f42 25 (by decide)) (f42 26 (by decide))).2.2.1, (jrEq.ch (σ := σ) (σ' := σ33) ⟨⟨(f41 56 (by decide)), (f41 60 (by decide)), (f41 61 (by decide)), (f41 62 (by decide)), (f41 64 (by decide)), (f41 65 (by decide))⟩, (f42 6 (by decide)), (f42 9 (by decide)), (f42 10 (by decide)), (f42 12 (by decide)), (f42 13 (by decide)), (f42 30 (by decide)), (f42 31 (by decide)), (f42 42 (by decide))⟩ (f41 68 (by decide)) (f41 69 (by decide)) (f42 25 (by decide)) (f42 26 (by decide))).2.2.2, show σ33 55 25 = σ 55 25 from (f42 25 (by decide)), show σ33 55 26 = σ 55 26 from (f42 26 (by decide))] at c; have tt := jrTx_of (c := (x30 : Int32).toInt.toNat) (X := (σ 62 (σ 55 25).toInt.toNat).toInt) (ρ := A1) w116 ((jrEq.v (σ := σ) (σ' := σ99) ⟨⟨((f101 56 (by decide)).trans (f41 56 (by decide))), ((f101 60 (by decide)).trans (f41 60 (by decide))), ((f101 61 (by decide)).trans (f41 61 (by decide))), ((f101 62 (by decide)).trans (f41 62 (by decide))), ((f101 64 (by decide)).trans (f41 64 (by decide))), ((f101 65 (by decide)).trans (f41 65 (by decide)))⟩, ((f102 6 (by decide)).trans (f42 6 (by decide))), ((f102 9 (by decide)).trans (f42 9 (by decide))), ((f102 10 (by decide)).trans (f42 10 (by decide))), ((f102 12 (by decide)).trans (f42 12 (by decide))), ((f102 13 (by decide)).trans (f42 13 (by decide))), ((f102 30 (by decide)).trans (f42 30 (by decide))), ((f102 31 (by decide)).trans (f42 31 (by decide))), ((f102 42 (by decide)).trans (f42 42 (by decide)))⟩ ((f101 68 (by decide)).trans (f41 68 (by decide))) ((f101 69 (by decide)).trans (f41 69 (by decide))) ((f102 25 (by decide)).trans (f42 25 (by decide))) ((f102 26 (by decide)).trans (f42 26 (by decide))) ((f102 27 (by decide)).trans (f42 27 (by decide)))).2 pr) (by omega) (by omega) (by omega) (by first | rfl | (rw [show σ99 62 = σ 62 from ((f101 62 (by decide)).trans (f41 62 (by decide)))]; rfl)) (w7 _ (by omega)) (by omega) (by omega) ((jmb_fr (f102 27 (by decide)) (f102 30 (by decide)) (f102 31 (by decide)) (f101 56 (by decide)) (f101 69 (by decide)) x30).trans k62) (by omega) (by omega) (by rw [show σ99 73 = σ 73 from ((f101 73 (by decide)).trans (f41 73 (by decide)))]; rw [← jnc (show a1.toInt = A1 from t1)]); rw [(show jrEq σ σ99 from ⟨⟨((f101 56 (by decide)).trans (f41 56 (by decide))), ((f101 60 (by decide)).trans (f41 60 (by decide))), ((f101 61 (by decide)).trans (f41 61 (by decide))), ((f101 62 (by decide)).trans (f41 62 (by decide))), ((f101 64 (by decide)).trans (f41 64 (by decide))), ((f101 65 (by decide)).trans (f41 65 (by decide)))⟩, ((f102 6 (by decide)).trans (f42 6 (by decide))), ((f102 9 (by decide)).trans (f42 9 (by decide))), ((f102 10 (by decide)).trans (f42 10 (by decide))), ((f102 12 (by decide)).trans (f42 12 (by decide))), ((f102 13 (by decide)).trans (f42 13 (by decide))), ((f102 30 (by decide)).trans (f42 30 (by decide))), ((f102 31 (by decide)).trans (f42 31 (by decide))), ((f102 42 (by decide)).trans (f42 42 (by decide)))⟩).tx ((f101 73 (by decide)).trans (f41 73 (by decide))), ((show jrEq σ σ99 from ⟨⟨((f101 56 (by decide)).trans (f41 56 (by decide))), ((f101 60 (by decide)).trans (f41 60 (by decide))), ((f101 61 (by decide)).trans (f41 61 (by decide))), ((f101 62 (by decide)).trans (f41 62 (by decide))), ((f101 64 (by decide)).trans (f41 64 (by decide))), ((f101 65 (by decide)).trans (f41 65 (by decide)))⟩, ((f102 6 (by decide)).trans (f42 6 (by decide))), ((f102 9 (by decide)).trans (f42 9 (by decide))), ((f102 10 (by decide)).trans (f42 10 (by decide))), ((f102 12 (by decide)).trans (f42 12 (by decide))), ((f102 13 (by decide)).trans (f42 13 (by decide))), ((f102 30 (by decide)).trans (f42 30 (by decide))), ((f102 31 (by decide)).trans (f42 31 (by decide))), ((f102 42 (by decide)).trans (f42 42 (by decide)))⟩).ch ((f101 68 (by decide)).trans (f41 68 (by decide))) ((f101 69 (by decide)).trans (f41 69 (by decide))) ((f102 25 (by decide)).trans (f42 25 (by decide))) ((f102 26 (by decide)).trans (f42 26 (by decide)))).2.2.1, ((show jrEq σ σ99 from ⟨⟨((f101 56 (by decide)).trans (f41 56 (by decide))), ((f101 60 (by decide)).trans (f41 60 (by decide))), ((f101 61 (by decide)).trans (f41 61 (by decide))), ((f101 62 (by decide)).trans (f41 62 (by decide))), ((f101 64 (by decide)).trans (f41 64 (by decide))), ((f101 65 (by decide)).trans (f41 65 (by decide)))⟩, ((f102 6 (by decide)).trans (f42 6 (by decide))), ((f102 9 (by decide)).trans (f42 9 (by decide))), ((f102 10 (by decide)).trans (f42 10 (by decide))), ((f102 12 (by decide)).trans (f42 12 (by decide))), ((f102 13 (by decide)).trans (f42 13 (by decide))), ((f102 30 (by decide)).trans (f42 30 (by decide))), ((f102 31 (by decide)).trans (f42 31 (by decide))), ((f102 42 (by decide)).trans (f42 42 (by decide)))⟩).ch ((f101 68 (by decide)).trans (f41 68 (by decide))) ((f101 69 (by decide)).trans (f41 69 (by decide))) ((f102 25 (by decide)).trans (f42 25 (by decide))) ((f102 26 (by decide)).trans (f42 26 (by decide)))).2.2.2, show σ99 55 25 = σ 55 25 from ((f102 25 (by decide)).trans (f42 25 (by decide))), show σ99 55 26 = σ 55 26 from ((f102 26 (by decide)).trans (f42 26 (by decide))), c] at tt; rw [jrRg_6 (by rw [(show (σ 70 (A1).toNat).toInt = (σ 70 a1.toNatClampNeg).toInt from by rw [jnc (show a1.toInt = A1 from t1)])]; omega)]; exact tt
                    refine lv_istore (lv' := [(6, .int r112), (5, .int 1), (4, .int x30), (3, .int x29), (2, .int x28), (0, .ref (ad 55)), (1, .int a1)]) hx hb dX12_putsOn_217 hl (by decide) rfl (fun ls hl => ?_)
                    refine lv_iload_n hx hb dX12_putsOn_219 rfl (lv_at hl 4 rfl) ?_
                    refine lv_if_lt (tgt := 243) hx hb dX12_putsOn_220 (by decide) (fun c122 => ?_) (fun c122 => ?_)
                    · have kc122 := jlt c122 rfl jz_0
                      refine lv_iload hx hb dX12_putsOn_243 (lv_at hl 2 rfl) ?_
                      refine lv_istore_n (lv' := [(2, .int x30), (6, .int r112), (5, .int 1), (4, .int x30), (3, .int x29), (0, .ref (ad 55)), (1, .int a1)]) hx hb dX12_putsOn_245 rfl hl (by decide) rfl (fun ls hl => ?_)
                      refine lv_iload hx hb dX12_putsOn_246 (lv_at hl 1 rfl) ?_
                      refine lv_istore_n (lv' := [(3, .int r112), (2, .int x30), (6, .int r112), (5, .int 1), (4, .int x30), (0, .ref (ad 55)), (1, .int a1)]) hx hb dX12_putsOn_248 rfl hl (by decide) rfl (fun ls hl => ?_)
                      obtain ⟨x123, ex123⟩ : ∃ y : Int32, y = x30 + 1 := ⟨_, rfl⟩
                      have tx123 : x123.toInt = x30.toInt + 1 := (jadd ex123 rfl jz_1 (by omega) (by omega)).trans (by omega)
                      refine lv_iinc (v := x123) (lv' := [(4, .int x123), (3, .int r112), (2, .int x30), (6, .int r112), (5, .int 1), (0, .ref (ad 55)), (1, .int a1)]) hx hb dX12_putsOn_249 hl (k := 4) rfl (by rw [ex123]; rfl) (by decide) rfl (fun ls hl => ?_)
                      refine lv_goto (tgt := 113) hx hb dX12_putsOn_252 (by decide) ?_
                      exact ihlp26 x30 r112 x123 σ111 _ _ ls (by have h92 := tx123; omega) (by have h92 := tx123; omega) (by have h92 := tx123; omega) (by have h92 := tx123; omega) (by have h92 := tx123; omega) (by have h92 := tx123; omega) (fun i hi => ((f113 i hi).trans ((f101 i hi).trans (f41 i hi)))) (fun i hi => ((f114 i hi).trans ((f102 i hi).trans (f42 i hi))))  (fun pr mm => by have prh := H44 pr; have q := q43 pr mm; have my := (prh.my (by omega) (by omega) (by omega)).mp k62; rw [H47, H45] at my; have ge := G121 pr; exact ⟨q.1.take (v := (r112 : Int32).toInt) (by omega) my (Or.inl ⟨by rw [(show (σ 70 (A1).toNat).toInt = (σ 70 a1.toNatClampNeg).toInt from by rw [jnc (show a1.toInt = A1 from t1)])]; omega, ge, (by omega)⟩) (by omega) (by omega) (by have h9 := tx123; omega), (jrEq.m (σ := σ33) (σ' := σ111) ⟨⟨((f113 56 (by decide)).trans (f101 56 (by decide))), ((f113 60 (by decide)).trans (f101 60 (by decide))), ((f113 61 (by decide)).trans (f101 61 (by decide))), ((f113 62 (by decide)).trans (f101 62 (by decide))), ((f113 64 (by decide)).trans (f101 64 (by decide))), ((f113 65 (by decide)).trans (f101 65 (by decide)))⟩, ((f114 6 (by decide)).trans (f102 6 (by decide))), ((f114 9 (by decide)).trans (f102 9 (by decide))), ((f114 10 (by decide)).trans (f102 10 (by decide))), ((f114 12 (by decide)).trans (f102 12 (by decide))), ((f114 13 (by decide)).trans (f102 13 (by decide))), ((f114 30 (by decide)).trans (f102 30 (by decide))), ((f114 31 (by decide)).trans (f102 31 (by decide))), ((f114 42 (by decide)).trans (f102 42 (by decide)))⟩ ((f113 78 (by decide)).trans (f101 78 (by decide))) ((f113 74 (by decide)).trans (f101 74 (by decide))) ((f113 75 (by decide)).trans (f101 75 (by decide))) ((f113 76 (by decide)).trans (f101 76 (by decide))) ((f113 77 (by decide)).trans (f101 77 (by decide))) q.2)⟩) hP hS (lv_sub hl [0, 1, 2, 5, 6] rfl)
                    · have kc122 := jnlt c122 rfl jz_0
                      refine lv_iload hx hb dX12_putsOn_223 (lv_at hl 1 rfl) ?_
                      refine lv_if_eq (tgt := 237) hx hb dX12_putsOn_225 (by decide) (fun c => absurd c (by decide)) (fun _ => ?_)
                      refine lv_iload hx hb dX12_putsOn_228 (lv_at hl 0 rfl) ?_
                      refine lv_iload_n hx hb dX12_putsOn_230 rfl (lv_at hl 3 rfl) ?_
                      refine lv_icmp_le (tgt := 249) hx hb dX12_putsOn_231 (by decide) (fun c124 => ?_) (fun c124 => ?_)
                      · have kc124 := jle c124 rfl rfl
                        obtain ⟨x125, ex125⟩ : ∃ y : Int32, y = x30 + 1 := ⟨_, rfl⟩
                        have tx125 : x125.toInt = x30.toInt + 1 := (jadd ex125 rfl jz_1 (by omega) (by omega)).trans (by omega)
                        refine lv_iinc (v := x125) (lv' := [(4, .int x125), (6, .int r112), (5, .int 1), (3, .int x29), (2, .int x28), (0, .ref (ad 55)), (1, .int a1)]) hx hb dX12_putsOn_249 hl (k := 2) rfl (by rw [ex125]; rfl) (by decide) rfl (fun ls hl => ?_)
                        refine lv_goto (tgt := 113) hx hb dX12_putsOn_252 (by decide) ?_
                        exact ihlp26 x28 x29 x125 σ111 _ _ ls (by have h92 := tx125; omega) (by have h92 := tx125; omega) (by have h92 := tx125; omega) (by have h92 := tx125; omega) (by have h92 := tx125; omega) (by have h92 := tx125; omega) (fun i hi => ((f113 i hi).trans ((f101 i hi).trans (f41 i hi)))) (fun i hi => ((f114 i hi).trans ((f102 i hi).trans (f42 i hi))))  (fun pr mm => by have prh := H44 pr; have q := q43 pr mm; have ge := G121 pr; exact ⟨q.1.keep (v := (r112 : Int32).toInt) (by omega) (Or.inl ⟨by rw [(show (σ 70 (A1).toNat).toInt = (σ 70 a1.toNatClampNeg).toInt from by rw [jnc (show a1.toInt = A1 from t1)])]; omega, ge, (by omega)⟩) (by have h9 := tx125; omega), (jrEq.m (σ := σ33) (σ' := σ111) ⟨⟨((f113 56 (by decide)).trans (f101 56 (by decide))), ((f113 60 (by decide)).trans (f101 60 (by decide))), ((f113 61 (by decide)).trans (f101 61 (by decide))), ((f113 62 (by decide)).trans (f101 62 (by decide))), ((f113 64 (by decide)).trans (f101 64 (by decide))), ((f113 65 (by decide)).trans (f101 65 (by decide)))⟩, ((f114 6 (by decide)).trans (f102 6 (by decide))), ((f114 9 (by decide)).trans (f102 9 (by decide))), ((f114 10 (by decide)).trans (f102 10 (by decide))), ((f114 12 (by decide)).trans (f102 12 (by decide))), ((f114 13 (by decide)).trans (f102 13 (by decide))), ((f114 30 (by decide)).trans (f102 30 (by decide))), ((f114 31 (by decide)).trans (f102 31 (by decide))), ((f114 42 (by decide)).trans (f102 42 (by decide)))⟩ ((f113 78 (by decide)).trans (f101 78 (by decide))) ((f113 74 (by decide)).trans (f101 74 (by decide))) ((f113 75 (by decide)).trans (f101 75 (by decide))) ((f113 76 (by decide)).trans (f101 76 (by decide))) ((f113 77 (by decide)).trans (f101 77 (by decide))) q.2)⟩) hP hS (lv_sub hl [0, 3, 4, 5, 6] rfl)
                      · have kc124 := jnle c124 rfl rfl
                        refine lv_goto (tgt := 243) hx hb dX12_putsOn_234 (by decide) ?_
                        refine lv_iload hx hb dX12_putsOn_243 (lv_at hl 2 rfl) ?_
                        refine lv_istore_n (lv' := [(2, .int x30), (6, .int r112), (5, .int 1), (4, .int x30), (3, .int x29), (0, .ref (ad 55)), (1, .int a1)]) hx hb dX12_putsOn_245 rfl hl (by decide) rfl (fun ls hl => ?_)
                        refine lv_iload hx hb dX12_putsOn_246 (lv_at hl 1 rfl) ?_
                        refine lv_istore_n (lv' := [(3, .int r112), (2, .int x30), (6, .int r112), (5, .int 1), (4, .int x30), (0, .ref (ad 55)), (1, .int a1)]) hx hb dX12_putsOn_248 rfl hl (by decide) rfl (fun ls hl => ?_)
                        obtain ⟨x126, ex126⟩ : ∃ y : Int32, y = x30 + 1 := ⟨_, rfl⟩
                        have tx126 : x126.toInt = x30.toInt + 1 := (jadd ex126 rfl jz_1 (by omega) (by omega)).trans (by omega)
                        refine lv_iinc (v := x126) (lv' := [(4, .int x126), (3, .int r112), (2, .int x30), (6, .int r112), (5, .int 1), (0, .ref (ad 55)), (1, .int a1)]) hx hb dX12_putsOn_249 hl (k := 4) rfl (by rw [ex126]; rfl) (by decide) rfl (fun ls hl => ?_)
                        refine lv_goto (tgt := 113) hx hb dX12_putsOn_252 (by decide) ?_
                        exact ihlp26 x30 r112 x126 σ111 _ _ ls (by have h92 := tx126; omega) (by have h92 := tx126; omega) (by have h92 := tx126; omega) (by have h92 := tx126; omega) (by have h92 := tx126; omega) (by have h92 := tx126; omega) (fun i hi => ((f113 i hi).trans ((f101 i hi).trans (f41 i hi)))) (fun i hi => ((f114 i hi).trans ((f102 i hi).trans (f42 i hi))))  (fun pr mm => by have prh := H44 pr; have q := q43 pr mm; have my := (prh.my (by omega) (by omega) (by omega)).mp k62; rw [H47, H45] at my; have ge := G121 pr; exact ⟨q.1.take (v := (r112 : Int32).toInt) (by omega) my (Or.inl ⟨by rw [(show (σ 70 (A1).toNat).toInt = (σ 70 a1.toNatClampNeg).toInt from by rw [jnc (show a1.toInt = A1 from t1)])]; omega, ge, (by omega)⟩) (by omega) (by omega) (by have h9 := tx126; omega), (jrEq.m (σ := σ33) (σ' := σ111) ⟨⟨((f113 56 (by decide)).trans (f101 56 (by decide))), ((f113 60 (by decide)).trans (f101 60 (by decide))), ((f113 61 (by decide)).trans (f101 61 (by decide))), ((f113 62 (by decide)).trans (f101 62 (by decide))), ((f113 64 (by decide)).trans (f101 64 (by decide))), ((f113 65 (by decide)).trans (f101 65 (by decide)))⟩, ((f114 6 (by decide)).trans (f102 6 (by decide))), ((f114 9 (by decide)).trans (f102 9 (by decide))), ((f114 10 (by decide)).trans (f102 10 (by decide))), ((f114 12 (by decide)).trans (f102 12 (by decide))), ((f114 13 (by decide)).trans (f102 13 (by decide))), ((f114 30 (by decide)).trans (f102 30 (by decide))), ((f114 31 (by decide)).trans (f102 31 (by decide))), ((f114 42 (by decide)).trans (f102 42 (by decide)))⟩ ((f113 78 (by decide)).trans (f101 78 (by decide))) ((f113 74 (by decide)).trans (f101 74 (by decide))) ((f113 75 (by decide)).trans (f101 75 (by decide))) ((f113 76 (by decide)).trans (f101 76 (by decide))) ((f113 77 (by decide)).trans (f101 77 (by decide))) q.2)⟩) hP hS (lv_sub hl [0, 1, 2, 5, 6] rfl)
                  · have kc89 := jnle c89 jz_0 rfl
                    refine lv_iconst (v := 0) hx hb dX12_putsOn_176 (by decide) ?_
                    refine lv_goto (tgt := 217) hx hb dX12_putsOn_177 (by decide) ?_
                    refine lv_istore (lv' := [(6, .int 0), (5, .int 1), (4, .int x30), (3, .int x29), (2, .int x28), (0, .ref (ad 55)), (1, .int a1)]) hx hb dX12_putsOn_217 hl (by decide) rfl (fun ls hl => ?_)
                    refine lv_iload_n hx hb dX12_putsOn_219 rfl (lv_at hl 4 rfl) ?_
                    refine lv_if_lt (tgt := 243) hx hb dX12_putsOn_220 (by decide) (fun c127 => ?_) (fun c127 => ?_)
                    · have kc127 := jlt c127 rfl jz_0
                      refine lv_iload hx hb dX12_putsOn_243 (lv_at hl 2 rfl) ?_
                      refine lv_istore_n (lv' := [(2, .int x30), (6, .int 0), (5, .int 1), (4, .int x30), (3, .int x29), (0, .ref (ad 55)), (1, .int a1)]) hx hb dX12_putsOn_245 rfl hl (by decide) rfl (fun ls hl => ?_)
                      refine lv_iload hx hb dX12_putsOn_246 (lv_at hl 1 rfl) ?_
                      refine lv_istore_n (lv' := [(3, .int 0), (2, .int x30), (6, .int 0), (5, .int 1), (4, .int x30), (0, .ref (ad 55)), (1, .int a1)]) hx hb dX12_putsOn_248 rfl hl (by decide) rfl (fun ls hl => ?_)
                      obtain ⟨x128, ex128⟩ : ∃ y : Int32, y = x30 + 1 := ⟨_, rfl⟩
                      have tx128 : x128.toInt = x30.toInt + 1 := (jadd ex128 rfl jz_1 (by omega) (by omega)).trans (by omega)
                      refine lv_iinc (v := x128) (lv' := [(4, .int x128), (3, .int 0), (2, .int x30), (6, .int 0), (5, .int 1), (0, .ref (ad 55)), (1, .int a1)]) hx hb dX12_putsOn_249 hl (k := 4) rfl (by rw [ex128]; rfl) (by decide) rfl (fun ls hl => ?_)
                      refine lv_goto (tgt := 113) hx hb dX12_putsOn_252 (by decide) ?_
                      exact ihlp26 x30 0 x128 σ33 _ _ ls (by have h91 := jz_0; have h92 := tx128; omega) (by have h91 := jz_0; have h92 := tx128; omega) (by have h91 := jz_0; have h92 := tx128; omega) (by have h91 := jz_0; have h92 := tx128; omega) (by have h91 := jz_0; have h92 := tx128; omega) (by have h91 := jz_0; have h92 := tx128; omega) (fun i hi => (f41 i hi)) (fun i hi => (f42 i hi))  (fun pr mm => by have prh := H44 pr; have q := q43 pr mm; have my := (prh.my (by omega) (by omega) (by omega)).mp k62; rw [H47, H45] at my; have ge : (0 : Int) = jrRg σ (A1) (x30 : Int32).toInt.toNat := (by rw [jrRg_6 (by rw [(show (σ 70 (A1).toNat).toInt = (σ 70 a1.toNatClampNeg).toInt from by rw [jnc (show a1.toInt = A1 from t1)])]; omega), jrTx_no (by omega)]); exact ⟨q.1.take (v := 0) (by omega) my (Or.inl ⟨by rw [(show (σ 70 (A1).toNat).toInt = (σ 70 a1.toNatClampNeg).toInt from by rw [jnc (show a1.toInt = A1 from t1)])]; omega, ge, (by omega)⟩) (by omega) (by have h9 := jz_0; omega) (by have h9 := tx128; omega), q.2⟩) hP hS (lv_sub hl [0, 1, 2, 5, 6] rfl)
                    · have kc127 := jnlt c127 rfl jz_0
                      refine lv_iload hx hb dX12_putsOn_223 (lv_at hl 1 rfl) ?_
                      refine lv_if_eq (tgt := 237) hx hb dX12_putsOn_225 (by decide) (fun c => absurd c (by decide)) (fun _ => ?_)
                      refine lv_iload hx hb dX12_putsOn_228 (lv_at hl 0 rfl) ?_
                      refine lv_iload_n hx hb dX12_putsOn_230 rfl (lv_at hl 3 rfl) ?_
                      refine lv_icmp_le (tgt := 249) hx hb dX12_putsOn_231 (by decide) (fun c129 => ?_) (fun c129 => ?_)
                      · have kc129 := jle c129 jz_0 rfl
                        obtain ⟨x130, ex130⟩ : ∃ y : Int32, y = x30 + 1 := ⟨_, rfl⟩
                        have tx130 : x130.toInt = x30.toInt + 1 := (jadd ex130 rfl jz_1 (by omega) (by omega)).trans (by omega)
                        refine lv_iinc (v := x130) (lv' := [(4, .int x130), (6, .int 0), (5, .int 1), (3, .int x29), (2, .int x28), (0, .ref (ad 55)), (1, .int a1)]) hx hb dX12_putsOn_249 hl (k := 2) rfl (by rw [ex130]; rfl) (by decide) rfl (fun ls hl => ?_)
                        refine lv_goto (tgt := 113) hx hb dX12_putsOn_252 (by decide) ?_
                        exact ihlp26 x28 x29 x130 σ33 _ _ ls (by have h92 := tx130; omega) (by have h92 := tx130; omega) (by have h92 := tx130; omega) (by have h92 := tx130; omega) (by have h92 := tx130; omega) (by have h92 := tx130; omega) (fun i hi => (f41 i hi)) (fun i hi => (f42 i hi))  (fun pr mm => by have prh := H44 pr; have q := q43 pr mm; have ge : (0 : Int) = jrRg σ (A1) (x30 : Int32).toInt.toNat := (by rw [jrRg_6 (by rw [(show (σ 70 (A1).toNat).toInt = (σ 70 a1.toNatClampNeg).toInt from by rw [jnc (show a1.toInt = A1 from t1)])]; omega), jrTx_no (by omega)]); exact ⟨q.1.keep (v := 0) (by omega) (Or.inl ⟨by rw [(show (σ 70 (A1).toNat).toInt = (σ 70 a1.toNatClampNeg).toInt from by rw [jnc (show a1.toInt = A1 from t1)])]; omega, ge, (by omega)⟩) (by have h9 := tx130; omega), q.2⟩) hP hS (lv_sub hl [0, 3, 4, 5, 6] rfl)
                      · have kc129 := jnle c129 jz_0 rfl
                        refine lv_goto (tgt := 243) hx hb dX12_putsOn_234 (by decide) ?_
                        refine lv_iload hx hb dX12_putsOn_243 (lv_at hl 2 rfl) ?_
                        refine lv_istore_n (lv' := [(2, .int x30), (6, .int 0), (5, .int 1), (4, .int x30), (3, .int x29), (0, .ref (ad 55)), (1, .int a1)]) hx hb dX12_putsOn_245 rfl hl (by decide) rfl (fun ls hl => ?_)
                        refine lv_iload hx hb dX12_putsOn_246 (lv_at hl 1 rfl) ?_
                        refine lv_istore_n (lv' := [(3, .int 0), (2, .int x30), (6, .int 0), (5, .int 1), (4, .int x30), (0, .ref (ad 55)), (1, .int a1)]) hx hb dX12_putsOn_248 rfl hl (by decide) rfl (fun ls hl => ?_)
                        obtain ⟨x131, ex131⟩ : ∃ y : Int32, y = x30 + 1 := ⟨_, rfl⟩
                        have tx131 : x131.toInt = x30.toInt + 1 := (jadd ex131 rfl jz_1 (by omega) (by omega)).trans (by omega)
                        refine lv_iinc (v := x131) (lv' := [(4, .int x131), (3, .int 0), (2, .int x30), (6, .int 0), (5, .int 1), (0, .ref (ad 55)), (1, .int a1)]) hx hb dX12_putsOn_249 hl (k := 4) rfl (by rw [ex131]; rfl) (by decide) rfl (fun ls hl => ?_)
                        refine lv_goto (tgt := 113) hx hb dX12_putsOn_252 (by decide) ?_
                        exact ihlp26 x30 0 x131 σ33 _ _ ls (by have h91 := jz_0; have h92 := tx131; omega) (by have h91 := jz_0; have h92 := tx131; omega) (by have h91 := jz_0; have h92 := tx131; omega) (by have h91 := jz_0; have h92 := tx131; omega) (by have h91 := jz_0; have h92 := tx131; omega) (by have h91 := jz_0; have h92 := tx131; omega) (fun i hi => (f41 i hi)) (fun i hi => (f42 i hi))  (fun pr mm => by have prh := H44 pr; have q := q43 pr mm; have my := (prh.my (by omega) (by omega) (by omega)).mp k62; rw [H47, H45] at my; have ge : (0 : Int) = jrRg σ (A1) (x30 : Int32).toInt.toNat := (by rw [jrRg_6 (by rw [(show (σ 70 (A1).toNat).toInt = (σ 70 a1.toNatClampNeg).toInt from by rw [jnc (show a1.toInt = A1 from t1)])]; omega), jrTx_no (by omega)]); exact ⟨q.1.take (v := 0) (by omega) my (Or.inl ⟨by rw [(show (σ 70 (A1).toNat).toInt = (σ 70 a1.toNatClampNeg).toInt from by rw [jnc (show a1.toInt = A1 from t1)])]; omega, ge, (by omega)⟩) (by omega) (by have h9 := jz_0; omega) (by have h9 := tx131; omega), q.2⟩) hP hS (lv_sub hl [0, 1, 2, 5, 6] rfl)
              · obtain ⟨q133, k132⟩ := h61
                have q133 := q133.symm
                subst q133
                have e134 : jmb σ33 x30 = jmb σ x30 := (jmb_fr (f42 27 (by decide)) (f42 30 (by decide)) (f42 31 (by decide)) (f41 56 (by decide)) (f41 69 (by decide)) x30)
                have n135 : ¬ x30 = B0 := fun h => absurd ((hB0).symm.trans (by rw [← h]; exact e134.symm.trans k132) : (1 : Int32) = 0) (by decide)
                have k136 := jne n135 rfl rfl
                refine lv_if_ne (tgt := 134) hx hb dX12_putsOn_128 (by decide) (fun c => absurd (by decide) c) (fun _ => ?_)
                refine lv_goto (tgt := 249) hx hb dX12_putsOn_131 (by decide) ?_
                obtain ⟨x137, ex137⟩ : ∃ y : Int32, y = x30 + 1 := ⟨_, rfl⟩
                have tx137 : x137.toInt = x30.toInt + 1 := (jadd ex137 rfl jz_1 (by omega) (by omega)).trans (by omega)
                refine lv_iinc (v := x137) (lv' := [(4, .int x137), (3, .int x29), (2, .int x28), (0, .ref (ad 55)), (1, .int a1)]) hx hb dX12_putsOn_249 hl (k := 0) rfl (by rw [ex137]; rfl) (by decide) rfl (fun ls hl => ?_)
                refine lv_goto (tgt := 113) hx hb dX12_putsOn_252 (by decide) ?_
                exact ihlp26 x28 x29 x137 σ33 _ _ ls (by have h92 := tx137; omega) (by have h92 := tx137; omega) (by have h92 := tx137; omega) (by have h92 := tx137; omega) (by have h92 := tx137; omega) (by have h92 := tx137; omega) (fun i hi => (f41 i hi)) (fun i hi => (f42 i hi))  (fun pr mm => by have prh := H44 pr; have q := q43 pr mm; have my : ¬ jMy4 (σ33 55 27).toInt (jrLf σ33) (x30 : Int32).toInt.toNat = true := fun z => absurd ((prh.my (by omega) (by omega) (by omega)).mpr z) (by rw [k132]; decide); rw [H47, H45] at my; exact ⟨q.1.skip (by omega) my (by have h9 := tx137; omega), q.2⟩) hP hS (lv_sub hl [0, 1, 2, 3, 4] rfl)
        exact lp26 1000000 (-1) 0 0 σ _ _ ls (by have h90 := jz_m1; have h91 := jz_0; have h92 := jz_0; omega) (by have h90 := jz_m1; have h91 := jz_0; have h92 := jz_0; omega) (by have h90 := jz_m1; have h91 := jz_0; have h92 := jz_0; omega) (by have h90 := jz_m1; have h91 := jz_0; have h92 := jz_0; omega) (by have h90 := jz_m1; have h91 := jz_0; have h92 := jz_0; omega) (by have h90 := jz_m1; have h91 := jz_0; have h92 := jz_0; omega) (fun _ _ => rfl) (fun _ _ => rfl)  (fun pr mm => ⟨jrGt.first (by have h9 := jz_0; omega) (by have h9 := jz_m1; omega) (by have h9 := jz_0; omega), mm⟩) hP hS hl
      · have kc25 := jeq c25 rfl jz_2
        refine lv_aload_n hx hb dX12_putsOn_96 rfl (lv_at hl 0 rfl) ?_
        have p138 : jmb σ B0 = 1 := (jmb_fr rfl rfl rfl rfl rfl B0).trans hB0
        refine jcallV (As := []) (rest := []) ⟨hx, hb, hml, hown, hts⟩ hK hP hA hS hZ ((c_X12_bests l D cI cL ad zz hJ 8).2.2 σ τ B0 p138 hI101 hI102 hI103 hI104 hI105 hI106 hI120 hs_jKept hs_jTR hs_jqSt (by omega) (by omega) (by omega) (by omega)) cw_RX12_280 (jc_55 cI cL ad σ τ) rfl ⟨Nat.le_of_ble_eq_true rfl, Nat.le_of_ble_eq_true rfl⟩ rfl rfl rfl hl.1 rfl (Nat.le_of_ble_eq_true rfl) dX12_putsOn_97 ⟨Nat.zero_le _, Nat.zero_le _⟩ (fun r140 σ139 τ139 H locs h139 hP hS => ?_)
        obtain ⟨rfl, f141, f142, p143, p144, p145, w146, h139⟩ := h139
        obtain ⟨k148, h139⟩ := h139
        have h149 := h139
        obtain ⟨q151, k150⟩ := h149
        refine lv_istore_n (lv' := [(2, .int r140), (0, .ref (ad 55)), (1, .int a1)]) hx hb dX12_putsOn_100 rfl hl (by decide) rfl (fun ls hl => ?_)
        refine lv_aload_n hx hb dX12_putsOn_101 rfl (lv_at hl 1 rfl) ?_
        refine va_get (D := D) hx hb hts inlX12 hown hK hP 55 (jc_55 cI cL ad σ139 τ) rfl 37 (by decide) (hts _ kw_33_15) (fun _ h9 => h9) rfl dX12_putsOn_102 ?_
        have z152 : (σ139 55 25).toInt = (σ 55 25).toInt := (congrArg Int32.toInt (show σ139 55 25 = (σ 55 25) from (f142 25 (by decide))))
        have z153 : (σ139 55 26).toInt = (σ 55 26).toInt := (congrArg Int32.toInt (show σ139 55 26 = (σ 55 26) from (f142 26 (by decide))))
        have z154 : (σ139 55 27).toInt = (σ 55 27).toInt := (congrArg Int32.toInt (show σ139 55 27 = (σ 55 27) from (f142 27 (by decide))))
        exact hret (σ139 55 37) σ139 τ _ _ _ _ rfl ⟨rfl, (fun i hi => (f141 i hi)), (fun i hi => (f142 i hi)), p143, p144, p145, (fun pr mm => by have r9 := w146 pr mm; exact ⟨jrP.best (w := (σ139 55 37).toInt) (by rw [(show (σ 70 (A1).toNat).toInt = (σ 70 a1.toNatClampNeg).toInt from by rw [jnc (show a1.toInt = A1 from t1)])]; omega) r9.1.1 (by omega) (by omega), r9.2⟩), ⟨trivial, (by omega)⟩⟩ hP hS dX12_putsOn_105
    · have kc24 := jeq c24 rfl jz_4
      refine lv_aload_n hx hb dX12_putsOn_27 rfl (lv_at hl 0 rfl) ?_
      refine va_get (D := D) hx hb hts inlX12 hown hK hP 55 (jc_55 cI cL ad σ τ) rfl 34 (by decide) (hts _ kw_7_19) (fun _ h9 => h9) rfl dX12_putsOn_28 ?_
      refine lv_iload_n hx hb dX12_putsOn_31 rfl (lv_at hl 1 rfl) ?_
      refine jald hx hb hK hP (jc_71 cI cL ad σ τ) (jin t1 (by omega) (by omega)) dX12_putsOn_32 ?_
      have g155 := w13 _ (jnat (x := a1) t1 (n := 20) (by omega) (by decide))
      refine jtopr (y := (σ 71 a1.toNatClampNeg)) rfl ?_
      refine lv_if_le (tgt := 61) hx hb dX12_putsOn_33 (by decide) (fun c156 => ?_) (fun c156 => ?_)
      · have kc156 := jle c156 rfl jz_0
        refine lv_iconst (v := (-1)) hx hb dX12_putsOn_61 (by decide) ?_
        refine lv_istore_n (lv' := [(2, .int (-1)), (0, .ref (ad 55)), (1, .int a1)]) hx hb dX12_putsOn_62 rfl hl (by decide) rfl (fun ls hl => ?_)
        refine lv_aload_n hx hb dX12_putsOn_63 rfl (lv_at hl 1 rfl) ?_
        refine lv_iload_n hx hb dX12_putsOn_64 rfl (lv_at hl 2 rfl) ?_
        refine lv_iload_n hx hb dX12_putsOn_65 rfl (lv_at hl 0 rfl) ?_
        refine lv_if_lt (tgt := 81) hx hb dX12_putsOn_66 (by decide) (fun _ => ?_) (fun c => absurd (by decide) c)
        refine lv_iconst (v := (-1)) hx hb dX12_putsOn_81 (by decide) ?_
        have p157 : jmb σ B0 = 1 := (jmb_fr rfl rfl rfl rfl rfl B0).trans hB0
        refine jcallV (As := [.int a1, .int (-1)]) (rest := []) ⟨hx, hb, hml, hown, hts⟩ hK hP hA hS hZ (c_X12_turnOf l D cI cL ad zz hJ σ τ B0 p157 a1 (A1) t1 (-1) ((-1)) jz_m1 hI102 hI106 (by omega) (by omega) (by omega) (by omega)) cw_RX12_277 (jc_55 cI cL ad σ τ) rfl ⟨Nat.le_of_ble_eq_true rfl, Nat.le_of_ble_eq_true rfl⟩ rfl rfl rfl hl.1 rfl (Nat.le_of_ble_eq_true rfl) dX12_putsOn_82 ⟨Nat.zero_le _, Nat.zero_le _⟩ (fun r159 σ158 τ158 H locs h158 hP hS => ?_)
        obtain ⟨⟨rfl, rfl⟩, w160, h158⟩ := h158
        have h161 := h158
        obtain ⟨q163, k162⟩ := h161
        exact hret r159 σ τ _ _ _ _ rfl ⟨rfl, (fun _ _ => rfl), (fun _ _ => rfl), hs_jKept, hs_jTR, hs_jqSt, (fun pr mm => ⟨pr.keep (x := (-1)) (b := (-1)) (by omega) (by omega) (by rw [(show (σ 70 (A1).toNat).toInt = (σ 70 a1.toNatClampNeg).toInt from by rw [jnc (show a1.toInt = A1 from t1)])]; omega) (Or.inl ⟨by omega, by rw [(show (σ 71 (A1).toNat) = (σ 71 a1.toNatClampNeg) from by rw [jnc (show a1.toInt = A1 from t1)]), (show (σ 73 (A1).toNat) = (σ 73 a1.toNatClampNeg) from by rw [jnc (show a1.toInt = A1 from t1)])]; omega⟩) (by rw [(show (σ 71 (A1).toNat) = (σ 71 a1.toNatClampNeg) from by rw [jnc (show a1.toInt = A1 from t1)])]; omega) (Or.inr ⟨by omega, Or.inl (by omega)⟩) w160, mm⟩), ⟨trivial, (by omega)⟩⟩ hP hS dX12_putsOn_85
      · have kc156 := jnle c156 rfl jz_0
        refine lv_aload_n hx hb dX12_putsOn_36 rfl (lv_at hl 0 rfl) ?_
        refine va_get (D := D) hx hb hts inlX12 hown hK hP 55 (jc_55 cI cL ad σ τ) rfl 26 (by decide) (hts _ kw_23_5) (fun _ h9 => h9) rfl dX12_putsOn_37 ?_
        refine lv_aload_n hx hb dX12_putsOn_40 rfl (lv_at hl 0 rfl) ?_
        refine va_get (D := D) hx hb hts inlX12 hown hK hP 55 (jc_55 cI cL ad σ τ) rfl 36 (by decide) (hts _ kw_7_21) (fun _ h9 => h9) rfl dX12_putsOn_41 ?_
        refine lv_iload_n hx hb dX12_putsOn_44 rfl (lv_at hl 1 rfl) ?_
        refine jald hx hb hK hP (jc_73 cI cL ad σ τ) (jin t1 (by omega) (by omega)) dX12_putsOn_45 ?_
        refine jtopr (y := (σ 73 a1.toNatClampNeg)) rfl ?_
        refine lv_icmp_ge (tgt := 61) hx hb dX12_putsOn_46 (by decide) (fun c164 => ?_) (fun c164 => ?_)
        · have kc164 := jle c164 rfl rfl
          refine lv_iconst (v := (-1)) hx hb dX12_putsOn_61 (by decide) ?_
          refine lv_istore_n (lv' := [(2, .int (-1)), (0, .ref (ad 55)), (1, .int a1)]) hx hb dX12_putsOn_62 rfl hl (by decide) rfl (fun ls hl => ?_)
          refine lv_aload_n hx hb dX12_putsOn_63 rfl (lv_at hl 1 rfl) ?_
          refine lv_iload_n hx hb dX12_putsOn_64 rfl (lv_at hl 2 rfl) ?_
          refine lv_iload_n hx hb dX12_putsOn_65 rfl (lv_at hl 0 rfl) ?_
          refine lv_if_lt (tgt := 81) hx hb dX12_putsOn_66 (by decide) (fun _ => ?_) (fun c => absurd (by decide) c)
          refine lv_iconst (v := (-1)) hx hb dX12_putsOn_81 (by decide) ?_
          have p165 : jmb σ B0 = 1 := (jmb_fr rfl rfl rfl rfl rfl B0).trans hB0
          refine jcallV (As := [.int a1, .int (-1)]) (rest := []) ⟨hx, hb, hml, hown, hts⟩ hK hP hA hS hZ (c_X12_turnOf l D cI cL ad zz hJ σ τ B0 p165 a1 (A1) t1 (-1) ((-1)) jz_m1 hI102 hI106 (by omega) (by omega) (by omega) (by omega)) cw_RX12_277 (jc_55 cI cL ad σ τ) rfl ⟨Nat.le_of_ble_eq_true rfl, Nat.le_of_ble_eq_true rfl⟩ rfl rfl rfl hl.1 rfl (Nat.le_of_ble_eq_true rfl) dX12_putsOn_82 ⟨Nat.zero_le _, Nat.zero_le _⟩ (fun r167 σ166 τ166 H locs h166 hP hS => ?_)
          obtain ⟨⟨rfl, rfl⟩, w168, h166⟩ := h166
          have h169 := h166
          obtain ⟨q171, k170⟩ := h169
          exact hret r167 σ τ _ _ _ _ rfl ⟨rfl, (fun _ _ => rfl), (fun _ _ => rfl), hs_jKept, hs_jTR, hs_jqSt, (fun pr mm => ⟨pr.keep (x := (-1)) (b := (-1)) (by omega) (by omega) (by rw [(show (σ 70 (A1).toNat).toInt = (σ 70 a1.toNatClampNeg).toInt from by rw [jnc (show a1.toInt = A1 from t1)])]; omega) (Or.inl ⟨by omega, by rw [(show (σ 71 (A1).toNat) = (σ 71 a1.toNatClampNeg) from by rw [jnc (show a1.toInt = A1 from t1)]), (show (σ 73 (A1).toNat) = (σ 73 a1.toNatClampNeg) from by rw [jnc (show a1.toInt = A1 from t1)])]; omega⟩) (by rw [(show (σ 71 (A1).toNat) = (σ 71 a1.toNatClampNeg) from by rw [jnc (show a1.toInt = A1 from t1)])]; omega) (Or.inr ⟨by omega, Or.inl (by omega)⟩) w168, mm⟩), ⟨trivial, (by omega)⟩⟩ hP hS dX12_putsOn_85
        · have kc164 := jnle c164 rfl rfl
          refine lv_aload_n hx hb dX12_putsOn_49 rfl (lv_at hl 0 rfl) ?_
          refine va_get (D := D) hx hb hts inlX12 hown hK hP 55 (jc_55 cI cL ad σ τ) rfl 35 (by decide) (hts _ kw_7_20) (fun _ h9 => h9) rfl dX12_putsOn_50 ?_
          refine lv_bipush (v := 8) hx hb dX12_putsOn_53 (by decide) ?_
          refine lv_iload_n hx hb dX12_putsOn_55 rfl (lv_at hl 1 rfl) ?_
          refine lv_imul hx hb dX12_putsOn_56 ?_
          refine lv_topi (fun x172 ex172 => ?_)
          have tx172 : x172.toInt = 8 * A1 := (jmul ex172 jz_8 t1 (by omega) (by omega)).trans (by omega)
          refine jald hx hb hK hP (jc_72 cI cL ad σ τ) (jin tx172 (by omega) (by omega)) dX12_putsOn_57 ?_
          have g173 := w14 _ (jnat (x := x172) tx172 (n := 160) (by omega) (by decide))
          refine jtopr (y := (σ 72 x172.toNatClampNeg)) rfl ?_
          refine lv_goto (tgt := 62) hx hb dX12_putsOn_58 (by decide) ?_
          refine lv_istore_n (lv' := [(2, .int (σ 72 x172.toNatClampNeg)), (0, .ref (ad 55)), (1, .int a1)]) hx hb dX12_putsOn_62 rfl hl (by decide) rfl (fun ls hl => ?_)
          refine lv_aload_n hx hb dX12_putsOn_63 rfl (lv_at hl 1 rfl) ?_
          refine lv_iload_n hx hb dX12_putsOn_64 rfl (lv_at hl 2 rfl) ?_
          refine lv_iload_n hx hb dX12_putsOn_65 rfl (lv_at hl 0 rfl) ?_
          refine lv_if_lt (tgt := 81) hx hb dX12_putsOn_66 (by decide) (fun c => absurd (jlt c rfl jz_0) (by omega)) (fun c174 => ?_)
          have kc174 := jnlt c174 rfl jz_0
          refine lv_aload_n hx hb dX12_putsOn_69 rfl (lv_at hl 1 rfl) ?_
          refine lv_iload_n hx hb dX12_putsOn_70 rfl (lv_at hl 0 rfl) ?_
          refine jcallV (As := [.int (σ 72 x172.toNatClampNeg)]) (rest := [.int a1, .ref (ad 55)]) ⟨hx, hb, hml, hown, hts⟩ hK hP hA hS hZ (c_X12_leastBut l D cI cL ad zz hJ σ τ (σ 72 x172.toNatClampNeg) ((σ 72 x172.toNatClampNeg).toInt) rfl hI102) cw_RX12_274 (jc_55 cI cL ad σ τ) rfl ⟨Nat.le_of_ble_eq_true rfl, Nat.le_of_ble_eq_true rfl⟩ rfl rfl rfl hl.1 rfl (Nat.le_of_ble_eq_true rfl) dX12_putsOn_71 ⟨Nat.zero_le _, Nat.zero_le _⟩ (fun r176 σ175 τ175 H locs h175 hP hS => ?_)
          obtain ⟨⟨rfl, rfl⟩, w177, h175⟩ := h175
          rcases h175 with h178 | h179
          · obtain ⟨q184, k180, k181, k182, k183⟩ := h178
            refine lv_if_lt (tgt := 81) hx hb dX12_putsOn_74 (by decide) (fun c => absurd (jlt c rfl jz_0) (by omega)) (fun c185 => ?_)
            have kc185 := jnlt c185 rfl jz_0
            refine lv_iload_n hx hb dX12_putsOn_77 rfl (lv_at hl 0 rfl) ?_
            refine lv_goto (tgt := 82) hx hb dX12_putsOn_78 (by decide) ?_
            have p186 : jmb σ r176 = 1 := (jmb_fr rfl rfl rfl rfl rfl r176).trans k183
            refine jcallV (As := [.int a1, .int (σ 72 x172.toNatClampNeg)]) (rest := []) ⟨hx, hb, hml, hown, hts⟩ hK hP hA hS hZ (c_X12_turnOf l D cI cL ad zz hJ σ τ r176 p186 a1 (A1) t1 (σ 72 x172.toNatClampNeg) ((σ 72 x172.toNatClampNeg).toInt) rfl hI102 hI106 (by omega) (by omega) (by omega) (by omega)) cw_RX12_277 (jc_55 cI cL ad σ τ) rfl ⟨Nat.le_of_ble_eq_true rfl, Nat.le_of_ble_eq_true rfl⟩ rfl rfl rfl hl.1 rfl (Nat.le_of_ble_eq_true rfl) dX12_putsOn_82 ⟨Nat.zero_le _, Nat.zero_le _⟩ (fun r188 σ187 τ187 H locs h187 hP hS => ?_)
            obtain ⟨⟨rfl, rfl⟩, w189, h187⟩ := h187
            have h190 := h187
            obtain ⟨q192, k191⟩ := h190
            exact hret r188 σ τ _ _ _ _ rfl ⟨rfl, (fun _ _ => rfl), (fun _ _ => rfl), hs_jKept, hs_jTR, hs_jqSt, (fun pr mm => ⟨pr.keep (x := ((σ 72 x172.toNatClampNeg) : Int32).toInt) (b := (σ 72 x172.toNatClampNeg).toInt) (by omega) (by omega) (by rw [(show (σ 70 (A1).toNat).toInt = (σ 70 a1.toNatClampNeg).toInt from by rw [jnc (show a1.toInt = A1 from t1)])]; omega) (Or.inr ⟨by rw [(show (σ 71 (A1).toNat) = (σ 71 a1.toNatClampNeg) from by rw [jnc (show a1.toInt = A1 from t1)])]; omega, by rw [(show (σ 73 (A1).toNat) = (σ 73 a1.toNatClampNeg) from by rw [jnc (show a1.toInt = A1 from t1)])]; omega, (by rw [jnc (show x172.toInt = 8 * (A1) by omega)])⟩) (by rw [(show (σ 71 (A1).toNat) = (σ 71 a1.toNatClampNeg) from by rw [jnc (show a1.toInt = A1 from t1)])]; omega) (Or.inl ⟨rfl, by omega, (by rw [← w177]; omega)⟩) w189, mm⟩), ⟨trivial, (by omega)⟩⟩ hP hS dX12_putsOn_85
          · obtain ⟨q194, k193⟩ := h179
            have q194 := q194.symm
            subst q194
            refine lv_if_lt (tgt := 81) hx hb dX12_putsOn_74 (by decide) (fun _ => ?_) (fun c => absurd (by decide) c)
            refine lv_iconst (v := (-1)) hx hb dX12_putsOn_81 (by decide) ?_
            have p195 : jmb σ B0 = 1 := (jmb_fr rfl rfl rfl rfl rfl B0).trans hB0
            refine jcallV (As := [.int a1, .int (-1)]) (rest := []) ⟨hx, hb, hml, hown, hts⟩ hK hP hA hS hZ (c_X12_turnOf l D cI cL ad zz hJ σ τ B0 p195 a1 (A1) t1 (-1) ((-1)) jz_m1 hI102 hI106 (by omega) (by omega) (by omega) (by omega)) cw_RX12_277 (jc_55 cI cL ad σ τ) rfl ⟨Nat.le_of_ble_eq_true rfl, Nat.le_of_ble_eq_true rfl⟩ rfl rfl rfl hl.1 rfl (Nat.le_of_ble_eq_true rfl) dX12_putsOn_82 ⟨Nat.zero_le _, Nat.zero_le _⟩ (fun r197 σ196 τ196 H locs h196 hP hS => ?_)
            obtain ⟨⟨rfl, rfl⟩, w198, h196⟩ := h196
            have h199 := h196
            obtain ⟨q201, k200⟩ := h199
            exact hret r197 σ τ _ _ _ _ rfl ⟨rfl, (fun _ _ => rfl), (fun _ _ => rfl), hs_jKept, hs_jTR, hs_jqSt, (fun pr mm => ⟨pr.keep (x := ((σ 72 x172.toNatClampNeg) : Int32).toInt) (b := (-1)) (by omega) (by omega) (by rw [(show (σ 70 (A1).toNat).toInt = (σ 70 a1.toNatClampNeg).toInt from by rw [jnc (show a1.toInt = A1 from t1)])]; omega) (Or.inr ⟨by rw [(show (σ 71 (A1).toNat) = (σ 71 a1.toNatClampNeg) from by rw [jnc (show a1.toInt = A1 from t1)])]; omega, by rw [(show (σ 73 (A1).toNat) = (σ 73 a1.toNatClampNeg) from by rw [jnc (show a1.toInt = A1 from t1)])]; omega, (by rw [jnc (show x172.toInt = 8 * (A1) by omega)])⟩) (by rw [(show (σ 71 (A1).toNat) = (σ 71 a1.toNatClampNeg) from by rw [jnc (show a1.toInt = A1 from t1)])]; omega) (Or.inr ⟨by omega, Or.inr (by rw [← w177]; first | decide | omega)⟩) w198, mm⟩), ⟨trivial, (by omega)⟩⟩ hP hS dX12_putsOn_85
  · have kc22 := jeq c22 rfl jz_1
    refine lv_aload_n hx hb dX12_putsOn_10 rfl (lv_at hl 0 rfl) ?_
    refine lv_iload_n hx hb dX12_putsOn_11 rfl (lv_at hl 1 rfl) ?_
    refine lv_iconst (v := (-1)) hx hb dX12_putsOn_12 (by decide) ?_
    have p202 : jmb σ B0 = 1 := (jmb_fr rfl rfl rfl rfl rfl B0).trans hB0
    refine jcallV (As := [.int a1, .int (-1)]) (rest := []) ⟨hx, hb, hml, hown, hts⟩ hK hP hA hS hZ (c_X12_turnOf l D cI cL ad zz hJ σ τ B0 p202 a1 (A1) t1 (-1) ((-1)) jz_m1 hI102 hI106 (by omega) (by omega) (by omega) (by omega)) cw_RX12_277 (jc_55 cI cL ad σ τ) rfl ⟨Nat.le_of_ble_eq_true rfl, Nat.le_of_ble_eq_true rfl⟩ rfl rfl rfl hl.1 rfl (Nat.le_of_ble_eq_true rfl) dX12_putsOn_13 ⟨Nat.zero_le _, Nat.zero_le _⟩ (fun r204 σ203 τ203 H locs h203 hP hS => ?_)
    obtain ⟨⟨rfl, rfl⟩, w205, h203⟩ := h203
    have h206 := h203
    obtain ⟨q208, k207⟩ := h206
    exact hret r204 σ τ _ _ _ _ rfl ⟨rfl, (fun _ _ => rfl), (fun _ _ => rfl), hs_jKept, hs_jTR, hs_jqSt, (fun pr mm => ⟨pr.turn (b := (-1)) (by omega) (by omega) (by rw [(show (σ 70 (A1).toNat).toInt = (σ 70 a1.toNatClampNeg).toInt from by rw [jnc (show a1.toInt = A1 from t1)])]; omega) w205, mm⟩), ⟨trivial, (by omega)⟩⟩ hP hS dX12_putsOn_16
