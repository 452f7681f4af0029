set_option maxHeartbeats 4000000 in
set_option maxRecDepth 100000 in
theorem c_X12_putsOn (l : Launch) (D : va_G) (cI cL : ClassId) (ad zz : Nat → Nat) (hJ : jD ad) (σ : Nat → Nat → Int32) (τ : Nat → Nat → Int64) (B0 : Int32) (hB0 : jmb σ B0 = 1) (a1 : Int32) (A1 : Int) (t1 : a1.toInt = A1) (hI101 : jI101 σ) (hI102 : jI102 σ) (hI103 : jI103 σ) (hI104 : jI104 σ) (hI105 : jI105 σ) (hI106 : jI106 σ) (hI120 : jI120 σ) (hs_jKept : jKept σ) (hs_jTR : jTR σ) (hs_jqSt : jqSt σ) (hp0 : 0 ≤ B0.toInt ∧ B0.toInt < (σ 55 6).toInt) (hp1 : 0 ≤ A1 ∧ A1 ≤ 19) (hp2 : (σ 55 25).toInt < (σ 55 10).toInt) (hp3 : (σ 55 26).toInt < (σ 55 12).toInt) (hp4 : ((σ 70 a1.toNatClampNeg).toInt ≠ 2) ∨ ((σ 55 12).toInt - (σ 55 26).toInt ≤ 8)) : jM l yX12_putsOn cX12_putsOn 7 (some .int) ({ frames := 103, cells := 0, slots := 0, locals := 5061 }) D cI cL ad zz [.ref (ad 55), .int a1] σ τ (fun r σ' τ' => τ = τ' ∧ (∀ i : Nat, (i < 55 ∨ 55 < i) ∧ (i < 66 ∨ 66 < i) ∧ (i < 74 ∨ 78 < i) → σ' i = σ i) ∧ (∀ k : Nat, (k < 18 ∨ 18 < k) ∧ (k < 19 ∨ 19 < k) ∧ (k < 20 ∨ 20 < k) ∧ (k < 21 ∨ 21 < k) ∧ (k < 22 ∨ 22 < k) ∧ (k < 37 ∨ 37 < k) → σ' 55 k = σ 55 k) ∧ (jKept σ') ∧ (jTR σ') ∧ (jqSt σ') ∧ ((True ∧ (0 ≤ r.toInt ∧ r.toInt ≤ 3)))) := by
  refine jM.of hJ (by decide +kernel) (nt := .int) rfl (Nat.le_of_ble_eq_true rfl) ?_
  intro p e s m args below meth c Q ls hC hret hl hP
  obtain ⟨hx, hb, hr, hml, hown, hts, hK, -, hlocks, hZ⟩ := hC
  have hown : s.vm.findClass RX12 = some m.cls := hown
  have hS : va_S (jA ad) s.heap s.heap [] := va_S.rf
  have hA : ∀ q, jA ad q → jA ad q := fun _ h => h
  have hl : lv_has ls 7 [(0, .ref (ad 55)), (1, .int a1)] := hl
  have g1 := jrg t1
  obtain ⟨i1, w2, w3⟩ : (0 ≤ (σ 55 6).toInt ∧ (σ 55 6).toInt ≤ 4) ∧ (∀ k : Nat, k < 4 → 0 ≤ (σ 60 k).toInt ∧ (σ 60 k).toInt ≤ 50) ∧ (∀ k : Nat, k < 4 → 0 ≤ (σ 61 k).toInt ∧ (σ 61 k).toInt ≤ 20) := id hI102
  obtain ⟨i4, i5, i6, w7, w8⟩ : (1 ≤ (σ 55 10).toInt ∧ (σ 55 10).toInt ≤ 8) ∧ (1 ≤ (σ 55 12).toInt ∧ (σ 55 12).toInt ≤ 12) ∧ (0 ≤ (σ 55 13).toInt ∧ (σ 55 13).toInt ≤ 999) ∧ (∀ k : Nat, k < 8 → 0 ≤ (σ 62 k).toInt ∧ (σ 62 k).toInt ≤ 3) ∧ (∀ k : Nat, k < 8 → 0 ≤ (σ 67 k).toInt ∧ (σ 67 k).toInt ≤ 3) := id hI104
  obtain ⟨i9, w10⟩ : (0 ≤ (σ 55 15).toInt ∧ (σ 55 15).toInt ≤ 80) ∧ (∀ k : Nat, k < 2 → (-1) ≤ (σ 65 k).toInt ∧ (σ 65 k).toInt ≤ 80) := id hI105
  obtain ⟨i11, w12, w13, w14⟩ : (0 ≤ (σ 55 32).toInt ∧ (σ 55 32).toInt ≤ 20) ∧ (∀ k : Nat, k < 20 → 0 ≤ (σ 70 k).toInt ∧ (σ 70 k).toInt ≤ 6) ∧ (∀ k : Nat, k < 20 → 0 ≤ (σ 71 k).toInt ∧ (σ 71 k).toInt ≤ 8) ∧ (∀ k : Nat, k < 160 → 0 ≤ (σ 72 k).toInt ∧ (σ 72 k).toInt ≤ 3) := id hI106
  obtain ⟨i15, i16, i17, i18, i19, w20⟩ : (0 ≤ (σ 55 25).toInt) ∧ ((σ 55 25).toInt ≤ (σ 55 10).toInt) ∧ (0 ≤ (σ 55 26).toInt) ∧ ((σ 55 26).toInt ≤ (σ 55 12).toInt) ∧ ((-1) ≤ (σ 55 27).toInt ∧ (σ 55 27).toInt ≤ 3) ∧ (∀ k : Nat, k < 4 → 0 ≤ (σ 68 k).toInt ∧ (σ 68 k).toInt ≤ 3) := id hI120
  refine lv_aload_n hx hb dX12_putsOn_0 rfl (lv_at hl 0 rfl) ?_
  refine va_get (D := D) hx hb hts inlX12 hown hK hP 55 (jc_55 cI cL ad σ τ) rfl 33 (of_decide_eq_true rfl) (hts _ kw_7_18) (fun _ h9 => h9) rfl dX12_putsOn_1 ?_
  refine lv_iload_n hx hb dX12_putsOn_4 rfl (lv_at hl 1 rfl) ?_
  exact by
   refine jald hx hb hK hP (jc_70 cI cL ad σ τ) (jin t1 (by omega) (by omega)) dX12_putsOn_5 ?_
   have g21 := w12 _ (jnat (x := a1) t1 (n := 20) (by omega) (of_decide_eq_true rfl))
   refine jtopr (y := (σ 70 a1.toNatClampNeg)) rfl ?_
   refine lv_iconst (v := 1) hx hb dX12_putsOn_6 (of_decide_eq_true rfl) ?_
   refine lv_icmp_ne (tgt := 17) hx hb dX12_putsOn_7 (of_decide_eq_true rfl) (fun c22 => ?_) (fun c22 => ?_)
   · have kc22 := jne c22 rfl jz_1
     refine lv_aload_n hx hb dX12_putsOn_17 rfl (lv_at hl 0 rfl) ?_
     refine va_get (D := D) hx hb hts inlX12 hown hK hP 55 (jc_55 cI cL ad σ τ) rfl 33 (of_decide_eq_true rfl) (hts _ kw_7_18) (fun _ h9 => h9) rfl dX12_putsOn_18 ?_
     refine lv_iload_n hx hb dX12_putsOn_21 rfl (lv_at hl 1 rfl) ?_
     exact by
      refine jald hx hb hK hP (jc_70 cI cL ad σ τ) (jin t1 (by omega) (by omega)) dX12_putsOn_22 ?_
      have g23 := w12 _ (jnat (x := a1) t1 (n := 20) (by omega) (of_decide_eq_true rfl))
      refine jtopr (y := (σ 70 a1.toNatClampNeg)) rfl ?_
      refine lv_iconst (v := 4) hx hb dX12_putsOn_23 (of_decide_eq_true rfl) ?_
      refine lv_icmp_ne (tgt := 86) hx hb dX12_putsOn_24 (of_decide_eq_true rfl) (fun c24 => ?_) (fun c24 => ?_)
      · have kc24 := jne c24 rfl jz_4
        refine lv_aload_n hx hb dX12_putsOn_86 rfl (lv_at hl 0 rfl) ?_
        refine va_get (D := D) hx hb hts inlX12 hown hK hP 55 (jc_55 cI cL ad σ τ) rfl 33 (of_decide_eq_true rfl) (hts _ kw_7_18) (fun _ h9 => h9) rfl dX12_putsOn_87 ?_
        refine lv_iload_n hx hb dX12_putsOn_90 rfl (lv_at hl 1 rfl) ?_
        exact by
         refine jald hx hb hK hP (jc_70 cI cL ad σ τ) (jin t1 (by omega) (by omega)) dX12_putsOn_91 ?_
         refine jtopr (y := (σ 70 a1.toNatClampNeg)) rfl ?_
         refine lv_iconst (v := 2) hx hb dX12_putsOn_92 (of_decide_eq_true rfl) ?_
         refine lv_icmp_ne (tgt := 106) hx hb dX12_putsOn_93 (of_decide_eq_true rfl) (fun c25 => ?_) (fun c25 => ?_)
         · have kc25 := jne c25 rfl jz_2
           refine lv_iconst (v := (-1)) hx hb dX12_putsOn_106 (of_decide_eq_true rfl) ?_
           refine lv_istore_n (lv' := [(2, .int (-1)), (0, .ref (ad 55)), (1, .int a1)]) hx hb dX12_putsOn_107 rfl hl (of_decide_eq_true rfl) rfl (fun ls hl => ?_)
           refine lv_iconst (v := 0) hx hb dX12_putsOn_108 (of_decide_eq_true rfl) ?_
           refine lv_istore_n (lv' := [(3, .int 0), (2, .int (-1)), (0, .ref (ad 55)), (1, .int a1)]) hx hb dX12_putsOn_109 rfl hl (of_decide_eq_true rfl) rfl (fun ls hl => ?_)
           refine lv_iconst (v := 0) hx hb dX12_putsOn_110 (of_decide_eq_true rfl) ?_
           refine lv_istore (lv' := [(4, .int 0), (3, .int 0), (2, .int (-1)), (0, .ref (ad 55)), (1, .int a1)]) hx hb dX12_putsOn_111 hl (of_decide_eq_true rfl) rfl (fun ls hl => ?_)
           have lp26 : ∀ (n27 : Nat) (x28 : Int32) (x29 : Int32) (x30 : Int32) (σ33 : Nat → Nat → Int32) (H : Heap) (locs : List Loc) (ls : Array Slot), (-x30.toInt + 4 : Int) < n27 → (-1) ≤ x28.toInt → x28.toInt ≤ 3 → 0 ≤ x30.toInt → x30.toInt ≤ 4 → ((0 ≤ x28.toInt) ∨ (x28.toInt = (-1) ∧ x30.toInt ≤ B0.toInt)) → (∀ i : Nat, (i < 55 ∨ 55 < i) ∧ (i < 66 ∨ 66 < i) → σ33 i = σ i) → (∀ k : Nat, (k < 18 ∨ 18 < k) ∧ (k < 19 ∨ 19 < k) ∧ (k < 20 ∨ 20 < k) ∧ (k < 21 ∨ 21 < k) ∧ (k < 22 ∨ 22 < k) → σ33 55 k = σ 55 k) → jH D cI cL ad σ33 τ H → va_S (jA ad) s.heap H locs → lv_has ls 7 [(4, .int x30), (3, .int x29), (2, .int x28), (0, .ref (ad 55)), (1, .int a1)] → W p l e ({ frames := 103, cells := 0, slots := 0, locals := 5061 }) s m args below meth c H locs 0 0 Q (F0 m 113 ls []) := by
             intro n27
             induction n27 with
             | zero => intro x28 x29 x30 σ33 H locs ls h35 h36 h37 h38 h39 h40; have gx29 := jrg (rfl : x29.toInt = x29.toInt); exact absurd h35 (by omega)
             | succ n27 ihlp26 =>
               intro x28 x29 x30 σ33 H locs ls h35 h36 h37 h38 h39 h40 f41 f42 hP hS hl
               exact by
                have gx29 := jrg (rfl : x29.toInt = x29.toInt)
                refine lv_iload hx hb dX12_putsOn_113 (lv_at hl 0 rfl) ?_
                refine lv_aload_n hx hb dX12_putsOn_115 rfl (lv_at hl 3 rfl) ?_
                refine va_get (D := D) hx hb hts inlX12 hown hK hP 55 (jc_55 cI cL ad σ33 τ) rfl 6 (of_decide_eq_true rfl) (hts _ kw_9_13) (fun _ h9 => h9) rfl dX12_putsOn_116 ?_
                have m43 : σ33 55 6 = (σ 55 6) := (f42 6 (of_decide_eq_true rfl))
                refine jtopr m43 ?_
                refine lv_icmp_ge (tgt := 255) hx hb dX12_putsOn_119 (of_decide_eq_true rfl) (fun c44 => ?_) (fun c44 => ?_)
                · have kc44 := jle c44 rfl rfl
                  refine lv_iload_n hx hb dX12_putsOn_255 rfl (lv_at hl 2 rfl) ?_
                  have p45 : jKept σ33 := jKept.fr (f41 75 (of_decide_eq_true rfl)) (f41 76 (of_decide_eq_true rfl)) (f41 77 (of_decide_eq_true rfl)) hs_jKept
                  have p46 : jTR σ33 := jTR.fr (f41 64 (of_decide_eq_true rfl)) (f41 65 (of_decide_eq_true rfl)) hs_jTR
                  have p47 : jqSt σ33 := jqSt.fr (f41 78 (of_decide_eq_true rfl)) (f42 42 (of_decide_eq_true rfl)) hs_jqSt
                  exact hret x28 σ33 τ _ _ _ _ rfl ⟨rfl, (fun i hi => (f41 i (imp_204 i hi))), (fun i hi => (f42 i (imp_205 i hi))), p45, p46, p47, ⟨trivial, (by omega)⟩⟩ hP hS dX12_putsOn_256
                · have kc44 := jnle c44 rfl rfl
                  refine lv_aload_n hx hb dX12_putsOn_122 rfl (lv_at hl 3 rfl) ?_
                  refine lv_iload hx hb dX12_putsOn_123 (lv_at hl 0 rfl) ?_
                  exact by
                   refine jcallV (As := [.int x30]) (rest := []) ⟨hx, hb, hml, hown, hts⟩ hK hP hA hS hZ (c_X12_mayBowl l D cI cL ad zz hJ σ33 τ x30 (x30.toInt) rfl (by omega)) cw_RX12_249 (jc_55 cI cL ad σ33 τ) rfl ⟨Nat.le_of_ble_eq_true rfl, Nat.le_of_ble_eq_true rfl⟩ rfl rfl rfl hl.1 rfl (Nat.le_of_ble_eq_true rfl) dX12_putsOn_125 ⟨Nat.zero_le _, Nat.zero_le _⟩ (fun r49 σ48 τ48 H locs h48 hP hS => ?_)
                   obtain ⟨⟨rfl, rfl⟩, h48⟩ := h48
                   rcases h48 with h50 | h51
                   · obtain ⟨q53, k52⟩ := h50
                     have q53 := q53.symm
                     subst q53
                     refine lv_if_ne (tgt := 134) hx hb dX12_putsOn_128 (of_decide_eq_true rfl) (fun _ => ?_) (fun c => absurd c (of_decide_eq_true rfl))
                     refine lv_aload_n hx hb dX12_putsOn_134 rfl (lv_at hl 3 rfl) ?_
                     refine va_get (D := D) hx hb hts inlX12 hown hK hP 55 (jc_55 cI cL ad σ33 τ) rfl 33 (of_decide_eq_true rfl) (hts _ kw_7_18) (fun _ h9 => h9) rfl dX12_putsOn_135 ?_
                     refine lv_iload_n hx hb dX12_putsOn_138 rfl (lv_at hl 4 rfl) ?_
                     exact by
                      refine jald hx hb hK hP (jc_70 cI cL ad σ33 τ) (jin t1 (by omega) (by omega)) dX12_putsOn_139 ?_
                      refine jtopr (y := (σ 70 a1.toNatClampNeg)) (by rw [f41 70 (of_decide_eq_true rfl)]) ?_
                      refine lv_bipush (v := 6) hx hb dX12_putsOn_140 (of_decide_eq_true rfl) ?_
                      refine lv_icmp_ne (tgt := 149) hx hb dX12_putsOn_142 (of_decide_eq_true rfl) (fun c54 => ?_) (fun c54 => ?_)
                      · have kc54 := jne c54 rfl jz_6
                        refine lv_iconst (v := 0) hx hb dX12_putsOn_149 (of_decide_eq_true rfl) ?_
                        refine lv_istore (lv' := [(5, .int 0), (4, .int x30), (3, .int x29), (2, .int x28), (0, .ref (ad 55)), (1, .int a1)]) hx hb dX12_putsOn_150 hl (of_decide_eq_true rfl) rfl (fun ls hl => ?_)
                        refine lv_iload hx hb dX12_putsOn_152 (lv_at hl 0 rfl) ?_
                        refine lv_if_ne (tgt := 167) hx hb dX12_putsOn_154 (of_decide_eq_true rfl) (fun c => absurd (of_decide_eq_true rfl) c) (fun _ => ?_)
                        exact by
                         refine lv_aload_n hx hb dX12_putsOn_157 rfl (lv_at hl 4 rfl) ?_
                         refine lv_iload_n hx hb dX12_putsOn_158 rfl (lv_at hl 5 rfl) ?_
                         refine lv_iload hx hb dX12_putsOn_159 (lv_at hl 1 rfl) ?_
                         have I55 : jI101 σ33 := jI101_fr (f42 4 (of_decide_eq_true rfl)) (f42 5 (of_decide_eq_true rfl)) (f41 56 (of_decide_eq_true rfl)) (f41 57 (of_decide_eq_true rfl)) (f41 58 (of_decide_eq_true rfl)) (f41 59 (of_decide_eq_true rfl)) hI101
                         have I56 : jI102 σ33 := jI102_fr (f42 6 (of_decide_eq_true rfl)) (f41 60 (of_decide_eq_true rfl)) (f41 61 (of_decide_eq_true rfl)) hI102
                         have I57 : jI103 σ33 := jI103_fr (f42 9 (of_decide_eq_true rfl)) hI103
                         have I58 : jI104 σ33 := jI104_fr (f42 10 (of_decide_eq_true rfl)) (f42 12 (of_decide_eq_true rfl)) (f42 13 (of_decide_eq_true rfl)) (f41 62 (of_decide_eq_true rfl)) (f41 67 (of_decide_eq_true rfl)) hI104
                         have I59 : jI105 σ33 := jI105_fr (f42 15 (of_decide_eq_true rfl)) (f41 65 (of_decide_eq_true rfl)) hI105
                         have I60 : jI106 σ33 := jI106_fr (f42 32 (of_decide_eq_true rfl)) (f41 70 (of_decide_eq_true rfl)) (f41 71 (of_decide_eq_true rfl)) (f41 72 (of_decide_eq_true rfl)) hI106
                         have w61 : ∀ k : Nat, k < 4 → 0 ≤ (σ33 68 k).toInt ∧ (σ33 68 k).toInt ≤ 3 := (jrr_fr (f41 68 (of_decide_eq_true rfl)) w20)
                         have p62 : jTR σ33 := jTR.fr (f41 64 (of_decide_eq_true rfl)) (f41 65 (of_decide_eq_true rfl)) hs_jTR
                         have z63 : (σ33 55 25).toInt = (σ 55 25).toInt := (congrArg Int32.toInt (show σ33 55 25 = (σ 55 25) from (f42 25 (of_decide_eq_true rfl))))
                         exact by
                          refine jcallV (As := [.int a1, .int x30]) (rest := []) ⟨hx, hb, hml, hown, hts⟩ hK hP hA hS hZ (c_X12_worthBy l D cI cL ad zz hJ σ33 τ a1 (A1) t1 x30 (x30.toInt) rfl I55 I56 I57 I58 I59 I60 w61 p62 (by omega) (by omega) (by omega)) cw_RX12_286 (jc_55 cI cL ad σ33 τ) rfl ⟨Nat.le_of_ble_eq_true rfl, Nat.le_of_ble_eq_true rfl⟩ rfl rfl rfl hl.1 rfl (Nat.le_of_ble_eq_true rfl) dX12_putsOn_161 ⟨Nat.zero_le _, Nat.zero_le _⟩ (fun r65 σ64 τ64 H locs h64 hP hS => ?_)
                          obtain ⟨rfl, f66, f67, p68, h64⟩ := h64
                          refine lv_goto (tgt := 217) hx hb dX12_putsOn_164 (of_decide_eq_true rfl) ?_
                          refine lv_istore (lv' := [(6, .int r65), (5, .int 0), (4, .int x30), (3, .int x29), (2, .int x28), (0, .ref (ad 55)), (1, .int a1)]) hx hb dX12_putsOn_217 hl (of_decide_eq_true rfl) rfl (fun ls hl => ?_)
                          refine lv_iload_n hx hb dX12_putsOn_219 rfl (lv_at hl 4 rfl) ?_
                          refine lv_if_lt (tgt := 243) hx hb dX12_putsOn_220 (of_decide_eq_true rfl) (fun c70 => ?_) (fun c70 => ?_)
                          · have kc70 := jlt c70 rfl jz_0
                            refine lv_iload hx hb dX12_putsOn_243 (lv_at hl 2 rfl) ?_
                            refine lv_istore_n (lv' := [(2, .int x30), (6, .int r65), (5, .int 0), (4, .int x30), (3, .int x29), (0, .ref (ad 55)), (1, .int a1)]) hx hb dX12_putsOn_245 rfl hl (of_decide_eq_true rfl) rfl (fun ls hl => ?_)
                            refine lv_iload hx hb dX12_putsOn_246 (lv_at hl 1 rfl) ?_
                            refine lv_istore_n (lv' := [(3, .int r65), (2, .int x30), (6, .int r65), (5, .int 0), (4, .int x30), (0, .ref (ad 55)), (1, .int a1)]) hx hb dX12_putsOn_248 rfl hl (of_decide_eq_true rfl) rfl (fun ls hl => ?_)
                            obtain ⟨x71, ex71⟩ : ∃ y : Int32, y = x30 + 1 := ⟨_, rfl⟩
                            exact by
                             have tx71 : x71.toInt = x30.toInt + 1 := (jadd ex71 rfl jz_1 (by omega) (by omega)).trans (by omega)
                             refine lv_iinc (v := x71) (lv' := [(4, .int x71), (3, .int r65), (2, .int x30), (6, .int r65), (5, .int 0), (0, .ref (ad 55)), (1, .int a1)]) hx hb dX12_putsOn_249 hl (k := 4) rfl (by rw [ex71]; rfl) (of_decide_eq_true rfl) rfl (fun ls hl => ?_)
                             refine lv_goto (tgt := 113) hx hb dX12_putsOn_252 (of_decide_eq_true rfl) ?_
                             exact by exact ihlp26 x30 r65 x71 σ64 _ _ ls (by have h92 := tx71; omega) (by have h92 := tx71; omega) (by have h92 := tx71; omega) (by have h92 := tx71; omega) (by have h92 := tx71; omega) (by have h92 := tx71; omega) (fun i hi => ((f66 i hi).trans (f41 i hi))) (fun i hi => ((f67 i hi).trans (f42 i hi)))   hP hS (lv_sub hl [0, 1, 2, 5, 6] rfl)
                          · have kc70 := jnlt c70 rfl jz_0
                            refine lv_iload hx hb dX12_putsOn_223 (lv_at hl 1 rfl) ?_
                            refine lv_if_eq (tgt := 237) hx hb dX12_putsOn_225 (of_decide_eq_true rfl) (fun _ => ?_) (fun c => absurd (of_decide_eq_true rfl) c)
                            refine lv_iload hx hb dX12_putsOn_237 (lv_at hl 0 rfl) ?_
                            refine lv_iload_n hx hb dX12_putsOn_239 rfl (lv_at hl 3 rfl) ?_
                            exact by
                             refine lv_icmp_ge (tgt := 249) hx hb dX12_putsOn_240 (of_decide_eq_true rfl) (fun c72 => ?_) (fun c72 => ?_)
                             · have kc72 := jle c72 rfl rfl
                               obtain ⟨x73, ex73⟩ : ∃ y : Int32, y = x30 + 1 := ⟨_, rfl⟩
                               have tx73 : x73.toInt = x30.toInt + 1 := (jadd ex73 rfl jz_1 (by omega) (by omega)).trans (by omega)
                               refine lv_iinc (v := x73) (lv' := [(4, .int x73), (6, .int r65), (5, .int 0), (3, .int x29), (2, .int x28), (0, .ref (ad 55)), (1, .int a1)]) hx hb dX12_putsOn_249 hl (k := 2) rfl (by rw [ex73]; rfl) (of_decide_eq_true rfl) rfl (fun ls hl => ?_)
                               refine lv_goto (tgt := 113) hx hb dX12_putsOn_252 (of_decide_eq_true rfl) ?_
                               exact by exact ihlp26 x28 x29 x73 σ64 _ _ ls (by have h92 := tx73; omega) (by have h92 := tx73; omega) (by have h92 := tx73; omega) (by have h92 := tx73; omega) (by have h92 := tx73; omega) (by have h92 := tx73; omega) (fun i hi => ((f66 i hi).trans (f41 i hi))) (fun i hi => ((f67 i hi).trans (f42 i hi)))   hP hS (lv_sub hl [0, 3, 4, 5, 6] rfl)
                             · have kc72 := jnle c72 rfl rfl
                               refine lv_iload hx hb dX12_putsOn_243 (lv_at hl 2 rfl) ?_
                               exact by
                                refine lv_istore_n (lv' := [(2, .int x30), (6, .int r65), (5, .int 0), (4, .int x30), (3, .int x29), (0, .ref (ad 55)), (1, .int a1)]) hx hb dX12_putsOn_245 rfl hl (of_decide_eq_true rfl) rfl (fun ls hl => ?_)
                                refine lv_iload hx hb dX12_putsOn_246 (lv_at hl 1 rfl) ?_
                                refine lv_istore_n (lv' := [(3, .int r65), (2, .int x30), (6, .int r65), (5, .int 0), (4, .int x30), (0, .ref (ad 55)), (1, .int a1)]) hx hb dX12_putsOn_248 rfl hl (of_decide_eq_true rfl) rfl (fun ls hl => ?_)
                                obtain ⟨x74, ex74⟩ : ∃ y : Int32, y = x30 + 1 := ⟨_, rfl⟩
                                have tx74 : x74.toInt = x30.toInt + 1 := (jadd ex74 rfl jz_1 (by omega) (by omega)).trans (by omega)
                                refine lv_iinc (v := x74) (lv' := [(4, .int x74), (3, .int r65), (2, .int x30), (6, .int r65), (5, .int 0), (0, .ref (ad 55)), (1, .int a1)]) hx hb dX12_putsOn_249 hl (k := 4) rfl (by rw [ex74]; rfl) (of_decide_eq_true rfl) rfl (fun ls hl => ?_)
                                refine lv_goto (tgt := 113) hx hb dX12_putsOn_252 (of_decide_eq_true rfl) ?_
                                exact by exact ihlp26 x30 r65 x74 σ64 _ _ ls (by have h92 := tx74; omega) (by have h92 := tx74; omega) (by have h92 := tx74; omega) (by have h92 := tx74; omega) (by have h92 := tx74; omega) (by have h92 := tx74; omega) (fun i hi => ((f66 i hi).trans (f41 i hi))) (fun i hi => ((f67 i hi).trans (f42 i hi)))   hP hS (lv_sub hl [0, 1, 2, 5, 6] rfl)
                      · have kc54 := jeq c54 rfl jz_6
                        exact by
                         refine lv_iconst (v := 1) hx hb dX12_putsOn_145 (of_decide_eq_true rfl) ?_
                         refine lv_goto (tgt := 150) hx hb dX12_putsOn_146 (of_decide_eq_true rfl) ?_
                         refine lv_istore (lv' := [(5, .int 1), (4, .int x30), (3, .int x29), (2, .int x28), (0, .ref (ad 55)), (1, .int a1)]) hx hb dX12_putsOn_150 hl (of_decide_eq_true rfl) rfl (fun ls hl => ?_)
                         refine lv_iload hx hb dX12_putsOn_152 (lv_at hl 0 rfl) ?_
                         refine lv_if_ne (tgt := 167) hx hb dX12_putsOn_154 (of_decide_eq_true rfl) (fun _ => ?_) (fun c => absurd c (of_decide_eq_true rfl))
                         refine lv_aload_n hx hb dX12_putsOn_167 rfl (lv_at hl 4 rfl) ?_
                         refine va_get (D := D) hx hb hts inlX12 hown hK hP 55 (jc_55 cI cL ad σ33 τ) rfl 17 (of_decide_eq_true rfl) (hts _ kw_7_11) (fun _ h9 => h9) rfl dX12_putsOn_168 ?_
                         refine lv_iconst (v := 0) hx hb dX12_putsOn_171 (of_decide_eq_true rfl) ?_
                         refine jald hx hb hK hP (jc_65 cI cL ad σ33 τ) (jin jz_0 (by omega) (by omega)) dX12_putsOn_172 ?_
                         exact by
                          refine jtopr (y := σ33 65 0) rfl ?_
                          have m75 : σ33 65 0 = (σ 65 0) := (congrFun (f41 65 (of_decide_eq_true rfl)) 0)
                          refine jtopr m75 ?_
                          have w76 : ∀ k : Nat, k < 2 → (-1) ≤ (σ33 65 k).toInt ∧ (σ33 65 k).toInt ≤ 80 := (jrr_fr (f41 65 (of_decide_eq_true rfl)) w10)
                          have g77 := w76 0 (of_decide_eq_true rfl)
                          rw [m75] at g77
                          refine lv_if_ge (tgt := 180) hx hb dX12_putsOn_173 (of_decide_eq_true rfl) (fun c78 => ?_) (fun c78 => ?_)
                          · have kc78 := jle c78 jz_0 rfl
                            refine lv_aload_n hx hb dX12_putsOn_180 rfl (lv_at hl 4 rfl) ?_
                            refine lv_iconst (v := 0) hx hb dX12_putsOn_181 (of_decide_eq_true rfl) ?_
                            refine lv_iload hx hb dX12_putsOn_182 (lv_at hl 1 rfl) ?_
                            refine lv_aload_n hx hb dX12_putsOn_184 rfl (lv_at hl 4 rfl) ?_
                            refine va_get (D := D) hx hb hts inlX12 hown hK hP 55 (jc_55 cI cL ad σ33 τ) rfl 11 (of_decide_eq_true rfl) (hts _ kw_7_8) (fun _ h9 => h9) rfl dX12_putsOn_185 ?_
                            refine lv_aload_n hx hb dX12_putsOn_188 rfl (lv_at hl 4 rfl) ?_
                            refine va_get (D := D) hx hb hts inlX12 hown hK hP 55 (jc_55 cI cL ad σ33 τ) rfl 25 (of_decide_eq_true rfl) (hts _ kw_23_6) (fun _ h9 => h9) rfl dX12_putsOn_189 ?_
                            have m79 : σ33 55 25 = (σ 55 25) := (f42 25 (of_decide_eq_true rfl))
                            refine jtopr m79 ?_
                            exact by
                             refine jald hx hb hK hP (jc_62 cI cL ad σ33 τ) (jin rfl (by omega) (by omega)) dX12_putsOn_192 ?_
                             have w80 : ∀ k : Nat, k < 8 → 0 ≤ (σ33 62 k).toInt ∧ (σ33 62 k).toInt ≤ 3 := (jrr_fr (f41 62 (of_decide_eq_true rfl)) w7)
                             have g81 := w80 _ (jnat (x := (σ 55 25)) rfl (n := 8) (by omega) (of_decide_eq_true rfl))
                             refine jtopr (y := (σ 62 (σ 55 25).toNatClampNeg)) (by rw [f41 62 (of_decide_eq_true rfl)]) ?_
                             rw [f41 62 (of_decide_eq_true rfl)] at g81
                             refine lv_aload_n hx hb dX12_putsOn_193 rfl (lv_at hl 4 rfl) ?_
                             refine lv_iload hx hb dX12_putsOn_194 (lv_at hl 1 rfl) ?_
                             refine lv_aload_n hx hb dX12_putsOn_196 rfl (lv_at hl 4 rfl) ?_
                             refine va_get (D := D) hx hb hts inlX12 hown hK hP 55 (jc_55 cI cL ad σ33 τ) rfl 11 (of_decide_eq_true rfl) (hts _ kw_7_8) (fun _ h9 => h9) rfl dX12_putsOn_197 ?_
                             exact by
                              refine lv_aload_n hx hb dX12_putsOn_200 rfl (lv_at hl 4 rfl) ?_
                              refine va_get (D := D) hx hb hts inlX12 hown hK hP 55 (jc_55 cI cL ad σ33 τ) rfl 25 (of_decide_eq_true rfl) (hts _ kw_23_6) (fun _ h9 => h9) rfl dX12_putsOn_201 ?_
                              refine jtopr m79 ?_
                              refine jald hx hb hK hP (jc_62 cI cL ad σ33 τ) (jin rfl (by omega) (by omega)) dX12_putsOn_204 ?_
                              refine jtopr (y := (σ 62 (σ 55 25).toNatClampNeg)) (by rw [f41 62 (of_decide_eq_true rfl)]) ?_
                              have I82 : jI101 σ33 := jI101_fr (f42 4 (of_decide_eq_true rfl)) (f42 5 (of_decide_eq_true rfl)) (f41 56 (of_decide_eq_true rfl)) (f41 57 (of_decide_eq_true rfl)) (f41 58 (of_decide_eq_true rfl)) (f41 59 (of_decide_eq_true rfl)) hI101
                              have I83 : jI102 σ33 := jI102_fr (f42 6 (of_decide_eq_true rfl)) (f41 60 (of_decide_eq_true rfl)) (f41 61 (of_decide_eq_true rfl)) hI102
                              have I84 : jI103 σ33 := jI103_fr (f42 9 (of_decide_eq_true rfl)) hI103
                              have I85 : jI105 σ33 := jI105_fr (f42 15 (of_decide_eq_true rfl)) (f41 65 (of_decide_eq_true rfl)) hI105
                              exact by
                               have w86 : ∀ k : Nat, k < 4 → 0 ≤ (σ33 68 k).toInt ∧ (σ33 68 k).toInt ≤ 3 := (jrr_fr (f41 68 (of_decide_eq_true rfl)) w20)
                               have p87 : jTR σ33 := jTR.fr (f41 64 (of_decide_eq_true rfl)) (f41 65 (of_decide_eq_true rfl)) hs_jTR
                               refine jcallV (As := [.int x30, .int (σ 62 (σ 55 25).toNatClampNeg)]) (rest := [.int (σ 62 (σ 55 25).toNatClampNeg), .int x30, .int 0, .ref (ad 55)]) ⟨hx, hb, hml, hown, hts⟩ hK hP hA hS hZ (c_X12_outBy l D cI cL ad zz hJ σ33 τ x30 (x30.toInt) rfl (σ 62 (σ 55 25).toNatClampNeg) ((σ 62 (σ 55 25).toNatClampNeg).toInt) rfl I82 I83 I84 I85 w86 p87 (by omega) (by omega)) cw_RX12_259 (jc_55 cI cL ad σ33 τ) rfl ⟨Nat.le_of_ble_eq_true rfl, Nat.le_of_ble_eq_true rfl⟩ rfl rfl rfl hl.1 rfl (Nat.le_of_ble_eq_true rfl) dX12_putsOn_205 ⟨Nat.zero_le _, Nat.zero_le _⟩ (fun r89 σ88 τ88 H locs h88 hP hS => ?_)
                               obtain ⟨rfl, f90, f91, p92, w93, h88⟩ := h88
                               have h95 := h88
                               obtain ⟨q97, k96⟩ := h95
                               refine lv_aload_n hx hb dX12_putsOn_208 rfl (lv_at hl 4 rfl) ?_
                               refine va_get (D := D) hx hb hts inlX12 hown hK hP 55 (jc_55 cI cL ad σ88 τ) rfl 36 (of_decide_eq_true rfl) (hts _ kw_7_21) (fun _ h9 => h9) rfl dX12_putsOn_209 ?_
                               refine lv_iload_n hx hb dX12_putsOn_212 rfl (lv_at hl 5 rfl) ?_
                               exact by
                                refine jald hx hb hK hP (jc_73 cI cL ad σ88 τ) (jin t1 (by omega) (by omega)) dX12_putsOn_213 ?_
                                refine jtopr (y := (σ 73 a1.toNatClampNeg)) (by rw [f90 73 (of_decide_eq_true rfl), f41 73 (of_decide_eq_true rfl)]) ?_
                                have I98 : jI105 σ88 := jI105_fr (f91 15 (of_decide_eq_true rfl)) (f90 65 (of_decide_eq_true rfl)) I85
                                have z99 : (σ88 65 0).toInt = (σ 65 0).toInt := (congrArg Int32.toInt (show σ88 65 0 = (σ 65 0) from ((congrFun (f90 65 (of_decide_eq_true rfl)) 0).trans m75)))
                                refine jcallV (As := [.int 0, .int x30, .int (σ 62 (σ 55 25).toNatClampNeg), .int r89, .int (σ 73 a1.toNatClampNeg)]) (rest := []) ⟨hx, hb, hml, hown, hts⟩ hK hP hA hS hZ (c_X12_textGives_0 l D cI cL ad zz hJ σ88 τ x30 (x30.toInt) rfl (σ 62 (σ 55 25).toNatClampNeg) ((σ 62 (σ 55 25).toNatClampNeg).toInt) rfl r89 (r89.toInt) rfl (σ 73 a1.toNatClampNeg) ((σ 73 a1.toNatClampNeg).toInt) rfl I98 p92 (by omega) (by omega)) cw_RX12_252 (jc_55 cI cL ad σ88 τ) rfl ⟨Nat.le_of_ble_eq_true rfl, Nat.le_of_ble_eq_true rfl⟩ rfl rfl rfl hl.1 rfl (Nat.le_of_ble_eq_true rfl) dX12_putsOn_214 ⟨Nat.zero_le _, Nat.zero_le _⟩ (fun r101 σ100 τ100 H locs h100 hP hS => ?_)
                                obtain ⟨rfl, f102, f103, p104, w105, h100⟩ := h100
                                refine lv_istore (lv' := [(6, .int r101), (5, .int 1), (4, .int x30), (3, .int x29), (2, .int x28), (0, .ref (ad 55)), (1, .int a1)]) hx hb dX12_putsOn_217 hl (of_decide_eq_true rfl) rfl (fun ls hl => ?_)
                                refine lv_iload_n hx hb dX12_putsOn_219 rfl (lv_at hl 4 rfl) ?_
                                refine lv_if_lt (tgt := 243) hx hb dX12_putsOn_220 (of_decide_eq_true rfl) (fun c107 => ?_) (fun c107 => ?_)
                                · exact by
                                   have kc107 := jlt c107 rfl jz_0
                                   refine lv_iload hx hb dX12_putsOn_243 (lv_at hl 2 rfl) ?_
                                   refine lv_istore_n (lv' := [(2, .int x30), (6, .int r101), (5, .int 1), (4, .int x30), (3, .int x29), (0, .ref (ad 55)), (1, .int a1)]) hx hb dX12_putsOn_245 rfl hl (of_decide_eq_true rfl) rfl (fun ls hl => ?_)
                                   refine lv_iload hx hb dX12_putsOn_246 (lv_at hl 1 rfl) ?_
                                   refine lv_istore_n (lv' := [(3, .int r101), (2, .int x30), (6, .int r101), (5, .int 1), (4, .int x30), (0, .ref (ad 55)), (1, .int a1)]) hx hb dX12_putsOn_248 rfl hl (of_decide_eq_true rfl) rfl (fun ls hl => ?_)
                                   obtain ⟨x108, ex108⟩ : ∃ y : Int32, y = x30 + 1 := ⟨_, rfl⟩
                                   have tx108 : x108.toInt = x30.toInt + 1 := (jadd ex108 rfl jz_1 (by omega) (by omega)).trans (by omega)
                                   refine lv_iinc (v := x108) (lv' := [(4, .int x108), (3, .int r101), (2, .int x30), (6, .int r101), (5, .int 1), (0, .ref (ad 55)), (1, .int a1)]) hx hb dX12_putsOn_249 hl (k := 4) rfl (by rw [ex108]; rfl) (of_decide_eq_true rfl) rfl (fun ls hl => ?_)
                                   refine lv_goto (tgt := 113) hx hb dX12_putsOn_252 (of_decide_eq_true rfl) ?_
                                   exact by exact ihlp26 x30 r101 x108 σ100 _ _ ls (by have h92 := tx108; omega) (by have h92 := tx108; omega) (by have h92 := tx108; omega) (by have h92 := tx108; omega) (by have h92 := tx108; omega) (by have h92 := tx108; omega) (fun i hi => ((f102 i hi).trans ((f90 i hi).trans (f41 i hi)))) (fun i hi => ((f103 i hi).trans ((f91 i hi).trans (f42 i hi))))   hP hS (lv_sub hl [0, 1, 2, 5, 6] rfl)
                                · exact by
                                   have kc107 := jnlt c107 rfl jz_0
                                   refine lv_iload hx hb dX12_putsOn_223 (lv_at hl 1 rfl) ?_
                                   refine lv_if_eq (tgt := 237) hx hb dX12_putsOn_225 (of_decide_eq_true rfl) (fun c => absurd c (of_decide_eq_true rfl)) (fun _ => ?_)
                                   refine lv_iload hx hb dX12_putsOn_228 (lv_at hl 0 rfl) ?_
                                   refine lv_iload_n hx hb dX12_putsOn_230 rfl (lv_at hl 3 rfl) ?_
                                   refine lv_icmp_le (tgt := 249) hx hb dX12_putsOn_231 (of_decide_eq_true rfl) (fun c109 => ?_) (fun c109 => ?_)
                                   · have kc109 := jle c109 rfl rfl
                                     obtain ⟨x110, ex110⟩ : ∃ y : Int32, y = x30 + 1 := ⟨_, rfl⟩
                                     have tx110 : x110.toInt = x30.toInt + 1 := (jadd ex110 rfl jz_1 (by omega) (by omega)).trans (by omega)
                                     exact by
                                      refine lv_iinc (v := x110) (lv' := [(4, .int x110), (6, .int r101), (5, .int 1), (3, .int x29), (2, .int x28), (0, .ref (ad 55)), (1, .int a1)]) hx hb dX12_putsOn_249 hl (k := 2) rfl (by rw [ex110]; rfl) (of_decide_eq_true rfl) rfl (fun ls hl => ?_)
                                      refine lv_goto (tgt := 113) hx hb dX12_putsOn_252 (of_decide_eq_true rfl) ?_
                                      exact by exact ihlp26 x28 x29 x110 σ100 _ _ ls (by have h92 := tx110; omega) (by have h92 := tx110; omega) (by have h92 := tx110; omega) (by have h92 := tx110; omega) (by have h92 := tx110; omega) (by have h92 := tx110; omega) (fun i hi => ((f102 i hi).trans ((f90 i hi).trans (f41 i hi)))) (fun i hi => ((f103 i hi).trans ((f91 i hi).trans (f42 i hi))))   hP hS (lv_sub hl [0, 3, 4, 5, 6] rfl)
                                   · have kc109 := jnle c109 rfl rfl
                                     refine lv_goto (tgt := 243) hx hb dX12_putsOn_234 (of_decide_eq_true rfl) ?_
                                     refine lv_iload hx hb dX12_putsOn_243 (lv_at hl 2 rfl) ?_
                                     refine lv_istore_n (lv' := [(2, .int x30), (6, .int r101), (5, .int 1), (4, .int x30), (3, .int x29), (0, .ref (ad 55)), (1, .int a1)]) hx hb dX12_putsOn_245 rfl hl (of_decide_eq_true rfl) rfl (fun ls hl => ?_)
                                     refine lv_iload hx hb dX12_putsOn_246 (lv_at hl 1 rfl) ?_
                                     refine lv_istore_n (lv' := [(3, .int r101), (2, .int x30), (6, .int r101), (5, .int 1), (4, .int x30), (0, .ref (ad 55)), (1, .int a1)]) hx hb dX12_putsOn_248 rfl hl (of_decide_eq_true rfl) rfl (fun ls hl => ?_)
                                     obtain ⟨x111, ex111⟩ : ∃ y : Int32, y = x30 + 1 := ⟨_, rfl⟩
                                     exact by
                                      have tx111 : x111.toInt = x30.toInt + 1 := (jadd ex111 rfl jz_1 (by omega) (by omega)).trans (by omega)
                                      refine lv_iinc (v := x111) (lv' := [(4, .int x111), (3, .int r101), (2, .int x30), (6, .int r101), (5, .int 1), (0, .ref (ad 55)), (1, .int a1)]) hx hb dX12_putsOn_249 hl (k := 4) rfl (by rw [ex111]; rfl) (of_decide_eq_true rfl) rfl (fun ls hl => ?_)
                                      refine lv_goto (tgt := 113) hx hb dX12_putsOn_252 (of_decide_eq_true rfl) ?_
                                      exact by exact ihlp26 x30 r101 x111 σ100 _ _ ls (by have h92 := tx111; omega) (by have h92 := tx111; omega) (by have h92 := tx111; omega) (by have h92 := tx111; omega) (by have h92 := tx111; omega) (by have h92 := tx111; omega) (fun i hi => ((f102 i hi).trans ((f90 i hi).trans (f41 i hi)))) (fun i hi => ((f103 i hi).trans ((f91 i hi).trans (f42 i hi))))   hP hS (lv_sub hl [0, 1, 2, 5, 6] rfl)
                          · have kc78 := jnle c78 jz_0 rfl
                            refine lv_iconst (v := 0) hx hb dX12_putsOn_176 (of_decide_eq_true rfl) ?_
                            refine lv_goto (tgt := 217) hx hb dX12_putsOn_177 (of_decide_eq_true rfl) ?_
                            refine lv_istore (lv' := [(6, .int 0), (5, .int 1), (4, .int x30), (3, .int x29), (2, .int x28), (0, .ref (ad 55)), (1, .int a1)]) hx hb dX12_putsOn_217 hl (of_decide_eq_true rfl) rfl (fun ls hl => ?_)
                            refine lv_iload_n hx hb dX12_putsOn_219 rfl (lv_at hl 4 rfl) ?_
                            exact by
                             refine lv_if_lt (tgt := 243) hx hb dX12_putsOn_220 (of_decide_eq_true rfl) (fun c112 => ?_) (fun c112 => ?_)
                             · have kc112 := jlt c112 rfl jz_0
                               refine lv_iload hx hb dX12_putsOn_243 (lv_at hl 2 rfl) ?_
                               refine lv_istore_n (lv' := [(2, .int x30), (6, .int 0), (5, .int 1), (4, .int x30), (3, .int x29), (0, .ref (ad 55)), (1, .int a1)]) hx hb dX12_putsOn_245 rfl hl (of_decide_eq_true rfl) rfl (fun ls hl => ?_)
                               refine lv_iload hx hb dX12_putsOn_246 (lv_at hl 1 rfl) ?_
                               refine lv_istore_n (lv' := [(3, .int 0), (2, .int x30), (6, .int 0), (5, .int 1), (4, .int x30), (0, .ref (ad 55)), (1, .int a1)]) hx hb dX12_putsOn_248 rfl hl (of_decide_eq_true rfl) rfl (fun ls hl => ?_)
                               obtain ⟨x113, ex113⟩ : ∃ y : Int32, y = x30 + 1 := ⟨_, rfl⟩
                               have tx113 : x113.toInt = x30.toInt + 1 := (jadd ex113 rfl jz_1 (by omega) (by omega)).trans (by omega)
                               refine lv_iinc (v := x113) (lv' := [(4, .int x113), (3, .int 0), (2, .int x30), (6, .int 0), (5, .int 1), (0, .ref (ad 55)), (1, .int a1)]) hx hb dX12_putsOn_249 hl (k := 4) rfl (by rw [ex113]; rfl) (of_decide_eq_true rfl) rfl (fun ls hl => ?_)
                               exact by
                                refine lv_goto (tgt := 113) hx hb dX12_putsOn_252 (of_decide_eq_true rfl) ?_
                                exact by exact ihlp26 x30 0 x113 σ33 _ _ ls (by have h91 := jz_0; have h92 := tx113; omega) (by have h91 := jz_0; have h92 := tx113; omega) (by have h91 := jz_0; have h92 := tx113; omega) (by have h91 := jz_0; have h92 := tx113; omega) (by have h91 := jz_0; have h92 := tx113; omega) (by have h91 := jz_0; have h92 := tx113; omega) (fun i hi => (f41 i hi)) (fun i hi => (f42 i hi))   hP hS (lv_sub hl [0, 1, 2, 5, 6] rfl)
                             · have kc112 := jnlt c112 rfl jz_0
                               refine lv_iload hx hb dX12_putsOn_223 (lv_at hl 1 rfl) ?_
                               refine lv_if_eq (tgt := 237) hx hb dX12_putsOn_225 (of_decide_eq_true rfl) (fun c => absurd c (of_decide_eq_true rfl)) (fun _ => ?_)
                               refine lv_iload hx hb dX12_putsOn_228 (lv_at hl 0 rfl) ?_
                               refine lv_iload_n hx hb dX12_putsOn_230 rfl (lv_at hl 3 rfl) ?_
                               refine lv_icmp_le (tgt := 249) hx hb dX12_putsOn_231 (of_decide_eq_true rfl) (fun c114 => ?_) (fun c114 => ?_)
                               · have kc114 := jle c114 jz_0 rfl
                                 obtain ⟨x115, ex115⟩ : ∃ y : Int32, y = x30 + 1 := ⟨_, rfl⟩
                                 exact by
                                  have tx115 : x115.toInt = x30.toInt + 1 := (jadd ex115 rfl jz_1 (by omega) (by omega)).trans (by omega)
                                  refine lv_iinc (v := x115) (lv' := [(4, .int x115), (6, .int 0), (5, .int 1), (3, .int x29), (2, .int x28), (0, .ref (ad 55)), (1, .int a1)]) hx hb dX12_putsOn_249 hl (k := 2) rfl (by rw [ex115]; rfl) (of_decide_eq_true rfl) rfl (fun ls hl => ?_)
                                  refine lv_goto (tgt := 113) hx hb dX12_putsOn_252 (of_decide_eq_true rfl) ?_
                                  exact by exact ihlp26 x28 x29 x115 σ33 _ _ ls (by have h92 := tx115; omega) (by have h92 := tx115; omega) (by have h92 := tx115; omega) (by have h92 := tx115; omega) (by have h92 := tx115; omega) (by have h92 := tx115; omega) (fun i hi => (f41 i hi)) (fun i hi => (f42 i hi))   hP hS (lv_sub hl [0, 3, 4, 5, 6] rfl)
                               · have kc114 := jnle c114 jz_0 rfl
                                 refine lv_goto (tgt := 243) hx hb dX12_putsOn_234 (of_decide_eq_true rfl) ?_
                                 refine lv_iload hx hb dX12_putsOn_243 (lv_at hl 2 rfl) ?_
                                 refine lv_istore_n (lv' := [(2, .int x30), (6, .int 0), (5, .int 1), (4, .int x30), (3, .int x29), (0, .ref (ad 55)), (1, .int a1)]) hx hb dX12_putsOn_245 rfl hl (of_decide_eq_true rfl) rfl (fun ls hl => ?_)
                                 refine lv_iload hx hb dX12_putsOn_246 (lv_at hl 1 rfl) ?_
                                 exact by
                                  refine lv_istore_n (lv' := [(3, .int 0), (2, .int x30), (6, .int 0), (5, .int 1), (4, .int x30), (0, .ref (ad 55)), (1, .int a1)]) hx hb dX12_putsOn_248 rfl hl (of_decide_eq_true rfl) rfl (fun ls hl => ?_)
                                  obtain ⟨x116, ex116⟩ : ∃ y : Int32, y = x30 + 1 := ⟨_, rfl⟩
                                  have tx116 : x116.toInt = x30.toInt + 1 := (jadd ex116 rfl jz_1 (by omega) (by omega)).trans (by omega)
                                  refine lv_iinc (v := x116) (lv' := [(4, .int x116), (3, .int 0), (2, .int x30), (6, .int 0), (5, .int 1), (0, .ref (ad 55)), (1, .int a1)]) hx hb dX12_putsOn_249 hl (k := 4) rfl (by rw [ex116]; rfl) (of_decide_eq_true rfl) rfl (fun ls hl => ?_)
                                  refine lv_goto (tgt := 113) hx hb dX12_putsOn_252 (of_decide_eq_true rfl) ?_
                                  exact by exact ihlp26 x30 0 x116 σ33 _ _ ls (by have h91 := jz_0; have h92 := tx116; omega) (by have h91 := jz_0; have h92 := tx116; omega) (by have h91 := jz_0; have h92 := tx116; omega) (by have h91 := jz_0; have h92 := tx116; omega) (by have h91 := jz_0; have h92 := tx116; omega) (by have h91 := jz_0; have h92 := tx116; omega) (fun i hi => (f41 i hi)) (fun i hi => (f42 i hi))   hP hS (lv_sub hl [0, 1, 2, 5, 6] rfl)
                   · obtain ⟨q118, k117⟩ := h51
                     have q118 := q118.symm
                     subst q118
                     exact by
                      have e119 : jmb σ33 x30 = jmb σ x30 := (jmb_fr (f42 27 (of_decide_eq_true rfl)) (f42 30 (of_decide_eq_true rfl)) (f42 31 (of_decide_eq_true rfl)) (f41 56 (of_decide_eq_true rfl)) (f41 69 (of_decide_eq_true rfl)) x30)
                      have n120 : ¬ x30 = B0 := fun h => absurd ((hB0).symm.trans (by rw [← h]; exact e119.symm.trans k117) : (1 : Int32) = 0) (of_decide_eq_true rfl)
                      have k121 := jne n120 rfl rfl
                      refine lv_if_ne (tgt := 134) hx hb dX12_putsOn_128 (of_decide_eq_true rfl) (fun c => absurd (of_decide_eq_true rfl) c) (fun _ => ?_)
                      refine lv_goto (tgt := 249) hx hb dX12_putsOn_131 (of_decide_eq_true rfl) ?_
                      obtain ⟨x122, ex122⟩ : ∃ y : Int32, y = x30 + 1 := ⟨_, rfl⟩
                      have tx122 : x122.toInt = x30.toInt + 1 := (jadd ex122 rfl jz_1 (by omega) (by omega)).trans (by omega)
                      refine lv_iinc (v := x122) (lv' := [(4, .int x122), (3, .int x29), (2, .int x28), (0, .ref (ad 55)), (1, .int a1)]) hx hb dX12_putsOn_249 hl (k := 0) rfl (by rw [ex122]; rfl) (of_decide_eq_true rfl) rfl (fun ls hl => ?_)
                      refine lv_goto (tgt := 113) hx hb dX12_putsOn_252 (of_decide_eq_true rfl) ?_
                      exact by exact ihlp26 x28 x29 x122 σ33 _ _ ls (by have h92 := tx122; omega) (by have h92 := tx122; omega) (by have h92 := tx122; omega) (by have h92 := tx122; omega) (by have h92 := tx122; omega) (by have h92 := tx122; omega) (fun i hi => (f41 i hi)) (fun i hi => (f42 i hi))   hP hS (lv_sub hl [0, 1, 2, 3, 4] rfl)
           exact by exact lp26 1000000 (-1) 0 0 σ _ _ ls (by have h90 := jz_m1; have h91 := jz_0; have h92 := jz_0; omega) (by have h90 := jz_m1; have h91 := jz_0; have h92 := jz_0; omega) (by have h90 := jz_m1; have h91 := jz_0; have h92 := jz_0; omega) (by have h90 := jz_m1; have h91 := jz_0; have h92 := jz_0; omega) (by have h90 := jz_m1; have h91 := jz_0; have h92 := jz_0; omega) (by have h90 := jz_m1; have h91 := jz_0; have h92 := jz_0; omega) (fun _ _ => rfl) (fun _ _ => rfl)   hP hS hl
         · exact by
            have kc25 := jeq c25 rfl jz_2
            refine lv_aload_n hx hb dX12_putsOn_96 rfl (lv_at hl 0 rfl) ?_
            have p123 : jmb σ B0 = 1 := (jmb_fr rfl rfl rfl rfl rfl B0).trans hB0
            refine jcallV (As := []) (rest := []) ⟨hx, hb, hml, hown, hts⟩ hK hP hA hS hZ ((c_X12_bests l D cI cL ad zz hJ 8).2.2 σ τ B0 p123 hI101 hI102 hI103 hI104 hI105 hI106 hI120 hs_jKept hs_jTR hs_jqSt (by omega) (by omega) (by omega) (by omega)) cw_RX12_280 (jc_55 cI cL ad σ τ) rfl ⟨Nat.le_of_ble_eq_true rfl, Nat.le_of_ble_eq_true rfl⟩ rfl rfl rfl hl.1 rfl (Nat.le_of_ble_eq_true rfl) dX12_putsOn_97 ⟨Nat.zero_le _, Nat.zero_le _⟩ (fun r125 σ124 τ124 H locs h124 hP hS => ?_)
            obtain ⟨rfl, f126, f127, p128, p129, p130, w131, h124⟩ := h124
            obtain ⟨k133, h124⟩ := h124
            have h134 := h124
            obtain ⟨q136, k135⟩ := h134
            refine lv_istore_n (lv' := [(2, .int r125), (0, .ref (ad 55)), (1, .int a1)]) hx hb dX12_putsOn_100 rfl hl (of_decide_eq_true rfl) rfl (fun ls hl => ?_)
            exact by
             refine lv_aload_n hx hb dX12_putsOn_101 rfl (lv_at hl 1 rfl) ?_
             refine va_get (D := D) hx hb hts inlX12 hown hK hP 55 (jc_55 cI cL ad σ124 τ) rfl 37 (of_decide_eq_true rfl) (hts _ kw_33_15) (fun _ h9 => h9) rfl dX12_putsOn_102 ?_
             exact hret (σ124 55 37) σ124 τ _ _ _ _ rfl ⟨rfl, (fun i hi => (f126 i hi)), (fun i hi => (f127 i hi)), p128, p129, p130, ⟨trivial, (by omega)⟩⟩ hP hS dX12_putsOn_105
      · have kc24 := jeq c24 rfl jz_4
        refine lv_aload_n hx hb dX12_putsOn_27 rfl (lv_at hl 0 rfl) ?_
        refine va_get (D := D) hx hb hts inlX12 hown hK hP 55 (jc_55 cI cL ad σ τ) rfl 34 (of_decide_eq_true rfl) (hts _ kw_7_19) (fun _ h9 => h9) rfl dX12_putsOn_28 ?_
        refine lv_iload_n hx hb dX12_putsOn_31 rfl (lv_at hl 1 rfl) ?_
        refine jald hx hb hK hP (jc_71 cI cL ad σ τ) (jin t1 (by omega) (by omega)) dX12_putsOn_32 ?_
        have g137 := w13 _ (jnat (x := a1) t1 (n := 20) (by omega) (of_decide_eq_true rfl))
        exact by
         refine jtopr (y := (σ 71 a1.toNatClampNeg)) rfl ?_
         refine lv_if_le (tgt := 61) hx hb dX12_putsOn_33 (of_decide_eq_true rfl) (fun c138 => ?_) (fun c138 => ?_)
         · have kc138 := jle c138 rfl jz_0
           refine lv_iconst (v := (-1)) hx hb dX12_putsOn_61 (of_decide_eq_true rfl) ?_
           refine lv_istore_n (lv' := [(2, .int (-1)), (0, .ref (ad 55)), (1, .int a1)]) hx hb dX12_putsOn_62 rfl hl (of_decide_eq_true rfl) rfl (fun ls hl => ?_)
           refine lv_aload_n hx hb dX12_putsOn_63 rfl (lv_at hl 1 rfl) ?_
           refine lv_iload_n hx hb dX12_putsOn_64 rfl (lv_at hl 2 rfl) ?_
           refine lv_iload_n hx hb dX12_putsOn_65 rfl (lv_at hl 0 rfl) ?_
           refine lv_if_lt (tgt := 81) hx hb dX12_putsOn_66 (of_decide_eq_true rfl) (fun _ => ?_) (fun c => absurd (of_decide_eq_true rfl) c)
           refine lv_iconst (v := (-1)) hx hb dX12_putsOn_81 (of_decide_eq_true rfl) ?_
           have p139 : jmb σ B0 = 1 := (jmb_fr rfl rfl rfl rfl rfl B0).trans hB0
           exact by
            refine jcallV (As := [.int a1, .int (-1)]) (rest := []) ⟨hx, hb, hml, hown, hts⟩ hK hP hA hS hZ (c_X12_turnOf l D cI cL ad zz hJ σ τ B0 p139 a1 (A1) t1 (-1) ((-1)) jz_m1 hI102 hI106 (by omega) (by omega) (by omega) (by omega)) cw_RX12_277 (jc_55 cI cL ad σ τ) rfl ⟨Nat.le_of_ble_eq_true rfl, Nat.le_of_ble_eq_true rfl⟩ rfl rfl rfl hl.1 rfl (Nat.le_of_ble_eq_true rfl) dX12_putsOn_82 ⟨Nat.zero_le _, Nat.zero_le _⟩ (fun r141 σ140 τ140 H locs h140 hP hS => ?_)
            obtain ⟨⟨rfl, rfl⟩, h140⟩ := h140
            have h142 := h140
            obtain ⟨q144, k143⟩ := h142
            exact hret r141 σ τ _ _ _ _ rfl ⟨rfl, (fun _ _ => rfl), (fun _ _ => rfl), hs_jKept, hs_jTR, hs_jqSt, ⟨trivial, (by omega)⟩⟩ hP hS dX12_putsOn_85
         · have kc138 := jnle c138 rfl jz_0
           refine lv_aload_n hx hb dX12_putsOn_36 rfl (lv_at hl 0 rfl) ?_
           refine va_get (D := D) hx hb hts inlX12 hown hK hP 55 (jc_55 cI cL ad σ τ) rfl 26 (of_decide_eq_true rfl) (hts _ kw_23_5) (fun _ h9 => h9) rfl dX12_putsOn_37 ?_
           refine lv_aload_n hx hb dX12_putsOn_40 rfl (lv_at hl 0 rfl) ?_
           refine va_get (D := D) hx hb hts inlX12 hown hK hP 55 (jc_55 cI cL ad σ τ) rfl 36 (of_decide_eq_true rfl) (hts _ kw_7_21) (fun _ h9 => h9) rfl dX12_putsOn_41 ?_
           refine lv_iload_n hx hb dX12_putsOn_44 rfl (lv_at hl 1 rfl) ?_
           exact by
            refine jald hx hb hK hP (jc_73 cI cL ad σ τ) (jin t1 (by omega) (by omega)) dX12_putsOn_45 ?_
            refine jtopr (y := (σ 73 a1.toNatClampNeg)) rfl ?_
            refine lv_icmp_ge (tgt := 61) hx hb dX12_putsOn_46 (of_decide_eq_true rfl) (fun c145 => ?_) (fun c145 => ?_)
            · have kc145 := jle c145 rfl rfl
              refine lv_iconst (v := (-1)) hx hb dX12_putsOn_61 (of_decide_eq_true rfl) ?_
              refine lv_istore_n (lv' := [(2, .int (-1)), (0, .ref (ad 55)), (1, .int a1)]) hx hb dX12_putsOn_62 rfl hl (of_decide_eq_true rfl) rfl (fun ls hl => ?_)
              refine lv_aload_n hx hb dX12_putsOn_63 rfl (lv_at hl 1 rfl) ?_
              refine lv_iload_n hx hb dX12_putsOn_64 rfl (lv_at hl 2 rfl) ?_
              refine lv_iload_n hx hb dX12_putsOn_65 rfl (lv_at hl 0 rfl) ?_
              refine lv_if_lt (tgt := 81) hx hb dX12_putsOn_66 (of_decide_eq_true rfl) (fun _ => ?_) (fun c => absurd (of_decide_eq_true rfl) c)
              refine lv_iconst (v := (-1)) hx hb dX12_putsOn_81 (of_decide_eq_true rfl) ?_
              have p146 : jmb σ B0 = 1 := (jmb_fr rfl rfl rfl rfl rfl B0).trans hB0
              exact by
               refine jcallV (As := [.int a1, .int (-1)]) (rest := []) ⟨hx, hb, hml, hown, hts⟩ hK hP hA hS hZ (c_X12_turnOf l D cI cL ad zz hJ σ τ B0 p146 a1 (A1) t1 (-1) ((-1)) jz_m1 hI102 hI106 (by omega) (by omega) (by omega) (by omega)) cw_RX12_277 (jc_55 cI cL ad σ τ) rfl ⟨Nat.le_of_ble_eq_true rfl, Nat.le_of_ble_eq_true rfl⟩ rfl rfl rfl hl.1 rfl (Nat.le_of_ble_eq_true rfl) dX12_putsOn_82 ⟨Nat.zero_le _, Nat.zero_le _⟩ (fun r148 σ147 τ147 H locs h147 hP hS => ?_)
               obtain ⟨⟨rfl, rfl⟩, h147⟩ := h147
               have h149 := h147
               obtain ⟨q151, k150⟩ := h149
               exact hret r148 σ τ _ _ _ _ rfl ⟨rfl, (fun _ _ => rfl), (fun _ _ => rfl), hs_jKept, hs_jTR, hs_jqSt, ⟨trivial, (by omega)⟩⟩ hP hS dX12_putsOn_85
            · have kc145 := jnle c145 rfl rfl
              refine lv_aload_n hx hb dX12_putsOn_49 rfl (lv_at hl 0 rfl) ?_
              refine va_get (D := D) hx hb hts inlX12 hown hK hP 55 (jc_55 cI cL ad σ τ) rfl 35 (of_decide_eq_true rfl) (hts _ kw_7_20) (fun _ h9 => h9) rfl dX12_putsOn_50 ?_
              refine lv_bipush (v := 8) hx hb dX12_putsOn_53 (of_decide_eq_true rfl) ?_
              refine lv_iload_n hx hb dX12_putsOn_55 rfl (lv_at hl 1 rfl) ?_
              refine lv_imul hx hb dX12_putsOn_56 ?_
              refine lv_topi (fun x152 ex152 => ?_)
              exact by
               have tx152 : x152.toInt = 8 * A1 := (jmul ex152 jz_8 t1 (by omega) (by omega)).trans (by omega)
               refine jald hx hb hK hP (jc_72 cI cL ad σ τ) (jin tx152 (by omega) (by omega)) dX12_putsOn_57 ?_
               have g153 := w14 _ (jnat (x := x152) tx152 (n := 160) (by omega) (of_decide_eq_true rfl))
               refine jtopr (y := (σ 72 x152.toNatClampNeg)) rfl ?_
               refine lv_goto (tgt := 62) hx hb dX12_putsOn_58 (of_decide_eq_true rfl) ?_
               refine lv_istore_n (lv' := [(2, .int (σ 72 x152.toNatClampNeg)), (0, .ref (ad 55)), (1, .int a1)]) hx hb dX12_putsOn_62 rfl hl (of_decide_eq_true rfl) rfl (fun ls hl => ?_)
               refine lv_aload_n hx hb dX12_putsOn_63 rfl (lv_at hl 1 rfl) ?_
               refine lv_iload_n hx hb dX12_putsOn_64 rfl (lv_at hl 2 rfl) ?_
               refine lv_iload_n hx hb dX12_putsOn_65 rfl (lv_at hl 0 rfl) ?_
               exact by
                refine lv_if_lt (tgt := 81) hx hb dX12_putsOn_66 (of_decide_eq_true rfl) (fun c => absurd (jlt c rfl jz_0) (by omega)) (fun c154 => ?_)
                have kc154 := jnlt c154 rfl jz_0
                refine lv_aload_n hx hb dX12_putsOn_69 rfl (lv_at hl 1 rfl) ?_
                refine lv_iload_n hx hb dX12_putsOn_70 rfl (lv_at hl 0 rfl) ?_
                refine jcallV (As := [.int (σ 72 x152.toNatClampNeg)]) (rest := [.int a1, .ref (ad 55)]) ⟨hx, hb, hml, hown, hts⟩ hK hP hA hS hZ (c_X12_leastBut l D cI cL ad zz hJ σ τ (σ 72 x152.toNatClampNeg) ((σ 72 x152.toNatClampNeg).toInt) rfl hI102) cw_RX12_274 (jc_55 cI cL ad σ τ) rfl ⟨Nat.le_of_ble_eq_true rfl, Nat.le_of_ble_eq_true rfl⟩ rfl rfl rfl hl.1 rfl (Nat.le_of_ble_eq_true rfl) dX12_putsOn_71 ⟨Nat.zero_le _, Nat.zero_le _⟩ (fun r156 σ155 τ155 H locs h155 hP hS => ?_)
                obtain ⟨⟨rfl, rfl⟩, h155⟩ := h155
                rcases h155 with h157 | h158
                · obtain ⟨q163, k159, k160, k161, k162⟩ := h157
                  refine lv_if_lt (tgt := 81) hx hb dX12_putsOn_74 (of_decide_eq_true rfl) (fun c => absurd (jlt c rfl jz_0) (by omega)) (fun c164 => ?_)
                  exact by
                   have kc164 := jnlt c164 rfl jz_0
                   refine lv_iload_n hx hb dX12_putsOn_77 rfl (lv_at hl 0 rfl) ?_
                   refine lv_goto (tgt := 82) hx hb dX12_putsOn_78 (of_decide_eq_true rfl) ?_
                   have p165 : jmb σ r156 = 1 := (jmb_fr rfl rfl rfl rfl rfl r156).trans k162
                   refine jcallV (As := [.int a1, .int (σ 72 x152.toNatClampNeg)]) (rest := []) ⟨hx, hb, hml, hown, hts⟩ hK hP hA hS hZ (c_X12_turnOf l D cI cL ad zz hJ σ τ r156 p165 a1 (A1) t1 (σ 72 x152.toNatClampNeg) ((σ 72 x152.toNatClampNeg).toInt) rfl hI102 hI106 (by omega) (by omega) (by omega) (by omega)) cw_RX12_277 (jc_55 cI cL ad σ τ) rfl ⟨Nat.le_of_ble_eq_true rfl, Nat.le_of_ble_eq_true rfl⟩ rfl rfl rfl hl.1 rfl (Nat.le_of_ble_eq_true rfl) dX12_putsOn_82 ⟨Nat.zero_le _, Nat.zero_le _⟩ (fun r167 σ166 τ166 H locs h166 hP hS => ?_)
                   obtain ⟨⟨rfl, rfl⟩, h166⟩ := h166
                   have h168 := h166
                   obtain ⟨q170, k169⟩ := h168
                   exact hret r167 σ τ _ _ _ _ rfl ⟨rfl, (fun _ _ => rfl), (fun _ _ => rfl), hs_jKept, hs_jTR, hs_jqSt, ⟨trivial, (by omega)⟩⟩ hP hS dX12_putsOn_85
                · exact by
                   obtain ⟨q172, k171⟩ := h158
                   have q172 := q172.symm
                   subst q172
                   refine lv_if_lt (tgt := 81) hx hb dX12_putsOn_74 (of_decide_eq_true rfl) (fun _ => ?_) (fun c => absurd (of_decide_eq_true rfl) c)
                   refine lv_iconst (v := (-1)) hx hb dX12_putsOn_81 (of_decide_eq_true rfl) ?_
                   have p173 : jmb σ B0 = 1 := (jmb_fr rfl rfl rfl rfl rfl B0).trans hB0
                   refine jcallV (As := [.int a1, .int (-1)]) (rest := []) ⟨hx, hb, hml, hown, hts⟩ hK hP hA hS hZ (c_X12_turnOf l D cI cL ad zz hJ σ τ B0 p173 a1 (A1) t1 (-1) ((-1)) jz_m1 hI102 hI106 (by omega) (by omega) (by omega) (by omega)) cw_RX12_277 (jc_55 cI cL ad σ τ) rfl ⟨Nat.le_of_ble_eq_true rfl, Nat.le_of_ble_eq_true rfl⟩ rfl rfl rfl hl.1 rfl (Nat.le_of_ble_eq_true rfl) dX12_putsOn_82 ⟨Nat.zero_le _, Nat.zero_le _⟩ (fun r175 σ174 τ174 H locs h174 hP hS => ?_)
                   obtain ⟨⟨rfl, rfl⟩, h174⟩ := h174
                   have h176 := h174
                   exact by
                    obtain ⟨q178, k177⟩ := h176
                    exact hret r175 σ τ _ _ _ _ rfl ⟨rfl, (fun _ _ => rfl), (fun _ _ => rfl), hs_jKept, hs_jTR, hs_jqSt, ⟨trivial, (by omega)⟩⟩ hP hS dX12_putsOn_85
   · have kc22 := jeq c22 rfl jz_1
     refine lv_aload_n hx hb dX12_putsOn_10 rfl (lv_at hl 0 rfl) ?_
     refine lv_iload_n hx hb dX12_putsOn_11 rfl (lv_at hl 1 rfl) ?_
     refine lv_iconst (v := (-1)) hx hb dX12_putsOn_12 (of_decide_eq_true rfl) ?_
     have p179 : jmb σ B0 = 1 := (jmb_fr rfl rfl rfl rfl rfl B0).trans hB0
     refine jcallV (As := [.int a1, .int (-1)]) (rest := []) ⟨hx, hb, hml, hown, hts⟩ hK hP hA hS hZ (c_X12_turnOf l D cI cL ad zz hJ σ τ B0 p179 a1 (A1) t1 (-1) ((-1)) jz_m1 hI102 hI106 (by omega) (by omega) (by omega) (by omega)) cw_RX12_277 (jc_55 cI cL ad σ τ) rfl ⟨Nat.le_of_ble_eq_true rfl, Nat.le_of_ble_eq_true rfl⟩ rfl rfl rfl hl.1 rfl (Nat.le_of_ble_eq_true rfl) dX12_putsOn_13 ⟨Nat.zero_le _, Nat.zero_le _⟩ (fun r181 σ180 τ180 H locs h180 hP hS => ?_)
     obtain ⟨⟨rfl, rfl⟩, h180⟩ := h180
     exact by
      have h182 := h180
      obtain ⟨q184, k183⟩ := h182
      exact hret r181 σ τ _ _ _ _ rfl ⟨rfl, (fun _ _ => rfl), (fun _ _ => rfl), hs_jKept, hs_jTR, hs_jqSt, ⟨trivial, (by omega)⟩⟩ hP hS dX12_putsOn_16
set_option maxHeartbeats 4000000 in
set_option maxRecDepth 100000 in
theorem c_X12_means_mf_g (l : Launch) (D : va_G) (cI cL : ClassId) (ad zz : Nat → Nat) (hJ : jD ad) (n : Nat) (h_mf : ∀ (σ : Nat → Nat → Int32) (τ : Nat → Nat → Int64) (a1 : Int32) (A1 : Int) (t1 : a1.toInt = A1) (hI101 : jI101 σ) (hI102 : jI102 σ) (hI103 : jI103 σ) (hI104 : jI104 σ) (hI105 : jI105 σ) (hI106 : jI106 σ) (hI120 : jI120 σ) (hs_jKept : jKept σ) (hs_jTR : jTR σ) (hs_jqSt : jqSt σ) (hp0 : 0 ≤ A1 ∧ A1 ≤ 19) (hp1 : (σ 55 12).toInt - (σ 55 26).toInt ≤ 8) (hp2 : (σ 55 12).toInt - (σ 55 26).toInt ≤ (((n) : Nat) : Int)), jM l yX12_meanFrom cX12_meanFrom 9 (some .int) ({ frames := (106 + 4 * (n)), cells := 0, slots := 0, locals := (5261 + 240 * (n)) }) D cI cL ad zz [.ref (ad 55), .int a1] σ τ (fun r σ' τ' => τ = τ' ∧ (∀ i : Nat, (i < 55 ∨ 55 < i) ∧ (i < 66 ∨ 66 < i) ∧ (i < 74 ∨ 78 < i) → σ' i = σ i) ∧ (∀ k : Nat, (k < 18 ∨ 18 < k) ∧ (k < 19 ∨ 19 < k) ∧ (k < 20 ∨ 20 < k) ∧ (k < 21 ∨ 21 < k) ∧ (k < 22 ∨ 22 < k) ∧ (k < 37 ∨ 37 < k) → σ' 55 k = σ 55 k) ∧ (jKept σ') ∧ (jTR σ') ∧ (jqSt σ') ∧ True)) (σ : Nat → Nat → Int32) (τ : Nat → Nat → Int64) (a1 : Int32) (A1 : Int) (t1 : a1.toInt = A1) (hI101 : jI101 σ) (hI102 : jI102 σ) (hI103 : jI103 σ) (hI104 : jI104 σ) (hI105 : jI105 σ) (hI106 : jI106 σ) (hI120 : jI120 σ) (hs_jKept : jKept σ) (hs_jTR : jTR σ) (hs_jqSt : jqSt σ) (hp0 : 0 ≤ A1 ∧ A1 ≤ 19) (hp1 : (σ 55 12).toInt - (σ 55 26).toInt ≤ 8) (hp2 : (σ 55 12).toInt - (σ 55 26).toInt ≤ (((n + 1) : Nat) : Int)) : jM l yX12_meanFrom cX12_meanFrom 9 (some .int) ({ frames := (106 + 4 * (n + 1)), cells := 0, slots := 0, locals := (5261 + 240 * (n + 1)) }) D cI cL ad zz [.ref (ad 55), .int a1] σ τ (fun r σ' τ' => τ = τ' ∧ (∀ i : Nat, (i < 55 ∨ 55 < i) ∧ (i < 66 ∨ 66 < i) ∧ (i < 74 ∨ 78 < i) → σ' i = σ i) ∧ (∀ k : Nat, (k < 18 ∨ 18 < k) ∧ (k < 19 ∨ 19 < k) ∧ (k < 20 ∨ 20 < k) ∧ (k < 21 ∨ 21 < k) ∧ (k < 22 ∨ 22 < k) ∧ (k < 37 ∨ 37 < k) → σ' 55 k = σ 55 k) ∧ (jKept σ') ∧ (jTR σ') ∧ (jqSt σ') ∧ True) := by
  refine jM.of hJ (by decide +kernel) (nt := .int) rfl (Nat.le_of_ble_eq_true rfl) ?_
  intro p e s m args below meth c Q ls hC hret hl hP
  obtain ⟨hx, hb, hr, hml, hown, hts, hK, -, hlocks, hZ⟩ := hC
  have hown : s.vm.findClass RX12 = some m.cls := hown
  have hS : va_S (jA ad) s.heap s.heap [] := va_S.rf
  have hA : ∀ q, jA ad q → jA ad q := fun _ h => h
  have hl : lv_has ls 9 [(0, .ref (ad 55)), (1, .int a1)] := hl
  have g1 := jrg t1
  obtain ⟨i1, w2, w3⟩ : (0 ≤ (σ 55 6).toInt ∧ (σ 55 6).toInt ≤ 4) ∧ (∀ k : Nat, k < 4 → 0 ≤ (σ 60 k).toInt ∧ (σ 60 k).toInt ≤ 50) ∧ (∀ k : Nat, k < 4 → 0 ≤ (σ 61 k).toInt ∧ (σ 61 k).toInt ≤ 20) := id hI102
  obtain ⟨i4, i5, i6, w7, w8⟩ : (1 ≤ (σ 55 10).toInt ∧ (σ 55 10).toInt ≤ 8) ∧ (1 ≤ (σ 55 12).toInt ∧ (σ 55 12).toInt ≤ 12) ∧ (0 ≤ (σ 55 13).toInt ∧ (σ 55 13).toInt ≤ 999) ∧ (∀ k : Nat, k < 8 → 0 ≤ (σ 62 k).toInt ∧ (σ 62 k).toInt ≤ 3) ∧ (∀ k : Nat, k < 8 → 0 ≤ (σ 67 k).toInt ∧ (σ 67 k).toInt ≤ 3) := id hI104
  obtain ⟨i9, i10, i11, i12, i13, w14⟩ : (0 ≤ (σ 55 25).toInt) ∧ ((σ 55 25).toInt ≤ (σ 55 10).toInt) ∧ (0 ≤ (σ 55 26).toInt) ∧ ((σ 55 26).toInt ≤ (σ 55 12).toInt) ∧ ((-1) ≤ (σ 55 27).toInt ∧ (σ 55 27).toInt ≤ 3) ∧ (∀ k : Nat, k < 4 → 0 ≤ (σ 68 k).toInt ∧ (σ 68 k).toInt ≤ 3) := id hI120
  refine lv_aload_n hx hb dX12_meanFrom_0 rfl (lv_at hl 0 rfl) ?_
  refine jcallV (As := []) (rest := []) ⟨hx, hb, hml, hown, hts⟩ hK hP hA hS hZ (c_X12_isEnded l D cI cL ad zz hJ σ τ hI102 hI104 hI120) cw_RX12_307 (jc_55 cI cL ad σ τ) rfl ⟨by dsimp only; omega, by dsimp only; omega⟩ rfl rfl rfl hl.1 rfl (Nat.le_of_ble_eq_true rfl) dX12_meanFrom_1 ⟨Nat.zero_le _, Nat.zero_le _⟩ (fun r16 σ15 τ15 H locs h15 hP hS => ?_)
  obtain ⟨⟨rfl, rfl⟩, h15⟩ := h15
  rcases h15 with h17 | h18
  · obtain ⟨q20, k19⟩ := h17
    have q20 := q20.symm
    subst q20
    refine lv_if_eq (tgt := 9) hx hb dX12_meanFrom_4 (of_decide_eq_true rfl) (fun c => absurd c (of_decide_eq_true rfl)) (fun _ => ?_)
    refine lv_iconst (v := 0) hx hb dX12_meanFrom_7 (of_decide_eq_true rfl) ?_
    exact hret 0 σ τ _ _ _ _ rfl ⟨rfl, (fun _ _ => rfl), (fun _ _ => rfl), hs_jKept, hs_jTR, hs_jqSt, trivial⟩ hP hS dX12_meanFrom_8
  · obtain ⟨q24, k21, k22, k23⟩ := h18
    have q24 := q24.symm
    subst q24
    obtain ⟨B25, k26, k27, w28⟩ := k23
    refine lv_if_eq (tgt := 9) hx hb dX12_meanFrom_4 (of_decide_eq_true rfl) (fun _ => ?_) (fun c => absurd (of_decide_eq_true rfl) c)
    refine lv_aload_n hx hb dX12_meanFrom_9 rfl (lv_at hl 0 rfl) ?_
    refine lv_iload_n hx hb dX12_meanFrom_10 rfl (lv_at hl 1 rfl) ?_
    have p29 : jmb σ B25 = 1 := (jmb_fr rfl rfl rfl rfl rfl B25).trans w28
    exact by
     refine jcallV (As := [.int a1]) (rest := []) ⟨hx, hb, hml, hown, hts⟩ hK hP hA hS hZ (c_X12_putsOn l D cI cL ad zz hJ σ τ B25 p29 a1 (A1) t1 hI101 hI102 hI103 hI104 hI105 hI106 hI120 hs_jKept hs_jTR hs_jqSt (by omega) (by omega) (by omega) (by omega) (by omega)) cw_RX12_321 (jc_55 cI cL ad σ τ) rfl ⟨by dsimp only; omega, by dsimp only; omega⟩ rfl rfl rfl hl.1 rfl (Nat.le_of_ble_eq_true rfl) dX12_meanFrom_11 ⟨Nat.zero_le _, Nat.zero_le _⟩ (fun r31 σ30 τ30 H locs h30 hP hS => ?_)
     obtain ⟨rfl, f32, f33, p34, p35, p36, h30⟩ := h30
     have h38 := h30
     obtain ⟨q40, k39⟩ := h38
     refine lv_istore_n (lv' := [(2, .int r31), (0, .ref (ad 55)), (1, .int a1)]) hx hb dX12_meanFrom_14 rfl hl (of_decide_eq_true rfl) rfl (fun ls hl => ?_)
     refine lv_aload_n hx hb dX12_meanFrom_15 rfl (lv_at hl 1 rfl) ?_
     refine va_get (D := D) hx hb hts inlX12 hown hK hP 55 (jc_55 cI cL ad σ30 τ) rfl 11 (of_decide_eq_true rfl) (hts _ kw_7_8) (fun _ h9 => h9) rfl dX12_meanFrom_16 ?_
     refine lv_aload_n hx hb dX12_meanFrom_19 rfl (lv_at hl 1 rfl) ?_
     refine va_get (D := D) hx hb hts inlX12 hown hK hP 55 (jc_55 cI cL ad σ30 τ) rfl 25 (of_decide_eq_true rfl) (hts _ kw_23_6) (fun _ h9 => h9) rfl dX12_meanFrom_20 ?_
     have m41 : σ30 55 25 = (σ 55 25) := (f33 25 (of_decide_eq_true rfl))
     refine jtopr m41 ?_
     exact by
      refine jald hx hb hK hP (jc_62 cI cL ad σ30 τ) (jin rfl (by omega) (by omega)) dX12_meanFrom_23 ?_
      have w42 : ∀ k : Nat, k < 8 → 0 ≤ (σ30 62 k).toInt ∧ (σ30 62 k).toInt ≤ 3 := (jrr_fr (f32 62 (of_decide_eq_true rfl)) w7)
      have g43 := w42 _ (jnat (x := (σ 55 25)) rfl (n := 8) (by omega) (of_decide_eq_true rfl))
      refine lv_topi (fun x44 ex44 => ?_)
      rw [← ex44] at g43
      refine lv_istore_n (lv' := [(3, .int x44), (2, .int r31), (0, .ref (ad 55)), (1, .int a1)]) hx hb dX12_meanFrom_24 rfl hl (of_decide_eq_true rfl) rfl (fun ls hl => ?_)
      refine lv_aload_n hx hb dX12_meanFrom_25 rfl (lv_at hl 2 rfl) ?_
      refine lv_iload_n hx hb dX12_meanFrom_26 rfl (lv_at hl 1 rfl) ?_
      refine lv_iload_n hx hb dX12_meanFrom_27 rfl (lv_at hl 0 rfl) ?_
      exact by
       have I45 : jI101 σ30 := jI101_fr (f33 4 (of_decide_eq_true rfl)) (f33 5 (of_decide_eq_true rfl)) (f32 56 (of_decide_eq_true rfl)) (f32 57 (of_decide_eq_true rfl)) (f32 58 (of_decide_eq_true rfl)) (f32 59 (of_decide_eq_true rfl)) hI101
       have I46 : jI102 σ30 := jI102_fr (f33 6 (of_decide_eq_true rfl)) (f32 60 (of_decide_eq_true rfl)) (f32 61 (of_decide_eq_true rfl)) hI102
       have I47 : jI103 σ30 := jI103_fr (f33 9 (of_decide_eq_true rfl)) hI103
       have I48 : jI105 σ30 := jI105_fr (f33 15 (of_decide_eq_true rfl)) (f32 65 (of_decide_eq_true rfl)) hI105
       have w49 : ∀ k : Nat, k < 4 → 0 ≤ (σ30 68 k).toInt ∧ (σ30 68 k).toInt ≤ 3 := (jrr_fr (f32 68 (of_decide_eq_true rfl)) w14)
       refine jcallV (As := [.int r31, .int x44]) (rest := []) ⟨hx, hb, hml, hown, hts⟩ hK hP hA hS hZ (c_X12_outBy l D cI cL ad zz hJ σ30 τ r31 (r31.toInt) rfl x44 (x44.toInt) rfl I45 I46 I47 I48 w49 p35 (by omega) (by omega)) cw_RX12_259 (jc_55 cI cL ad σ30 τ) rfl ⟨by dsimp only; omega, by dsimp only; omega⟩ rfl rfl rfl hl.1 rfl (Nat.le_of_ble_eq_true rfl) dX12_meanFrom_28 ⟨Nat.zero_le _, Nat.zero_le _⟩ (fun r51 σ50 τ50 H locs h50 hP hS => ?_)
       obtain ⟨rfl, f52, f53, p54, w55, h50⟩ := h50
       have h57 := h50
       obtain ⟨q59, k58⟩ := h57
       exact by
        refine lv_istore (lv' := [(4, .int r51), (3, .int x44), (2, .int r31), (0, .ref (ad 55)), (1, .int a1)]) hx hb dX12_meanFrom_31 hl (of_decide_eq_true rfl) rfl (fun ls hl => ?_)
        refine lv_sipush (v := 1000) hx hb dX12_meanFrom_33 (of_decide_eq_true rfl) ?_
        refine lv_aload_n hx hb dX12_meanFrom_36 rfl (lv_at hl 3 rfl) ?_
        refine lv_iload_n hx hb dX12_meanFrom_37 rfl (lv_at hl 2 rfl) ?_
        refine lv_iload_n hx hb dX12_meanFrom_38 rfl (lv_at hl 1 rfl) ?_
        have I60 : jI101 σ50 := jI101_fr (f53 4 (of_decide_eq_true rfl)) (f53 5 (of_decide_eq_true rfl)) (f52 56 (of_decide_eq_true rfl)) (f52 57 (of_decide_eq_true rfl)) (f52 58 (of_decide_eq_true rfl)) (f52 59 (of_decide_eq_true rfl)) I45
        have I61 : jI102 σ50 := jI102_fr (f53 6 (of_decide_eq_true rfl)) (f52 60 (of_decide_eq_true rfl)) (f52 61 (of_decide_eq_true rfl)) I46
        have I62 : jI103 σ50 := jI103_fr (f53 9 (of_decide_eq_true rfl)) I47
        have w63 : ∀ k : Nat, k < 4 → 0 ≤ (σ50 68 k).toInt ∧ (σ50 68 k).toInt ≤ 3 := (jrr_fr (f52 68 (of_decide_eq_true rfl)) w49)
        exact by
         refine jcallV (As := [.int r31, .int x44]) (rest := [.int 1000]) ⟨hx, hb, hml, hown, hts⟩ hK hP hA hS hZ (c_X12_runsBy l D cI cL ad zz hJ σ50 τ r31 (r31.toInt) rfl x44 (x44.toInt) rfl I60 I61 I62 w63 (by omega) (by omega)) cw_RX12_262 (jc_55 cI cL ad σ50 τ) rfl ⟨by dsimp only; omega, by dsimp only; omega⟩ rfl rfl rfl hl.1 rfl (Nat.le_of_ble_eq_true rfl) dX12_meanFrom_39 ⟨Nat.zero_le _, Nat.zero_le _⟩ (fun r65 σ64 τ64 H locs h64 hP hS => ?_)
         obtain ⟨⟨rfl, rfl⟩, w66, h64⟩ := h64
         have h67 := h64
         obtain ⟨q69, k68⟩ := h67
         have g70 := jrg (rfl : r65.toInt = r65.toInt)
         refine lv_imul hx hb dX12_meanFrom_42 ?_
         refine lv_topi (fun x71 ex71 => ?_)
         have tx71 : x71.toInt = 1000 * r65.toInt := (jmul ex71 jz_1000 rfl (by omega) (by omega)).trans (by omega)
         refine lv_istore (lv' := [(5, .int x71), (4, .int r51), (3, .int x44), (2, .int r31), (0, .ref (ad 55)), (1, .int a1)]) hx hb dX12_meanFrom_43 hl (of_decide_eq_true rfl) rfl (fun ls hl => ?_)
         exact by
          refine lv_aload_n hx hb dX12_meanFrom_45 rfl (lv_at hl 4 rfl) ?_
          refine lv_iload_n hx hb dX12_meanFrom_46 rfl (lv_at hl 3 rfl) ?_
          refine lv_iconst (v := 1) hx hb dX12_meanFrom_47 (of_decide_eq_true rfl) ?_
          have z72 : (σ50 55 6).toInt = (σ 55 6).toInt := (congrArg Int32.toInt (show σ50 55 6 = (σ 55 6) from ((f53 6 (of_decide_eq_true rfl)).trans (f33 6 (of_decide_eq_true rfl)))))
          have z73 : (σ50 55 27).toInt = (σ 55 27).toInt := (congrArg Int32.toInt (show σ50 55 27 = (σ 55 27) from ((f53 27 (of_decide_eq_true rfl)).trans (f33 27 (of_decide_eq_true rfl)))))
          have z74 : (σ50 55 25).toInt = (σ 55 25).toInt := (congrArg Int32.toInt (show σ50 55 25 = (σ 55 25) from ((f53 25 (of_decide_eq_true rfl)).trans m41)))
          have z75 : (σ50 55 26).toInt = (σ 55 26).toInt := (congrArg Int32.toInt (show σ50 55 26 = (σ 55 26) from ((f53 26 (of_decide_eq_true rfl)).trans (f33 26 (of_decide_eq_true rfl)))))
          have z76 : (σ50 68 0).toInt = (σ 68 0).toInt := (congrArg Int32.toInt (show σ50 68 0 = (σ 68 0) from ((congrFun (f52 68 (of_decide_eq_true rfl)) 0).trans (congrFun (f32 68 (of_decide_eq_true rfl)) 0))))
          have z77 : (σ50 68 1).toInt = (σ 68 1).toInt := (congrArg Int32.toInt (show σ50 68 1 = (σ 68 1) from ((congrFun (f52 68 (of_decide_eq_true rfl)) 1).trans (congrFun (f32 68 (of_decide_eq_true rfl)) 1))))
          have z78 : (σ50 68 2).toInt = (σ 68 2).toInt := (congrArg Int32.toInt (show σ50 68 2 = (σ 68 2) from ((congrFun (f52 68 (of_decide_eq_true rfl)) 2).trans (congrFun (f32 68 (of_decide_eq_true rfl)) 2))))
          have z79 : (σ50 68 3).toInt = (σ 68 3).toInt := (congrArg Int32.toInt (show σ50 68 3 = (σ 68 3) from ((congrFun (f52 68 (of_decide_eq_true rfl)) 3).trans (congrFun (f32 68 (of_decide_eq_true rfl)) 3))))
          exact by
           refine jcallV (As := [.int r31, .int 1]) (rest := []) ⟨hx, hb, hml, hown, hts⟩ hK hP hA hS hZ (c_X12_goes_1 l D cI cL ad zz hJ σ50 τ r31 (r31.toInt) rfl w63 (by omega) (by omega) (by omega) (by omega) (by omega)) cw_RX12_296 (jc_55 cI cL ad σ50 τ) rfl ⟨by dsimp only; omega, by dsimp only; omega⟩ rfl rfl rfl hl.1 rfl (Nat.le_of_ble_eq_true rfl) dX12_meanFrom_48 ⟨Nat.zero_le _, Nat.zero_le _⟩ (fun r81 σ80 τ80 H locs h80 hP hS => ?_)
           obtain ⟨rfl, f82, f83, w84, w85, w86, w87, h80⟩ := h80
           obtain ⟨k89, k90, k91, h80⟩ := h80
           have h92 := h80
           obtain ⟨q98, k93, k94, k95, k96, k97⟩ := h92
           refine lv_istore (lv' := [(6, .int r81), (5, .int x71), (4, .int r51), (3, .int x44), (2, .int r31), (0, .ref (ad 55)), (1, .int a1)]) hx hb dX12_meanFrom_51 hl (of_decide_eq_true rfl) rfl (fun ls hl => ?_)
           refine lv_aload_n hx hb dX12_meanFrom_53 rfl (lv_at hl 5 rfl) ?_
           refine lv_iload_n hx hb dX12_meanFrom_54 rfl (lv_at hl 6 rfl) ?_
           have I99 : jI101 σ80 := jI101_fr (f83 4 (of_decide_eq_true rfl)) (f83 5 (of_decide_eq_true rfl)) (f82 56 (of_decide_eq_true rfl)) (f82 57 (of_decide_eq_true rfl)) (f82 58 (of_decide_eq_true rfl)) (f82 59 (of_decide_eq_true rfl)) I60
           have I100 : jI102 σ80 := jI102_fr (f83 6 (of_decide_eq_true rfl)) (f82 60 (of_decide_eq_true rfl)) (f82 61 (of_decide_eq_true rfl)) I61
           have I101 : jI103 σ80 := jI103_fr (f83 9 (of_decide_eq_true rfl)) I62
           have I102 : jI104 σ80 := jI104_fr ((f83 10 (of_decide_eq_true rfl)).trans ((f53 10 (of_decide_eq_true rfl)).trans (f33 10 (of_decide_eq_true rfl)))) ((f83 12 (of_decide_eq_true rfl)).trans ((f53 12 (of_decide_eq_true rfl)).trans (f33 12 (of_decide_eq_true rfl)))) ((f83 13 (of_decide_eq_true rfl)).trans ((f53 13 (of_decide_eq_true rfl)).trans (f33 13 (of_decide_eq_true rfl)))) ((f82 62 (of_decide_eq_true rfl)).trans ((f52 62 (of_decide_eq_true rfl)).trans (f32 62 (of_decide_eq_true rfl)))) ((f82 67 (of_decide_eq_true rfl)).trans ((f52 67 (of_decide_eq_true rfl)).trans (f32 67 (of_decide_eq_true rfl)))) hI104
           have I103 : jI105 σ80 := jI105_fr ((f83 15 (of_decide_eq_true rfl)).trans (f53 15 (of_decide_eq_true rfl))) ((f82 65 (of_decide_eq_true rfl)).trans (f52 65 (of_decide_eq_true rfl))) I48
           have I104 : jI106 σ80 := jI106_fr ((f83 32 (of_decide_eq_true rfl)).trans ((f53 32 (of_decide_eq_true rfl)).trans (f33 32 (of_decide_eq_true rfl)))) ((f82 70 (of_decide_eq_true rfl)).trans ((f52 70 (of_decide_eq_true rfl)).trans (f32 70 (of_decide_eq_true rfl)))) ((f82 71 (of_decide_eq_true rfl)).trans ((f52 71 (of_decide_eq_true rfl)).trans (f32 71 (of_decide_eq_true rfl)))) ((f82 72 (of_decide_eq_true rfl)).trans ((f52 72 (of_decide_eq_true rfl)).trans (f32 72 (of_decide_eq_true rfl)))) hI106
           have z105 : (σ80 55 10).toInt = (σ 55 10).toInt := (congrArg Int32.toInt (show σ80 55 10 = (σ 55 10) from ((f83 10 (of_decide_eq_true rfl)).trans ((f53 10 (of_decide_eq_true rfl)).trans (f33 10 (of_decide_eq_true rfl))))))
           have z106 : (σ80 55 12).toInt = (σ 55 12).toInt := (congrArg Int32.toInt (show σ80 55 12 = (σ 55 12) from ((f83 12 (of_decide_eq_true rfl)).trans ((f53 12 (of_decide_eq_true rfl)).trans (f33 12 (of_decide_eq_true rfl))))))
           exact by
            have I107 : jI120 σ80 := ⟨(by omega), (by omega), (by omega), (by omega), (by omega), w84⟩
            have p108 : jKept σ80 := jKept.fr ((f82 75 (of_decide_eq_true rfl)).trans (f52 75 (of_decide_eq_true rfl))) ((f82 76 (of_decide_eq_true rfl)).trans (f52 76 (of_decide_eq_true rfl))) ((f82 77 (of_decide_eq_true rfl)).trans (f52 77 (of_decide_eq_true rfl))) p34
            have p109 : jTR σ80 := jTR.fr (f82 64 (of_decide_eq_true rfl)) (f82 65 (of_decide_eq_true rfl)) p54
            have p110 : jqSt σ80 := jqSt.fr ((f82 78 (of_decide_eq_true rfl)).trans (f52 78 (of_decide_eq_true rfl))) ((f83 42 (of_decide_eq_true rfl)).trans (f53 42 (of_decide_eq_true rfl))) p36
            refine jcallV (As := [.int a1]) (rest := []) ⟨hx, hb, hml, hown, hts⟩ hK hP hA hS hZ (h_mf σ80 τ a1 (A1) t1 I99 I100 I101 I102 I103 I104 I107 p108 p109 p110 (by omega) (by omega) (by omega)) cw_RX12_324 (jc_55 cI cL ad σ80 τ) rfl ⟨by dsimp only; omega, by dsimp only; omega⟩ rfl rfl rfl hl.1 rfl (Nat.le_of_ble_eq_true rfl) dX12_meanFrom_55 ⟨Nat.zero_le _, Nat.zero_le _⟩ (fun r112 σ111 τ111 H locs h111 hP hS => ?_)
            obtain ⟨rfl, f113, f114, p115, p116, p117, h111⟩ := h111
            refine lv_istore (lv' := [(7, .int r112), (6, .int r81), (5, .int x71), (4, .int r51), (3, .int x44), (2, .int r31), (0, .ref (ad 55)), (1, .int a1)]) hx hb dX12_meanFrom_58 hl (of_decide_eq_true rfl) rfl (fun ls hl => ?_)
            refine lv_aload_n hx hb dX12_meanFrom_60 rfl (lv_at hl 6 rfl) ?_
            refine lv_iload_n hx hb dX12_meanFrom_61 rfl (lv_at hl 5 rfl) ?_
            exact by
             refine lv_iconst (v := 1) hx hb dX12_meanFrom_62 (of_decide_eq_true rfl) ?_
             refine lv_iload hx hb dX12_meanFrom_63 (lv_at hl 1 rfl) ?_
             have w119 : ∀ k : Nat, k < 4 → 0 ≤ (σ111 68 k).toInt ∧ (σ111 68 k).toInt ≤ 3 := (jrr_fr (f113 68 (of_decide_eq_true rfl)) w84)
             have z120 : (σ111 55 25).toInt = (σ80 55 25).toInt := (congrArg Int32.toInt (show σ111 55 25 = (σ80 55 25) from (f114 25 (of_decide_eq_true rfl))))
             have z121 : (σ111 55 26).toInt = (σ80 55 26).toInt := (congrArg Int32.toInt (show σ111 55 26 = (σ80 55 26) from (f114 26 (of_decide_eq_true rfl))))
             have z122 : (σ111 55 6).toInt = (σ 55 6).toInt := (congrArg Int32.toInt (show σ111 55 6 = (σ 55 6) from ((f114 6 (of_decide_eq_true rfl)).trans ((f83 6 (of_decide_eq_true rfl)).trans ((f53 6 (of_decide_eq_true rfl)).trans (f33 6 (of_decide_eq_true rfl)))))))
             have w123 : ∀ k : Nat, k < 4 → 0 ≤ (σ50 68 k).toInt ∧ (σ50 68 k).toInt ≤ 3 := w63
             have z125 : (σ50 55 27).toInt = (σ 55 27).toInt := (congrArg Int32.toInt (show σ50 55 27 = (σ 55 27) from ((f53 27 (of_decide_eq_true rfl)).trans (f33 27 (of_decide_eq_true rfl)))))
             have k124 := jwas (by omega) (w123 0 (of_decide_eq_true rfl)) (w123 1 (of_decide_eq_true rfl)) (w123 2 (of_decide_eq_true rfl)) (w123 3 (of_decide_eq_true rfl)) k93
             rw [← (show σ111 55 6 = σ50 55 6 from ((f114 6 (of_decide_eq_true rfl)).trans (f83 6 (of_decide_eq_true rfl))))] at k124
             exact by
              refine jcallVv (As := [.int r31, .int 1, .int r81]) (rest := []) ⟨hx, hb, hml, hown, hts⟩ hK hP hA hS hZ (c_X12_goesBack_1 l D cI cL ad zz hJ σ111 τ r31 (r31.toInt) rfl r81 (r81.toInt) rfl w119 (by omega) (by omega) (by omega) k124) cw_RX12_300 (jc_55 cI cL ad σ111 τ) rfl ⟨by dsimp only; omega, by dsimp only; omega⟩ rfl rfl rfl hl.1 rfl (Nat.le_of_ble_eq_true rfl) dX12_meanFrom_65 ⟨Nat.zero_le _, Nat.zero_le _⟩ (fun σ126 τ126 H locs h126 hP hS => ?_)
              obtain ⟨rfl, f128, f129, w130, w131, w132, h126⟩ := h126
              obtain ⟨k134, k135, k136, k137, h126⟩ := h126
              have p138 : jKept σ126 := jKept.fr (f128 75 (of_decide_eq_true rfl)) (f128 76 (of_decide_eq_true rfl)) (f128 77 (of_decide_eq_true rfl)) p115
              have p139 : jTR σ126 := jTR.fr (f128 64 (of_decide_eq_true rfl)) (f128 65 (of_decide_eq_true rfl)) p116
              have p140 : jqSt σ126 := jqSt.fr (f128 78 (of_decide_eq_true rfl)) (f129 42 (of_decide_eq_true rfl)) p117
              have e141 : σ111 69 = σ80 69 := (f113 69 (of_decide_eq_true rfl))
              have e142 : σ126 69 = σ50 69 := jback69 w85 e141 w131
              have e143 : σ111 68 = σ80 68 := (f113 68 (of_decide_eq_true rfl))
              have e144 : σ111 55 6 = σ50 55 6 := ((f114 6 (of_decide_eq_true rfl)).trans (f83 6 (of_decide_eq_true rfl)))
              have w152 : ∀ k : Nat, k < 4 → 0 ≤ (σ50 68 k).toInt ∧ (σ50 68 k).toInt ≤ 3 := w63
              have w153 : ∀ k : Nat, k < 4 → 0 ≤ (σ126 68 k).toInt ∧ (σ126 68 k).toInt ≤ 3 := w130
              have k154 := k137
              rw [e144] at k154
              have D145 := jdig (w152 0 (of_decide_eq_true rfl)) (w152 1 (of_decide_eq_true rfl)) (w152 2 (of_decide_eq_true rfl)) (w152 3 (of_decide_eq_true rfl)) (w153 0 (of_decide_eq_true rfl)) (w153 1 (of_decide_eq_true rfl)) (w153 2 (of_decide_eq_true rfl)) (w153 3 (of_decide_eq_true rfl)) k93 k154
              exact by
               have e146 : σ126 55 27 = σ50 55 27 := Int32.toInt_inj.mp (by have h9 := D145.1; omega)
               have z155 : (σ111 55 26).toInt = (σ80 55 26).toInt := (congrArg Int32.toInt (show σ111 55 26 = (σ80 55 26) from (f114 26 (of_decide_eq_true rfl))))
               have z156 : (σ50 55 26).toInt = (σ 55 26).toInt := (congrArg Int32.toInt (show σ50 55 26 = (σ 55 26) from ((f53 26 (of_decide_eq_true rfl)).trans (f33 26 (of_decide_eq_true rfl)))))
               have z157 : (σ111 55 25).toInt = (σ80 55 25).toInt := (congrArg Int32.toInt (show σ111 55 25 = (σ80 55 25) from (f114 25 (of_decide_eq_true rfl))))
               have z158 : (σ50 55 25).toInt = (σ 55 25).toInt := (congrArg Int32.toInt (show σ50 55 25 = (σ 55 25) from ((f53 25 (of_decide_eq_true rfl)).trans (f33 25 (of_decide_eq_true rfl)))))
               have e147 : σ126 55 26 = σ50 55 26 := Int32.toInt_inj.mp (by omega)
               have e148 : σ126 55 25 = σ50 55 25 := Int32.toInt_inj.mp (by omega)
               have z159 : (σ50 55 6).toInt = (σ 55 6).toInt := (congrArg Int32.toInt (show σ50 55 6 = (σ 55 6) from ((f53 6 (of_decide_eq_true rfl)).trans (f33 6 (of_decide_eq_true rfl)))))
               have e149 : σ126 68 = σ50 68 := jback68 (nb := (σ50 55 6).toInt) (by omega) w86 e143 (fun k hk => w132 k (by rw [e144]; exact hk)) D145.2
               exact by
                have f150 : (∀ i : Nat, (i < 55 ∨ 55 < i) ∧ (i < 66 ∨ 66 < i) ∧ (i < 74 ∨ 78 < i) → σ126 i = σ50 i) := fun i hi0 => by
                  by_cases h8 : i = 68
                  · rw [h8]; exact e149
                  by_cases h9 : i = 69
                  · rw [h9]; exact e142
                  have hi : ((i < 55 ∨ 55 < i) ∧ (i < 66 ∨ 66 < i) ∧ (i < 74 ∨ 78 < i)) ∧ i ≠ 68 ∧ i ≠ 69 := ⟨hi0, h8, h9⟩
                  exact ((f128 i (imp_200 i hi)).trans ((f113 i (imp_201 i hi)).trans (f82 i (imp_200 i hi))))
                have f151 : ∀ i : Nat, (i < 18 ∨ 18 < i) ∧ (i < 19 ∨ 19 < i) ∧ (i < 20 ∨ 20 < i) ∧ (i < 21 ∨ 21 < i) ∧ (i < 22 ∨ 22 < i) ∧ (i < 37 ∨ 37 < i) → σ126 55 i = σ50 55 i := fun i hi0 => by
                  by_cases h25 : i = 25
                  · rw [h25]; exact e148
                  by_cases h26 : i = 26
                  · rw [h26]; exact e147
                  by_cases h27 : i = 27
                  · rw [h27]; exact e146
                  have hi : ((i < 18 ∨ 18 < i) ∧ (i < 19 ∨ 19 < i) ∧ (i < 20 ∨ 20 < i) ∧ (i < 21 ∨ 21 < i) ∧ (i < 22 ∨ 22 < i) ∧ (i < 37 ∨ 37 < i)) ∧ i ≠ 25 ∧ i ≠ 26 ∧ i ≠ 27 := ⟨hi0, h25, h26, h27⟩
                  exact ((f129 i (imp_202 i hi)).trans ((f114 i (imp_203 i hi)).trans (f83 i (imp_202 i hi))))
                clear k154 k137 k93
                refine lv_aload_n hx hb dX12_meanFrom_68 rfl (lv_at hl 6 rfl) ?_
                refine lv_iload_n hx hb dX12_meanFrom_69 rfl (lv_at hl 5 rfl) ?_
                refine lv_iconst (v := 0) hx hb dX12_meanFrom_70 (of_decide_eq_true rfl) ?_
                have w160 : ∀ k : Nat, k < 4 → 0 ≤ (σ126 68 k).toInt ∧ (σ126 68 k).toInt ≤ 3 := (jrr_fr (f150 68 (of_decide_eq_true rfl)) w63)
                have z161 : (σ126 55 6).toInt = (σ 55 6).toInt := (congrArg Int32.toInt (show σ126 55 6 = (σ 55 6) from ((f151 6 (of_decide_eq_true rfl)).trans ((f53 6 (of_decide_eq_true rfl)).trans (f33 6 (of_decide_eq_true rfl))))))
                have z162 : (σ126 55 27).toInt = (σ 55 27).toInt := (congrArg Int32.toInt (show σ126 55 27 = (σ 55 27) from ((f151 27 (of_decide_eq_true rfl)).trans ((f53 27 (of_decide_eq_true rfl)).trans (f33 27 (of_decide_eq_true rfl))))))
                have z163 : (σ126 55 25).toInt = (σ 55 25).toInt := (congrArg Int32.toInt (show σ126 55 25 = (σ 55 25) from ((f151 25 (of_decide_eq_true rfl)).trans ((f53 25 (of_decide_eq_true rfl)).trans m41))))
                have z164 : (σ126 55 26).toInt = (σ 55 26).toInt := (congrArg Int32.toInt (show σ126 55 26 = (σ 55 26) from ((f151 26 (of_decide_eq_true rfl)).trans ((f53 26 (of_decide_eq_true rfl)).trans (f33 26 (of_decide_eq_true rfl))))))
                have z165 : (σ126 68 0).toInt = (σ 68 0).toInt := (congrArg Int32.toInt (show σ126 68 0 = (σ 68 0) from ((congrFun (f150 68 (of_decide_eq_true rfl)) 0).trans ((congrFun (f52 68 (of_decide_eq_true rfl)) 0).trans (congrFun (f32 68 (of_decide_eq_true rfl)) 0)))))
                have z166 : (σ126 68 1).toInt = (σ 68 1).toInt := (congrArg Int32.toInt (show σ126 68 1 = (σ 68 1) from ((congrFun (f150 68 (of_decide_eq_true rfl)) 1).trans ((congrFun (f52 68 (of_decide_eq_true rfl)) 1).trans (congrFun (f32 68 (of_decide_eq_true rfl)) 1)))))
                have z167 : (σ126 68 2).toInt = (σ 68 2).toInt := (congrArg Int32.toInt (show σ126 68 2 = (σ 68 2) from ((congrFun (f150 68 (of_decide_eq_true rfl)) 2).trans ((congrFun (f52 68 (of_decide_eq_true rfl)) 2).trans (congrFun (f32 68 (of_decide_eq_true rfl)) 2)))))
                have z168 : (σ126 68 3).toInt = (σ 68 3).toInt := (congrArg Int32.toInt (show σ126 68 3 = (σ 68 3) from ((congrFun (f150 68 (of_decide_eq_true rfl)) 3).trans ((congrFun (f52 68 (of_decide_eq_true rfl)) 3).trans (congrFun (f32 68 (of_decide_eq_true rfl)) 3)))))
                exact by
                 refine jcallV (As := [.int r31, .int 0]) (rest := []) ⟨hx, hb, hml, hown, hts⟩ hK hP hA hS hZ (c_X12_goes_0 l D cI cL ad zz hJ σ126 τ r31 (r31.toInt) rfl w160 (by omega) (by omega) (by omega) (by omega) (by omega)) cw_RX12_296 (jc_55 cI cL ad σ126 τ) rfl ⟨by dsimp only; omega, by dsimp only; omega⟩ rfl rfl rfl hl.1 rfl (Nat.le_of_ble_eq_true rfl) dX12_meanFrom_71 ⟨Nat.zero_le _, Nat.zero_le _⟩ (fun r170 σ169 τ169 H locs h169 hP hS => ?_)
                 obtain ⟨rfl, f171, f172, w173, w174, w175, w176, h169⟩ := h169
                 obtain ⟨k178, k179, k180, h169⟩ := h169
                 have h181 := h169
                 obtain ⟨q187, k182, k183, k184, k185, k186⟩ := h181
                 refine lv_istore (lv' := [(6, .int r170), (7, .int r112), (5, .int x71), (4, .int r51), (3, .int x44), (2, .int r31), (0, .ref (ad 55)), (1, .int a1)]) hx hb dX12_meanFrom_74 hl (of_decide_eq_true rfl) rfl (fun ls hl => ?_)
                 refine lv_aload_n hx hb dX12_meanFrom_76 rfl (lv_at hl 6 rfl) ?_
                 refine lv_iload_n hx hb dX12_meanFrom_77 rfl (lv_at hl 7 rfl) ?_
                 have I188 : jI101 σ169 := jI101_fr ((f172 4 (of_decide_eq_true rfl)).trans (f151 4 (of_decide_eq_true rfl))) ((f172 5 (of_decide_eq_true rfl)).trans (f151 5 (of_decide_eq_true rfl))) ((f171 56 (of_decide_eq_true rfl)).trans (f150 56 (of_decide_eq_true rfl))) ((f171 57 (of_decide_eq_true rfl)).trans (f150 57 (of_decide_eq_true rfl))) ((f171 58 (of_decide_eq_true rfl)).trans (f150 58 (of_decide_eq_true rfl))) ((f171 59 (of_decide_eq_true rfl)).trans (f150 59 (of_decide_eq_true rfl))) I60
                 have I189 : jI102 σ169 := jI102_fr ((f172 6 (of_decide_eq_true rfl)).trans (f151 6 (of_decide_eq_true rfl))) ((f171 60 (of_decide_eq_true rfl)).trans (f150 60 (of_decide_eq_true rfl))) ((f171 61 (of_decide_eq_true rfl)).trans (f150 61 (of_decide_eq_true rfl))) I61
                 have I190 : jI103 σ169 := jI103_fr ((f172 9 (of_decide_eq_true rfl)).trans (f151 9 (of_decide_eq_true rfl))) I62
                 have I191 : jI104 σ169 := jI104_fr ((f172 10 (of_decide_eq_true rfl)).trans ((f151 10 (of_decide_eq_true rfl)).trans ((f53 10 (of_decide_eq_true rfl)).trans (f33 10 (of_decide_eq_true rfl))))) ((f172 12 (of_decide_eq_true rfl)).trans ((f151 12 (of_decide_eq_true rfl)).trans ((f53 12 (of_decide_eq_true rfl)).trans (f33 12 (of_decide_eq_true rfl))))) ((f172 13 (of_decide_eq_true rfl)).trans ((f151 13 (of_decide_eq_true rfl)).trans ((f53 13 (of_decide_eq_true rfl)).trans (f33 13 (of_decide_eq_true rfl))))) ((f171 62 (of_decide_eq_true rfl)).trans ((f150 62 (of_decide_eq_true rfl)).trans ((f52 62 (of_decide_eq_true rfl)).trans (f32 62 (of_decide_eq_true rfl))))) ((f171 67 (of_decide_eq_true rfl)).trans ((f150 67 (of_decide_eq_true rfl)).trans ((f52 67 (of_decide_eq_true rfl)).trans (f32 67 (of_decide_eq_true rfl))))) hI104
                 have I192 : jI105 σ169 := jI105_fr ((f172 15 (of_decide_eq_true rfl)).trans ((f151 15 (of_decide_eq_true rfl)).trans (f53 15 (of_decide_eq_true rfl)))) ((f171 65 (of_decide_eq_true rfl)).trans ((f150 65 (of_decide_eq_true rfl)).trans (f52 65 (of_decide_eq_true rfl)))) I48
                 have I193 : jI106 σ169 := jI106_fr ((f172 32 (of_decide_eq_true rfl)).trans ((f151 32 (of_decide_eq_true rfl)).trans ((f53 32 (of_decide_eq_true rfl)).trans (f33 32 (of_decide_eq_true rfl))))) ((f171 70 (of_decide_eq_true rfl)).trans ((f150 70 (of_decide_eq_true rfl)).trans ((f52 70 (of_decide_eq_true rfl)).trans (f32 70 (of_decide_eq_true rfl))))) ((f171 71 (of_decide_eq_true rfl)).trans ((f150 71 (of_decide_eq_true rfl)).trans ((f52 71 (of_decide_eq_true rfl)).trans (f32 71 (of_decide_eq_true rfl))))) ((f171 72 (of_decide_eq_true rfl)).trans ((f150 72 (of_decide_eq_true rfl)).trans ((f52 72 (of_decide_eq_true rfl)).trans (f32 72 (of_decide_eq_true rfl))))) hI106
                 have z194 : (σ169 55 10).toInt = (σ 55 10).toInt := (congrArg Int32.toInt (show σ169 55 10 = (σ 55 10) from ((f172 10 (of_decide_eq_true rfl)).trans ((f151 10 (of_decide_eq_true rfl)).trans ((f53 10 (of_decide_eq_true rfl)).trans (f33 10 (of_decide_eq_true rfl)))))))
                 have z195 : (σ169 55 12).toInt = (σ 55 12).toInt := (congrArg Int32.toInt (show σ169 55 12 = (σ 55 12) from ((f172 12 (of_decide_eq_true rfl)).trans ((f151 12 (of_decide_eq_true rfl)).trans ((f53 12 (of_decide_eq_true rfl)).trans (f33 12 (of_decide_eq_true rfl)))))))
                 exact by
                  have I196 : jI120 σ169 := ⟨(by omega), (by omega), (by omega), (by omega), (by omega), w173⟩
                  have p197 : jKept σ169 := jKept.fr (f171 75 (of_decide_eq_true rfl)) (f171 76 (of_decide_eq_true rfl)) (f171 77 (of_decide_eq_true rfl)) p138
                  have p198 : jTR σ169 := jTR.fr (f171 64 (of_decide_eq_true rfl)) (f171 65 (of_decide_eq_true rfl)) p139
                  have p199 : jqSt σ169 := jqSt.fr (f171 78 (of_decide_eq_true rfl)) (f172 42 (of_decide_eq_true rfl)) p140
                  refine jcallV (As := [.int a1]) (rest := []) ⟨hx, hb, hml, hown, hts⟩ hK hP hA hS hZ (h_mf σ169 τ a1 (A1) t1 I188 I189 I190 I191 I192 I193 I196 p197 p198 p199 (by omega) (by omega) (by omega)) cw_RX12_324 (jc_55 cI cL ad σ169 τ) rfl ⟨by dsimp only; omega, by dsimp only; omega⟩ rfl rfl rfl hl.1 rfl (Nat.le_of_ble_eq_true rfl) dX12_meanFrom_78 ⟨Nat.zero_le _, Nat.zero_le _⟩ (fun r201 σ200 τ200 H locs h200 hP hS => ?_)
                  obtain ⟨rfl, f202, f203, p204, p205, p206, h200⟩ := h200
                  refine lv_istore (lv' := [(8, .int r201), (6, .int r170), (7, .int r112), (5, .int x71), (4, .int r51), (3, .int x44), (2, .int r31), (0, .ref (ad 55)), (1, .int a1)]) hx hb dX12_meanFrom_81 hl (of_decide_eq_true rfl) rfl (fun ls hl => ?_)
                  refine lv_aload_n hx hb dX12_meanFrom_83 rfl (lv_at hl 7 rfl) ?_
                  refine lv_iload_n hx hb dX12_meanFrom_84 rfl (lv_at hl 6 rfl) ?_
                  exact by
                   refine lv_iconst (v := 0) hx hb dX12_meanFrom_85 (of_decide_eq_true rfl) ?_
                   refine lv_iload hx hb dX12_meanFrom_86 (lv_at hl 1 rfl) ?_
                   have w208 : ∀ k : Nat, k < 4 → 0 ≤ (σ200 68 k).toInt ∧ (σ200 68 k).toInt ≤ 3 := (jrr_fr (f202 68 (of_decide_eq_true rfl)) w173)
                   have z209 : (σ200 55 25).toInt = (σ169 55 25).toInt := (congrArg Int32.toInt (show σ200 55 25 = (σ169 55 25) from (f203 25 (of_decide_eq_true rfl))))
                   have z210 : (σ200 55 26).toInt = (σ169 55 26).toInt := (congrArg Int32.toInt (show σ200 55 26 = (σ169 55 26) from (f203 26 (of_decide_eq_true rfl))))
                   have z211 : (σ200 55 6).toInt = (σ 55 6).toInt := (congrArg Int32.toInt (show σ200 55 6 = (σ 55 6) from ((f203 6 (of_decide_eq_true rfl)).trans ((f172 6 (of_decide_eq_true rfl)).trans ((f151 6 (of_decide_eq_true rfl)).trans ((f53 6 (of_decide_eq_true rfl)).trans (f33 6 (of_decide_eq_true rfl))))))))
                   have w212 : ∀ k : Nat, k < 4 → 0 ≤ (σ126 68 k).toInt ∧ (σ126 68 k).toInt ≤ 3 := w160
                   have z214 : (σ126 55 27).toInt = (σ 55 27).toInt := (congrArg Int32.toInt (show σ126 55 27 = (σ 55 27) from ((f151 27 (of_decide_eq_true rfl)).trans ((f53 27 (of_decide_eq_true rfl)).trans (f33 27 (of_decide_eq_true rfl))))))
                   have k213 := jwas (by omega) (w212 0 (of_decide_eq_true rfl)) (w212 1 (of_decide_eq_true rfl)) (w212 2 (of_decide_eq_true rfl)) (w212 3 (of_decide_eq_true rfl)) k182
                   rw [← (show σ200 55 6 = σ126 55 6 from ((f203 6 (of_decide_eq_true rfl)).trans (f172 6 (of_decide_eq_true rfl))))] at k213
                   exact by
                    refine jcallVv (As := [.int r31, .int 0, .int r170]) (rest := []) ⟨hx, hb, hml, hown, hts⟩ hK hP hA hS hZ (c_X12_goesBack_0 l D cI cL ad zz hJ σ200 τ r31 (r31.toInt) rfl r170 (r170.toInt) rfl w208 (by omega) (by omega) (by omega) k213) cw_RX12_300 (jc_55 cI cL ad σ200 τ) rfl ⟨by dsimp only; omega, by dsimp only; omega⟩ rfl rfl rfl hl.1 rfl (Nat.le_of_ble_eq_true rfl) dX12_meanFrom_88 ⟨Nat.zero_le _, Nat.zero_le _⟩ (fun σ215 τ215 H locs h215 hP hS => ?_)
                    obtain ⟨rfl, f217, f218, w219, w220, w221, h215⟩ := h215
                    obtain ⟨k223, k224, k225, k226, h215⟩ := h215
                    have p227 : jKept σ215 := jKept.fr (f217 75 (of_decide_eq_true rfl)) (f217 76 (of_decide_eq_true rfl)) (f217 77 (of_decide_eq_true rfl)) p204
                    have p228 : jTR σ215 := jTR.fr (f217 64 (of_decide_eq_true rfl)) (f217 65 (of_decide_eq_true rfl)) p205
                    have p229 : jqSt σ215 := jqSt.fr (f217 78 (of_decide_eq_true rfl)) (f218 42 (of_decide_eq_true rfl)) p206
                    have e230 : σ200 69 = σ169 69 := (f202 69 (of_decide_eq_true rfl))
                    have e231 : σ215 69 = σ126 69 := jback69 w174 e230 w220
                    have e232 : σ200 68 = σ169 68 := (f202 68 (of_decide_eq_true rfl))
                    have e233 : σ200 55 6 = σ126 55 6 := ((f203 6 (of_decide_eq_true rfl)).trans (f172 6 (of_decide_eq_true rfl)))
                    have w241 : ∀ k : Nat, k < 4 → 0 ≤ (σ126 68 k).toInt ∧ (σ126 68 k).toInt ≤ 3 := w160
                    have w242 : ∀ k : Nat, k < 4 → 0 ≤ (σ215 68 k).toInt ∧ (σ215 68 k).toInt ≤ 3 := w219
                    have k243 := k226
                    rw [e233] at k243
                    have D234 := jdig (w241 0 (of_decide_eq_true rfl)) (w241 1 (of_decide_eq_true rfl)) (w241 2 (of_decide_eq_true rfl)) (w241 3 (of_decide_eq_true rfl)) (w242 0 (of_decide_eq_true rfl)) (w242 1 (of_decide_eq_true rfl)) (w242 2 (of_decide_eq_true rfl)) (w242 3 (of_decide_eq_true rfl)) k182 k243
                    exact by
                     have e235 : σ215 55 27 = σ126 55 27 := Int32.toInt_inj.mp (by have h9 := D234.1; omega)
                     have z244 : (σ200 55 26).toInt = (σ169 55 26).toInt := (congrArg Int32.toInt (show σ200 55 26 = (σ169 55 26) from (f203 26 (of_decide_eq_true rfl))))
                     have z245 : (σ126 55 26).toInt = (σ 55 26).toInt := (congrArg Int32.toInt (show σ126 55 26 = (σ 55 26) from ((f151 26 (of_decide_eq_true rfl)).trans ((f53 26 (of_decide_eq_true rfl)).trans (f33 26 (of_decide_eq_true rfl))))))
                     have z246 : (σ200 55 25).toInt = (σ169 55 25).toInt := (congrArg Int32.toInt (show σ200 55 25 = (σ169 55 25) from (f203 25 (of_decide_eq_true rfl))))
                     have z247 : (σ126 55 25).toInt = (σ 55 25).toInt := (congrArg Int32.toInt (show σ126 55 25 = (σ 55 25) from ((f151 25 (of_decide_eq_true rfl)).trans ((f53 25 (of_decide_eq_true rfl)).trans (f33 25 (of_decide_eq_true rfl))))))
                     have e236 : σ215 55 26 = σ126 55 26 := Int32.toInt_inj.mp (by omega)
                     have e237 : σ215 55 25 = σ126 55 25 := Int32.toInt_inj.mp (by omega)
                     have z248 : (σ126 55 6).toInt = (σ 55 6).toInt := (congrArg Int32.toInt (show σ126 55 6 = (σ 55 6) from ((f151 6 (of_decide_eq_true rfl)).trans ((f53 6 (of_decide_eq_true rfl)).trans (f33 6 (of_decide_eq_true rfl))))))
                     have e238 : σ215 68 = σ126 68 := jback68 (nb := (σ126 55 6).toInt) (by omega) w175 e232 (fun k hk => w221 k (by rw [e233]; exact hk)) D234.2
                     exact by
                      have f239 : (∀ i : Nat, (i < 55 ∨ 55 < i) ∧ (i < 66 ∨ 66 < i) ∧ (i < 74 ∨ 78 < i) → σ215 i = σ126 i) := fun i hi0 => by
                        by_cases h8 : i = 68
                        · rw [h8]; exact e238
                        by_cases h9 : i = 69
                        · rw [h9]; exact e231
                        have hi : ((i < 55 ∨ 55 < i) ∧ (i < 66 ∨ 66 < i) ∧ (i < 74 ∨ 78 < i)) ∧ i ≠ 68 ∧ i ≠ 69 := ⟨hi0, h8, h9⟩
                        exact ((f217 i (imp_200 i hi)).trans ((f202 i (imp_201 i hi)).trans (f171 i (imp_200 i hi))))
                      have f240 : ∀ i : Nat, (i < 18 ∨ 18 < i) ∧ (i < 19 ∨ 19 < i) ∧ (i < 20 ∨ 20 < i) ∧ (i < 21 ∨ 21 < i) ∧ (i < 22 ∨ 22 < i) ∧ (i < 37 ∨ 37 < i) → σ215 55 i = σ126 55 i := fun i hi0 => by
                        by_cases h25 : i = 25
                        · rw [h25]; exact e237
                        by_cases h26 : i = 26
                        · rw [h26]; exact e236
                        by_cases h27 : i = 27
                        · rw [h27]; exact e235
                        have hi : ((i < 18 ∨ 18 < i) ∧ (i < 19 ∨ 19 < i) ∧ (i < 20 ∨ 20 < i) ∧ (i < 21 ∨ 21 < i) ∧ (i < 22 ∨ 22 < i) ∧ (i < 37 ∨ 37 < i)) ∧ i ≠ 25 ∧ i ≠ 26 ∧ i ≠ 27 := ⟨hi0, h25, h26, h27⟩
                        exact ((f218 i (imp_202 i hi)).trans ((f203 i (imp_203 i hi)).trans (f172 i (imp_202 i hi))))
                      clear k243 k226 k182
                      refine lv_iload hx hb dX12_meanFrom_91 (lv_at hl 3 rfl) ?_
                      refine lv_sipush (v := 1000) hx hb dX12_meanFrom_93 (of_decide_eq_true rfl) ?_
                      refine lv_aload_n hx hb dX12_meanFrom_96 rfl (lv_at hl 7 rfl) ?_
                      refine va_get (D := D) hx hb hts inlX12 hown hK hP 55 (jc_55 cI cL ad σ215 τ) rfl 13 (of_decide_eq_true rfl) (hts _ kw_15_14) (fun _ h9 => h9) rfl dX12_meanFrom_97 ?_
                      have m249 : σ215 55 13 = (σ 55 13) := ((f240 13 (of_decide_eq_true rfl)).trans ((f151 13 (of_decide_eq_true rfl)).trans ((f53 13 (of_decide_eq_true rfl)).trans (f33 13 (of_decide_eq_true rfl)))))
                      refine jtopr m249 ?_
                      have g250 := jrg (rfl : (σ 55 13).toInt = (σ 55 13).toInt)
                      refine lv_isub hx hb dX12_meanFrom_100 ?_
                      refine lv_topi (fun x251 ex251 => ?_)
                      exact by
                       have tx251 : x251.toInt = -(σ 55 13).toInt + 1000 := (jsub ex251 jz_1000 rfl (by omega) (by omega)).trans (by omega)
                       refine lv_i2l (v := x251.toInt64) hx hb dX12_meanFrom_101 rfl ?_
                       refine lv_iload hx hb dX12_meanFrom_102 (lv_at hl 2 rfl) ?_
                       refine lv_iload hx hb dX12_meanFrom_104 (lv_at hl 0 rfl) ?_
                       refine lv_iload hx hb dX12_meanFrom_106 (lv_at hl 4 rfl) ?_
                       refine jcallS (As := [.int r112, .int r201, .int r51]) (rest := [.long x251.toInt64, .int x71]) ⟨hx, hb, hml, hown, hts⟩ hK hP hA hS hZ (c_X12_mixed l D cI cL ad zz hJ σ215 τ r112 (r112.toInt) rfl r201 (r201.toInt) rfl r51 (r51.toInt) rfl) cw_RX12_304 ⟨by dsimp only; omega, by dsimp only; omega⟩ rfl rfl rfl hl.1 rfl (Nat.le_of_ble_eq_true rfl) dX12_meanFrom_108 ⟨Nat.zero_le _, Nat.zero_le _⟩ (fun r253 σ252 τ252 H locs h252 hP hS => ?_)
                       obtain ⟨⟨rfl, rfl⟩, h252⟩ := h252
                       refine lv_i2l (v := r253.toInt64) hx hb dX12_meanFrom_111 rfl ?_
                       refine lv_lmul hx hb dX12_meanFrom_112 ?_
                       refine lv_topl (fun lx254 elx254 => ?_)
                       refine lv_ldc2 (v := 1000) hx hb hown (hts _ kw_34_19) dX12_meanFrom_113 ?_
                       refine lv_ldiv hx hb dX12_meanFrom_116 (of_decide_eq_true rfl) ?_
                       refine lv_topl (fun lx255 elx255 => ?_)
                       refine lv_l2i hx hb dX12_meanFrom_117 rfl ?_
                       refine lv_topi (fun x256 ex256 => ?_)
                       have gx256 := jrg (rfl : x256.toInt = x256.toInt)
                       have g257 := jrg (rfl : x256.toInt = x256.toInt)
                       refine lv_iadd hx hb dX12_meanFrom_118 ?_
                       refine lv_topi (fun x258 ex258 => ?_)
                       have gx258 := jrg (rfl : x258.toInt = x258.toInt)
                       exact hret x258 σ215 τ _ _ _ _ rfl ⟨rfl, (fun i hi => ((f239 i hi).trans ((f150 i hi).trans ((f52 i (imp_204 i hi)).trans (f32 i hi))))), (fun i hi => ((f240 i hi).trans ((f151 i hi).trans ((f53 i (imp_205 i hi)).trans (f33 i hi))))), p227, p228, p229, trivial⟩ hP hS dX12_meanFrom_119
set_option maxHeartbeats 4000000 in
set_option maxRecDepth 100000 in
theorem c_X12_means_mf_z (l : Launch) (D : va_G) (cI cL : ClassId) (ad zz : Nat → Nat) (hJ : jD ad) (σ : Nat → Nat → Int32) (τ : Nat → Nat → Int64) (a1 : Int32) (A1 : Int) (t1 : a1.toInt = A1) (hI101 : jI101 σ) (hI102 : jI102 σ) (hI103 : jI103 σ) (hI104 : jI104 σ) (hI105 : jI105 σ) (hI106 : jI106 σ) (hI120 : jI120 σ) (hs_jKept : jKept σ) (hs_jTR : jTR σ) (hs_jqSt : jqSt σ) (hp0 : 0 ≤ A1 ∧ A1 ≤ 19) (hp1 : (σ 55 12).toInt - (σ 55 26).toInt ≤ 8) (hp2 : (σ 55 12).toInt - (σ 55 26).toInt ≤ (((0) : Nat) : Int)) : jM l yX12_meanFrom cX12_meanFrom 9 (some .int) ({ frames := (106 + 4 * (0)), cells := 0, slots := 0, locals := (5261 + 240 * (0)) }) D cI cL ad zz [.ref (ad 55), .int a1] σ τ (fun r σ' τ' => τ = τ' ∧ (∀ i : Nat, (i < 55 ∨ 55 < i) ∧ (i < 66 ∨ 66 < i) ∧ (i < 74 ∨ 78 < i) → σ' i = σ i) ∧ (∀ k : Nat, (k < 18 ∨ 18 < k) ∧ (k < 19 ∨ 19 < k) ∧ (k < 20 ∨ 20 < k) ∧ (k < 21 ∨ 21 < k) ∧ (k < 22 ∨ 22 < k) ∧ (k < 37 ∨ 37 < k) → σ' 55 k = σ 55 k) ∧ (jKept σ') ∧ (jTR σ') ∧ (jqSt σ') ∧ True) := by
  refine jM.of hJ (by decide +kernel) (nt := .int) rfl (Nat.le_of_ble_eq_true rfl) ?_
  intro p e s m args below meth c Q ls hC hret hl hP
  obtain ⟨hx, hb, hr, hml, hown, hts, hK, -, hlocks, hZ⟩ := hC
  have hown : s.vm.findClass RX12 = some m.cls := hown
  have hS : va_S (jA ad) s.heap s.heap [] := va_S.rf
  have hA : ∀ q, jA ad q → jA ad q := fun _ h => h
  have hl : lv_has ls 9 [(0, .ref (ad 55)), (1, .int a1)] := hl
  have g1 := jrg t1
  obtain ⟨i1, w2, w3⟩ : (0 ≤ (σ 55 6).toInt ∧ (σ 55 6).toInt ≤ 4) ∧ (∀ k : Nat, k < 4 → 0 ≤ (σ 60 k).toInt ∧ (σ 60 k).toInt ≤ 50) ∧ (∀ k : Nat, k < 4 → 0 ≤ (σ 61 k).toInt ∧ (σ 61 k).toInt ≤ 20) := id hI102
  obtain ⟨i4, i5, i6, w7, w8⟩ : (1 ≤ (σ 55 10).toInt ∧ (σ 55 10).toInt ≤ 8) ∧ (1 ≤ (σ 55 12).toInt ∧ (σ 55 12).toInt ≤ 12) ∧ (0 ≤ (σ 55 13).toInt ∧ (σ 55 13).toInt ≤ 999) ∧ (∀ k : Nat, k < 8 → 0 ≤ (σ 62 k).toInt ∧ (σ 62 k).toInt ≤ 3) ∧ (∀ k : Nat, k < 8 → 0 ≤ (σ 67 k).toInt ∧ (σ 67 k).toInt ≤ 3) := id hI104
  obtain ⟨i9, i10, i11, i12, i13, w14⟩ : (0 ≤ (σ 55 25).toInt) ∧ ((σ 55 25).toInt ≤ (σ 55 10).toInt) ∧ (0 ≤ (σ 55 26).toInt) ∧ ((σ 55 26).toInt ≤ (σ 55 12).toInt) ∧ ((-1) ≤ (σ 55 27).toInt ∧ (σ 55 27).toInt ≤ 3) ∧ (∀ k : Nat, k < 4 → 0 ≤ (σ 68 k).toInt ∧ (σ 68 k).toInt ≤ 3) := id hI120
  refine lv_aload_n hx hb dX12_meanFrom_0 rfl (lv_at hl 0 rfl) ?_
  refine jcallV (As := []) (rest := []) ⟨hx, hb, hml, hown, hts⟩ hK hP hA hS hZ (c_X12_isEnded l D cI cL ad zz hJ σ τ hI102 hI104 hI120) cw_RX12_307 (jc_55 cI cL ad σ τ) rfl ⟨by dsimp only; omega, by dsimp only; omega⟩ rfl rfl rfl hl.1 rfl (Nat.le_of_ble_eq_true rfl) dX12_meanFrom_1 ⟨Nat.zero_le _, Nat.zero_le _⟩ (fun r16 σ15 τ15 H locs h15 hP hS => ?_)
  obtain ⟨⟨rfl, rfl⟩, h15⟩ := h15
  rcases h15 with h17 | h18
  · obtain ⟨q20, k19⟩ := h17
    have q20 := q20.symm
    subst q20
    refine lv_if_eq (tgt := 9) hx hb dX12_meanFrom_4 (of_decide_eq_true rfl) (fun c => absurd c (of_decide_eq_true rfl)) (fun _ => ?_)
    refine lv_iconst (v := 0) hx hb dX12_meanFrom_7 (of_decide_eq_true rfl) ?_
    exact hret 0 σ τ _ _ _ _ rfl ⟨rfl, (fun _ _ => rfl), (fun _ _ => rfl), hs_jKept, hs_jTR, hs_jqSt, trivial⟩ hP hS dX12_meanFrom_8
  · obtain ⟨q24, k21, k22, k23⟩ := h18
    exact absurd (by omega : False) id
set_option maxHeartbeats 4000000 in
set_option maxRecDepth 100000 in
theorem c_X12_means (l : Launch) (D : va_G) (cI cL : ClassId) (ad zz : Nat → Nat) (hJ : jD ad) (n : Nat) : (∀ (σ : Nat → Nat → Int32) (τ : Nat → Nat → Int64) (a1 : Int32) (A1 : Int) (t1 : a1.toInt = A1) (hI101 : jI101 σ) (hI102 : jI102 σ) (hI103 : jI103 σ) (hI104 : jI104 σ) (hI105 : jI105 σ) (hI106 : jI106 σ) (hI120 : jI120 σ) (hs_jKept : jKept σ) (hs_jTR : jTR σ) (hs_jqSt : jqSt σ) (hp0 : 0 ≤ A1 ∧ A1 ≤ 19) (hp1 : (σ 55 12).toInt - (σ 55 26).toInt ≤ 8) (hp2 : (σ 55 12).toInt - (σ 55 26).toInt ≤ (((n) : Nat) : Int)), jM l yX12_meanFrom cX12_meanFrom 9 (some .int) ({ frames := (106 + 4 * (n)), cells := 0, slots := 0, locals := (5261 + 240 * (n)) }) D cI cL ad zz [.ref (ad 55), .int a1] σ τ (fun r σ' τ' => τ = τ' ∧ (∀ i : Nat, (i < 55 ∨ 55 < i) ∧ (i < 66 ∨ 66 < i) ∧ (i < 74 ∨ 78 < i) → σ' i = σ i) ∧ (∀ k : Nat, (k < 18 ∨ 18 < k) ∧ (k < 19 ∨ 19 < k) ∧ (k < 20 ∨ 20 < k) ∧ (k < 21 ∨ 21 < k) ∧ (k < 22 ∨ 22 < k) ∧ (k < 37 ∨ 37 < k) → σ' 55 k = σ 55 k) ∧ (jKept σ') ∧ (jTR σ') ∧ (jqSt σ') ∧ True)) := by
  induction n with
  | zero =>
    have h_mf := c_X12_means_mf_z l D cI cL ad zz hJ
    exact h_mf
  | succ n ih =>
    have g_mf := ih
    have h_mf := c_X12_means_mf_g l D cI cL ad zz hJ n g_mf
    exact h_mf
set_option maxHeartbeats 4000000 in
set_option maxRecDepth 100000 in
theorem c_X12_likelies_lf_g (l : Launch) (D : va_G) (cI cL : ClassId) (ad zz : Nat → Nat) (hJ : jD ad) (n : Nat) (h_lf : ∀ (σ : Nat → Nat → Int32) (τ : Nat → Nat → Int64) (a1 : Int32) (A1 : Int) (t1 : a1.toInt = A1) (a2 : Int32) (A2 : Int) (t2 : a2.toInt = A2) (hI101 : jI101 σ) (hI102 : jI102 σ) (hI103 : jI103 σ) (hI104 : jI104 σ) (hI105 : jI105 σ) (hI106 : jI106 σ) (hI120 : jI120 σ) (hs_jKept : jKept σ) (hs_jTR : jTR σ) (hs_jqSt : jqSt σ) (hp0 : 0 ≤ A1 ∧ A1 ≤ 19) (hp1 : (σ 55 12).toInt - (σ 55 26).toInt ≤ 8) (hp2 : (σ 55 12).toInt - (σ 55 26).toInt ≤ (((n) : Nat) : Int)), jM l yX12_likelyFrom cX12_likelyFrom 10 (some .int) ({ frames := (106 + 4 * (n)), cells := 0, slots := 0, locals := (5261 + 240 * (n)) }) D cI cL ad zz [.ref (ad 55), .int a1, .int a2] σ τ (fun r σ' τ' => τ = τ' ∧ (∀ i : Nat, (i < 55 ∨ 55 < i) ∧ (i < 66 ∨ 66 < i) ∧ (i < 74 ∨ 78 < i) → σ' i = σ i) ∧ (∀ k : Nat, (k < 18 ∨ 18 < k) ∧ (k < 19 ∨ 19 < k) ∧ (k < 20 ∨ 20 < k) ∧ (k < 21 ∨ 21 < k) ∧ (k < 22 ∨ 22 < k) ∧ (k < 37 ∨ 37 < k) → σ' 55 k = σ 55 k) ∧ (jKept σ') ∧ (jTR σ') ∧ (jqSt σ') ∧ True)) (σ : Nat → Nat → Int32) (τ : Nat → Nat → Int64) (a1 : Int32) (A1 : Int) (t1 : a1.toInt = A1) (a2 : Int32) (A2 : Int) (t2 : a2.toInt = A2) (hI101 : jI101 σ) (hI102 : jI102 σ) (hI103 : jI103 σ) (hI104 : jI104 σ) (hI105 : jI105 σ) (hI106 : jI106 σ) (hI120 : jI120 σ) (hs_jKept : jKept σ) (hs_jTR : jTR σ) (hs_jqSt : jqSt σ) (hp0 : 0 ≤ A1 ∧ A1 ≤ 19) (hp1 : (σ 55 12).toInt - (σ 55 26).toInt ≤ 8) (hp2 : (σ 55 12).toInt - (σ 55 26).toInt ≤ (((n + 1) : Nat) : Int)) : jM l yX12_likelyFrom cX12_likelyFrom 10 (some .int) ({ frames := (106 + 4 * (n + 1)), cells := 0, slots := 0, locals := (5261 + 240 * (n + 1)) }) D cI cL ad zz [.ref (ad 55), .int a1, .int a2] σ τ (fun r σ' τ' => τ = τ' ∧ (∀ i : Nat, (i < 55 ∨ 55 < i) ∧ (i < 66 ∨ 66 < i) ∧ (i < 74 ∨ 78 < i) → σ' i = σ i) ∧ (∀ k : Nat, (k < 18 ∨ 18 < k) ∧ (k < 19 ∨ 19 < k) ∧ (k < 20 ∨ 20 < k) ∧ (k < 21 ∨ 21 < k) ∧ (k < 22 ∨ 22 < k) ∧ (k < 37 ∨ 37 < k) → σ' 55 k = σ 55 k) ∧ (jKept σ') ∧ (jTR σ') ∧ (jqSt σ') ∧ True) := by
  refine jM.of hJ (by decide +kernel) (nt := .int) rfl (Nat.le_of_ble_eq_true rfl) ?_
  intro p e s m args below meth c Q ls hC hret hl hP
  obtain ⟨hx, hb, hr, hml, hown, hts, hK, -, hlocks, hZ⟩ := hC
  have hown : s.vm.findClass RX12 = some m.cls := hown
  have hS : va_S (jA ad) s.heap s.heap [] := va_S.rf
  have hA : ∀ q, jA ad q → jA ad q := fun _ h => h
  have hl : lv_has ls 10 [(0, .ref (ad 55)), (1, .int a1), (2, .int a2)] := hl
  have g1 := jrg t1
  have g2 := jrg t2
  obtain ⟨i1, w2, w3⟩ : (0 ≤ (σ 55 6).toInt ∧ (σ 55 6).toInt ≤ 4) ∧ (∀ k : Nat, k < 4 → 0 ≤ (σ 60 k).toInt ∧ (σ 60 k).toInt ≤ 50) ∧ (∀ k : Nat, k < 4 → 0 ≤ (σ 61 k).toInt ∧ (σ 61 k).toInt ≤ 20) := id hI102
  obtain ⟨i4, i5, i6, w7, w8⟩ : (1 ≤ (σ 55 10).toInt ∧ (σ 55 10).toInt ≤ 8) ∧ (1 ≤ (σ 55 12).toInt ∧ (σ 55 12).toInt ≤ 12) ∧ (0 ≤ (σ 55 13).toInt ∧ (σ 55 13).toInt ≤ 999) ∧ (∀ k : Nat, k < 8 → 0 ≤ (σ 62 k).toInt ∧ (σ 62 k).toInt ≤ 3) ∧ (∀ k : Nat, k < 8 → 0 ≤ (σ 67 k).toInt ∧ (σ 67 k).toInt ≤ 3) := id hI104
  obtain ⟨i9, i10, i11, i12, i13, w14⟩ : (0 ≤ (σ 55 25).toInt) ∧ ((σ 55 25).toInt ≤ (σ 55 10).toInt) ∧ (0 ≤ (σ 55 26).toInt) ∧ ((σ 55 26).toInt ≤ (σ 55 12).toInt) ∧ ((-1) ≤ (σ 55 27).toInt ∧ (σ 55 27).toInt ≤ 3) ∧ (∀ k : Nat, k < 4 → 0 ≤ (σ 68 k).toInt ∧ (σ 68 k).toInt ≤ 3) := id hI120
  refine lv_aload_n hx hb dX12_likelyFrom_0 rfl (lv_at hl 0 rfl) ?_
  refine jcallV (As := []) (rest := []) ⟨hx, hb, hml, hown, hts⟩ hK hP hA hS hZ (c_X12_isEnded l D cI cL ad zz hJ σ τ hI102 hI104 hI120) cw_RX12_307 (jc_55 cI cL ad σ τ) rfl ⟨by dsimp only; omega, by dsimp only; omega⟩ rfl rfl rfl hl.1 rfl (Nat.le_of_ble_eq_true rfl) dX12_likelyFrom_1 ⟨Nat.zero_le _, Nat.zero_le _⟩ (fun r16 σ15 τ15 H locs h15 hP hS => ?_)
  obtain ⟨⟨rfl, rfl⟩, h15⟩ := h15
  rcases h15 with h17 | h18
  · obtain ⟨q20, k19⟩ := h17
    have q20 := q20.symm
    subst q20
    refine lv_if_eq (tgt := 19) hx hb dX12_likelyFrom_4 (of_decide_eq_true rfl) (fun c => absurd c (of_decide_eq_true rfl)) (fun _ => ?_)
    refine lv_iload_n hx hb dX12_likelyFrom_7 rfl (lv_at hl 2 rfl) ?_
    refine lv_if_le (tgt := 17) hx hb dX12_likelyFrom_8 (of_decide_eq_true rfl) (fun c21 => ?_) (fun c21 => ?_)
    · have kc21 := jle c21 t2 jz_0
      refine lv_iconst (v := 0) hx hb dX12_likelyFrom_17 (of_decide_eq_true rfl) ?_
      exact hret 0 σ τ _ _ _ _ rfl ⟨rfl, (fun _ _ => rfl), (fun _ _ => rfl), hs_jKept, hs_jTR, hs_jqSt, trivial⟩ hP hS dX12_likelyFrom_18
    · have kc21 := jnle c21 t2 jz_0
      refine lv_ldcw (v := 1000000) hx hb hown (hts _ kw_37_13) dX12_likelyFrom_11 ?_
      refine lv_goto (tgt := 18) hx hb dX12_likelyFrom_14 (of_decide_eq_true rfl) ?_
      exact hret 1000000 σ τ _ _ _ _ rfl ⟨rfl, (fun _ _ => rfl), (fun _ _ => rfl), hs_jKept, hs_jTR, hs_jqSt, trivial⟩ hP hS dX12_likelyFrom_18
  · obtain ⟨q25, k22, k23, k24⟩ := h18
    have q25 := q25.symm
    subst q25
    obtain ⟨B26, k27, k28, w29⟩ := k24
    refine lv_if_eq (tgt := 19) hx hb dX12_likelyFrom_4 (of_decide_eq_true rfl) (fun _ => ?_) (fun c => absurd (of_decide_eq_true rfl) c)
    refine lv_aload_n hx hb dX12_likelyFrom_19 rfl (lv_at hl 0 rfl) ?_
    refine lv_iload_n hx hb dX12_likelyFrom_20 rfl (lv_at hl 1 rfl) ?_
    have p30 : jmb σ B26 = 1 := (jmb_fr rfl rfl rfl rfl rfl B26).trans w29
    exact by
     refine jcallV (As := [.int a1]) (rest := []) ⟨hx, hb, hml, hown, hts⟩ hK hP hA hS hZ (c_X12_putsOn l D cI cL ad zz hJ σ τ B26 p30 a1 (A1) t1 hI101 hI102 hI103 hI104 hI105 hI106 hI120 hs_jKept hs_jTR hs_jqSt (by omega) (by omega) (by omega) (by omega) (by omega)) cw_RX12_321 (jc_55 cI cL ad σ τ) rfl ⟨by dsimp only; omega, by dsimp only; omega⟩ rfl rfl rfl hl.1 rfl (Nat.le_of_ble_eq_true rfl) dX12_likelyFrom_21 ⟨Nat.zero_le _, Nat.zero_le _⟩ (fun r32 σ31 τ31 H locs h31 hP hS => ?_)
     obtain ⟨rfl, f33, f34, p35, p36, p37, h31⟩ := h31
     have h39 := h31
     obtain ⟨q41, k40⟩ := h39
     refine lv_istore_n (lv' := [(3, .int r32), (0, .ref (ad 55)), (1, .int a1), (2, .int a2)]) hx hb dX12_likelyFrom_24 rfl hl (of_decide_eq_true rfl) rfl (fun ls hl => ?_)
     refine lv_aload_n hx hb dX12_likelyFrom_25 rfl (lv_at hl 1 rfl) ?_
     refine va_get (D := D) hx hb hts inlX12 hown hK hP 55 (jc_55 cI cL ad σ31 τ) rfl 11 (of_decide_eq_true rfl) (hts _ kw_7_8) (fun _ h9 => h9) rfl dX12_likelyFrom_26 ?_
     refine lv_aload_n hx hb dX12_likelyFrom_29 rfl (lv_at hl 1 rfl) ?_
     refine va_get (D := D) hx hb hts inlX12 hown hK hP 55 (jc_55 cI cL ad σ31 τ) rfl 25 (of_decide_eq_true rfl) (hts _ kw_23_6) (fun _ h9 => h9) rfl dX12_likelyFrom_30 ?_
     have m42 : σ31 55 25 = (σ 55 25) := (f34 25 (of_decide_eq_true rfl))
     refine jtopr m42 ?_
     exact by
      refine jald hx hb hK hP (jc_62 cI cL ad σ31 τ) (jin rfl (by omega) (by omega)) dX12_likelyFrom_33 ?_
      have w43 : ∀ k : Nat, k < 8 → 0 ≤ (σ31 62 k).toInt ∧ (σ31 62 k).toInt ≤ 3 := (jrr_fr (f33 62 (of_decide_eq_true rfl)) w7)
      have g44 := w43 _ (jnat (x := (σ 55 25)) rfl (n := 8) (by omega) (of_decide_eq_true rfl))
      refine lv_topi (fun x45 ex45 => ?_)
      rw [← ex45] at g44
      refine lv_istore (lv' := [(4, .int x45), (3, .int r32), (0, .ref (ad 55)), (1, .int a1), (2, .int a2)]) hx hb dX12_likelyFrom_34 hl (of_decide_eq_true rfl) rfl (fun ls hl => ?_)
      refine lv_aload_n hx hb dX12_likelyFrom_36 rfl (lv_at hl 2 rfl) ?_
      refine lv_iload_n hx hb dX12_likelyFrom_37 rfl (lv_at hl 1 rfl) ?_
      refine lv_iload hx hb dX12_likelyFrom_38 (lv_at hl 0 rfl) ?_
      exact by
       have I46 : jI101 σ31 := jI101_fr (f34 4 (of_decide_eq_true rfl)) (f34 5 (of_decide_eq_true rfl)) (f33 56 (of_decide_eq_true rfl)) (f33 57 (of_decide_eq_true rfl)) (f33 58 (of_decide_eq_true rfl)) (f33 59 (of_decide_eq_true rfl)) hI101
       have I47 : jI102 σ31 := jI102_fr (f34 6 (of_decide_eq_true rfl)) (f33 60 (of_decide_eq_true rfl)) (f33 61 (of_decide_eq_true rfl)) hI102
       have I48 : jI103 σ31 := jI103_fr (f34 9 (of_decide_eq_true rfl)) hI103
       have I49 : jI105 σ31 := jI105_fr (f34 15 (of_decide_eq_true rfl)) (f33 65 (of_decide_eq_true rfl)) hI105
       have w50 : ∀ k : Nat, k < 4 → 0 ≤ (σ31 68 k).toInt ∧ (σ31 68 k).toInt ≤ 3 := (jrr_fr (f33 68 (of_decide_eq_true rfl)) w14)
       refine jcallV (As := [.int r32, .int x45]) (rest := []) ⟨hx, hb, hml, hown, hts⟩ hK hP hA hS hZ (c_X12_outBy l D cI cL ad zz hJ σ31 τ r32 (r32.toInt) rfl x45 (x45.toInt) rfl I46 I47 I48 I49 w50 p36 (by omega) (by omega)) cw_RX12_259 (jc_55 cI cL ad σ31 τ) rfl ⟨by dsimp only; omega, by dsimp only; omega⟩ rfl rfl rfl hl.1 rfl (Nat.le_of_ble_eq_true rfl) dX12_likelyFrom_40 ⟨Nat.zero_le _, Nat.zero_le _⟩ (fun r52 σ51 τ51 H locs h51 hP hS => ?_)
       obtain ⟨rfl, f53, f54, p55, w56, h51⟩ := h51
       have h58 := h51
       obtain ⟨q60, k59⟩ := h58
       exact by
        refine lv_istore (lv' := [(5, .int r52), (4, .int x45), (3, .int r32), (0, .ref (ad 55)), (1, .int a1), (2, .int a2)]) hx hb dX12_likelyFrom_43 hl (of_decide_eq_true rfl) rfl (fun ls hl => ?_)
        refine lv_iload_n hx hb dX12_likelyFrom_45 rfl (lv_at hl 5 rfl) ?_
        refine lv_aload_n hx hb dX12_likelyFrom_46 rfl (lv_at hl 3 rfl) ?_
        refine lv_iload_n hx hb dX12_likelyFrom_47 rfl (lv_at hl 2 rfl) ?_
        refine lv_iload hx hb dX12_likelyFrom_48 (lv_at hl 1 rfl) ?_
        have I61 : jI101 σ51 := jI101_fr (f54 4 (of_decide_eq_true rfl)) (f54 5 (of_decide_eq_true rfl)) (f53 56 (of_decide_eq_true rfl)) (f53 57 (of_decide_eq_true rfl)) (f53 58 (of_decide_eq_true rfl)) (f53 59 (of_decide_eq_true rfl)) I46
        have I62 : jI102 σ51 := jI102_fr (f54 6 (of_decide_eq_true rfl)) (f53 60 (of_decide_eq_true rfl)) (f53 61 (of_decide_eq_true rfl)) I47
        have I63 : jI103 σ51 := jI103_fr (f54 9 (of_decide_eq_true rfl)) I48
        have w64 : ∀ k : Nat, k < 4 → 0 ≤ (σ51 68 k).toInt ∧ (σ51 68 k).toInt ≤ 3 := (jrr_fr (f53 68 (of_decide_eq_true rfl)) w50)
        exact by
         refine jcallV (As := [.int r32, .int x45]) (rest := [.int a2]) ⟨hx, hb, hml, hown, hts⟩ hK hP hA hS hZ (c_X12_runsBy l D cI cL ad zz hJ σ51 τ r32 (r32.toInt) rfl x45 (x45.toInt) rfl I61 I62 I63 w64 (by omega) (by omega)) cw_RX12_262 (jc_55 cI cL ad σ51 τ) rfl ⟨by dsimp only; omega, by dsimp only; omega⟩ rfl rfl rfl hl.1 rfl (Nat.le_of_ble_eq_true rfl) dX12_likelyFrom_50 ⟨Nat.zero_le _, Nat.zero_le _⟩ (fun r66 σ65 τ65 H locs h65 hP hS => ?_)
         obtain ⟨⟨rfl, rfl⟩, w67, h65⟩ := h65
         have h68 := h65
         obtain ⟨q70, k69⟩ := h68
         have g71 := jrg (rfl : r66.toInt = r66.toInt)
         refine lv_isub hx hb dX12_likelyFrom_53 ?_
         refine lv_topi (fun x72 ex72 => ?_)
         have gx72 := jrg (rfl : x72.toInt = x72.toInt)
         refine lv_istore (lv' := [(6, .int x72), (5, .int r52), (4, .int x45), (3, .int r32), (0, .ref (ad 55)), (1, .int a1), (2, .int a2)]) hx hb dX12_likelyFrom_54 hl (of_decide_eq_true rfl) rfl (fun ls hl => ?_)
         refine lv_aload_n hx hb dX12_likelyFrom_56 rfl (lv_at hl 4 rfl) ?_
         refine lv_iload_n hx hb dX12_likelyFrom_57 rfl (lv_at hl 3 rfl) ?_
         refine lv_iconst (v := 1) hx hb dX12_likelyFrom_58 (of_decide_eq_true rfl) ?_
         have z73 : (σ51 55 6).toInt = (σ 55 6).toInt := (congrArg Int32.toInt (show σ51 55 6 = (σ 55 6) from ((f54 6 (of_decide_eq_true rfl)).trans (f34 6 (of_decide_eq_true rfl)))))
         have z74 : (σ51 55 27).toInt = (σ 55 27).toInt := (congrArg Int32.toInt (show σ51 55 27 = (σ 55 27) from ((f54 27 (of_decide_eq_true rfl)).trans (f34 27 (of_decide_eq_true rfl)))))
         have z75 : (σ51 55 25).toInt = (σ 55 25).toInt := (congrArg Int32.toInt (show σ51 55 25 = (σ 55 25) from ((f54 25 (of_decide_eq_true rfl)).trans m42)))
         have z76 : (σ51 55 26).toInt = (σ 55 26).toInt := (congrArg Int32.toInt (show σ51 55 26 = (σ 55 26) from ((f54 26 (of_decide_eq_true rfl)).trans (f34 26 (of_decide_eq_true rfl)))))
         have z77 : (σ51 68 0).toInt = (σ 68 0).toInt := (congrArg Int32.toInt (show σ51 68 0 = (σ 68 0) from ((congrFun (f53 68 (of_decide_eq_true rfl)) 0).trans (congrFun (f33 68 (of_decide_eq_true rfl)) 0))))
         have z78 : (σ51 68 1).toInt = (σ 68 1).toInt := (congrArg Int32.toInt (show σ51 68 1 = (σ 68 1) from ((congrFun (f53 68 (of_decide_eq_true rfl)) 1).trans (congrFun (f33 68 (of_decide_eq_true rfl)) 1))))
         have z79 : (σ51 68 2).toInt = (σ 68 2).toInt := (congrArg Int32.toInt (show σ51 68 2 = (σ 68 2) from ((congrFun (f53 68 (of_decide_eq_true rfl)) 2).trans (congrFun (f33 68 (of_decide_eq_true rfl)) 2))))
         have z80 : (σ51 68 3).toInt = (σ 68 3).toInt := (congrArg Int32.toInt (show σ51 68 3 = (σ 68 3) from ((congrFun (f53 68 (of_decide_eq_true rfl)) 3).trans (congrFun (f33 68 (of_decide_eq_true rfl)) 3))))
         exact by
          refine jcallV (As := [.int r32, .int 1]) (rest := []) ⟨hx, hb, hml, hown, hts⟩ hK hP hA hS hZ (c_X12_goes_1 l D cI cL ad zz hJ σ51 τ r32 (r32.toInt) rfl w64 (by omega) (by omega) (by omega) (by omega) (by omega)) cw_RX12_296 (jc_55 cI cL ad σ51 τ) rfl ⟨by dsimp only; omega, by dsimp only; omega⟩ rfl rfl rfl hl.1 rfl (Nat.le_of_ble_eq_true rfl) dX12_likelyFrom_59 ⟨Nat.zero_le _, Nat.zero_le _⟩ (fun r82 σ81 τ81 H locs h81 hP hS => ?_)
          obtain ⟨rfl, f83, f84, w85, w86, w87, w88, h81⟩ := h81
          obtain ⟨k90, k91, k92, h81⟩ := h81
          have h93 := h81
          obtain ⟨q99, k94, k95, k96, k97, k98⟩ := h93
          refine lv_istore (lv' := [(7, .int r82), (6, .int x72), (5, .int r52), (4, .int x45), (3, .int r32), (0, .ref (ad 55)), (1, .int a1), (2, .int a2)]) hx hb dX12_likelyFrom_62 hl (of_decide_eq_true rfl) rfl (fun ls hl => ?_)
          refine lv_aload_n hx hb dX12_likelyFrom_64 rfl (lv_at hl 5 rfl) ?_
          refine lv_iload_n hx hb dX12_likelyFrom_65 rfl (lv_at hl 6 rfl) ?_
          refine lv_iload hx hb dX12_likelyFrom_66 (lv_at hl 1 rfl) ?_
          have I100 : jI101 σ81 := jI101_fr (f84 4 (of_decide_eq_true rfl)) (f84 5 (of_decide_eq_true rfl)) (f83 56 (of_decide_eq_true rfl)) (f83 57 (of_decide_eq_true rfl)) (f83 58 (of_decide_eq_true rfl)) (f83 59 (of_decide_eq_true rfl)) I61
          have I101 : jI102 σ81 := jI102_fr (f84 6 (of_decide_eq_true rfl)) (f83 60 (of_decide_eq_true rfl)) (f83 61 (of_decide_eq_true rfl)) I62
          have I102 : jI103 σ81 := jI103_fr (f84 9 (of_decide_eq_true rfl)) I63
          have I103 : jI104 σ81 := jI104_fr ((f84 10 (of_decide_eq_true rfl)).trans ((f54 10 (of_decide_eq_true rfl)).trans (f34 10 (of_decide_eq_true rfl)))) ((f84 12 (of_decide_eq_true rfl)).trans ((f54 12 (of_decide_eq_true rfl)).trans (f34 12 (of_decide_eq_true rfl)))) ((f84 13 (of_decide_eq_true rfl)).trans ((f54 13 (of_decide_eq_true rfl)).trans (f34 13 (of_decide_eq_true rfl)))) ((f83 62 (of_decide_eq_true rfl)).trans ((f53 62 (of_decide_eq_true rfl)).trans (f33 62 (of_decide_eq_true rfl)))) ((f83 67 (of_decide_eq_true rfl)).trans ((f53 67 (of_decide_eq_true rfl)).trans (f33 67 (of_decide_eq_true rfl)))) hI104
          have I104 : jI105 σ81 := jI105_fr ((f84 15 (of_decide_eq_true rfl)).trans (f54 15 (of_decide_eq_true rfl))) ((f83 65 (of_decide_eq_true rfl)).trans (f53 65 (of_decide_eq_true rfl))) I49
          have I105 : jI106 σ81 := jI106_fr ((f84 32 (of_decide_eq_true rfl)).trans ((f54 32 (of_decide_eq_true rfl)).trans (f34 32 (of_decide_eq_true rfl)))) ((f83 70 (of_decide_eq_true rfl)).trans ((f53 70 (of_decide_eq_true rfl)).trans (f33 70 (of_decide_eq_true rfl)))) ((f83 71 (of_decide_eq_true rfl)).trans ((f53 71 (of_decide_eq_true rfl)).trans (f33 71 (of_decide_eq_true rfl)))) ((f83 72 (of_decide_eq_true rfl)).trans ((f53 72 (of_decide_eq_true rfl)).trans (f33 72 (of_decide_eq_true rfl)))) hI106
          have z106 : (σ81 55 10).toInt = (σ 55 10).toInt := (congrArg Int32.toInt (show σ81 55 10 = (σ 55 10) from ((f84 10 (of_decide_eq_true rfl)).trans ((f54 10 (of_decide_eq_true rfl)).trans (f34 10 (of_decide_eq_true rfl))))))
          have z107 : (σ81 55 12).toInt = (σ 55 12).toInt := (congrArg Int32.toInt (show σ81 55 12 = (σ 55 12) from ((f84 12 (of_decide_eq_true rfl)).trans ((f54 12 (of_decide_eq_true rfl)).trans (f34 12 (of_decide_eq_true rfl))))))
          exact by
           have I108 : jI120 σ81 := ⟨(by omega), (by omega), (by omega), (by omega), (by omega), w85⟩
           have p109 : jKept σ81 := jKept.fr ((f83 75 (of_decide_eq_true rfl)).trans (f53 75 (of_decide_eq_true rfl))) ((f83 76 (of_decide_eq_true rfl)).trans (f53 76 (of_decide_eq_true rfl))) ((f83 77 (of_decide_eq_true rfl)).trans (f53 77 (of_decide_eq_true rfl))) p35
           have p110 : jTR σ81 := jTR.fr (f83 64 (of_decide_eq_true rfl)) (f83 65 (of_decide_eq_true rfl)) p55
           have p111 : jqSt σ81 := jqSt.fr ((f83 78 (of_decide_eq_true rfl)).trans (f53 78 (of_decide_eq_true rfl))) ((f84 42 (of_decide_eq_true rfl)).trans (f54 42 (of_decide_eq_true rfl))) p37
           refine jcallV (As := [.int a1, .int x72]) (rest := []) ⟨hx, hb, hml, hown, hts⟩ hK hP hA hS hZ (h_lf σ81 τ a1 (A1) t1 x72 (x72.toInt) rfl I100 I101 I102 I103 I104 I105 I108 p109 p110 p111 (by omega) (by omega) (by omega)) cw_RX12_328 (jc_55 cI cL ad σ81 τ) rfl ⟨by dsimp only; omega, by dsimp only; omega⟩ rfl rfl rfl hl.1 rfl (Nat.le_of_ble_eq_true rfl) dX12_likelyFrom_68 ⟨Nat.zero_le _, Nat.zero_le _⟩ (fun r113 σ112 τ112 H locs h112 hP hS => ?_)
           obtain ⟨rfl, f114, f115, p116, p117, p118, h112⟩ := h112
           refine lv_istore (lv' := [(8, .int r113), (7, .int r82), (6, .int x72), (5, .int r52), (4, .int x45), (3, .int r32), (0, .ref (ad 55)), (1, .int a1), (2, .int a2)]) hx hb dX12_likelyFrom_71 hl (of_decide_eq_true rfl) rfl (fun ls hl => ?_)
           refine lv_aload_n hx hb dX12_likelyFrom_73 rfl (lv_at hl 6 rfl) ?_
           refine lv_iload_n hx hb dX12_likelyFrom_74 rfl (lv_at hl 5 rfl) ?_
           exact by
            refine lv_iconst (v := 1) hx hb dX12_likelyFrom_75 (of_decide_eq_true rfl) ?_
            refine lv_iload hx hb dX12_likelyFrom_76 (lv_at hl 1 rfl) ?_
            have w120 : ∀ k : Nat, k < 4 → 0 ≤ (σ112 68 k).toInt ∧ (σ112 68 k).toInt ≤ 3 := (jrr_fr (f114 68 (of_decide_eq_true rfl)) w85)
            have z121 : (σ112 55 25).toInt = (σ81 55 25).toInt := (congrArg Int32.toInt (show σ112 55 25 = (σ81 55 25) from (f115 25 (of_decide_eq_true rfl))))
            have z122 : (σ112 55 26).toInt = (σ81 55 26).toInt := (congrArg Int32.toInt (show σ112 55 26 = (σ81 55 26) from (f115 26 (of_decide_eq_true rfl))))
            have z123 : (σ112 55 6).toInt = (σ 55 6).toInt := (congrArg Int32.toInt (show σ112 55 6 = (σ 55 6) from ((f115 6 (of_decide_eq_true rfl)).trans ((f84 6 (of_decide_eq_true rfl)).trans ((f54 6 (of_decide_eq_true rfl)).trans (f34 6 (of_decide_eq_true rfl)))))))
            have w124 : ∀ k : Nat, k < 4 → 0 ≤ (σ51 68 k).toInt ∧ (σ51 68 k).toInt ≤ 3 := w64
            have z126 : (σ51 55 27).toInt = (σ 55 27).toInt := (congrArg Int32.toInt (show σ51 55 27 = (σ 55 27) from ((f54 27 (of_decide_eq_true rfl)).trans (f34 27 (of_decide_eq_true rfl)))))
            have k125 := jwas (by omega) (w124 0 (of_decide_eq_true rfl)) (w124 1 (of_decide_eq_true rfl)) (w124 2 (of_decide_eq_true rfl)) (w124 3 (of_decide_eq_true rfl)) k94
            rw [← (show σ112 55 6 = σ51 55 6 from ((f115 6 (of_decide_eq_true rfl)).trans (f84 6 (of_decide_eq_true rfl))))] at k125
            exact by
             refine jcallVv (As := [.int r32, .int 1, .int r82]) (rest := []) ⟨hx, hb, hml, hown, hts⟩ hK hP hA hS hZ (c_X12_goesBack_1 l D cI cL ad zz hJ σ112 τ r32 (r32.toInt) rfl r82 (r82.toInt) rfl w120 (by omega) (by omega) (by omega) k125) cw_RX12_300 (jc_55 cI cL ad σ112 τ) rfl ⟨by dsimp only; omega, by dsimp only; omega⟩ rfl rfl rfl hl.1 rfl (Nat.le_of_ble_eq_true rfl) dX12_likelyFrom_78 ⟨Nat.zero_le _, Nat.zero_le _⟩ (fun σ127 τ127 H locs h127 hP hS => ?_)
             obtain ⟨rfl, f129, f130, w131, w132, w133, h127⟩ := h127
             obtain ⟨k135, k136, k137, k138, h127⟩ := h127
             have p139 : jKept σ127 := jKept.fr (f129 75 (of_decide_eq_true rfl)) (f129 76 (of_decide_eq_true rfl)) (f129 77 (of_decide_eq_true rfl)) p116
             have p140 : jTR σ127 := jTR.fr (f129 64 (of_decide_eq_true rfl)) (f129 65 (of_decide_eq_true rfl)) p117
             have p141 : jqSt σ127 := jqSt.fr (f129 78 (of_decide_eq_true rfl)) (f130 42 (of_decide_eq_true rfl)) p118
             have e142 : σ112 69 = σ81 69 := (f114 69 (of_decide_eq_true rfl))
             have e143 : σ127 69 = σ51 69 := jback69 w86 e142 w132
             have e144 : σ112 68 = σ81 68 := (f114 68 (of_decide_eq_true rfl))
             have e145 : σ112 55 6 = σ51 55 6 := ((f115 6 (of_decide_eq_true rfl)).trans (f84 6 (of_decide_eq_true rfl)))
             have w153 : ∀ k : Nat, k < 4 → 0 ≤ (σ51 68 k).toInt ∧ (σ51 68 k).toInt ≤ 3 := w64
             have w154 : ∀ k : Nat, k < 4 → 0 ≤ (σ127 68 k).toInt ∧ (σ127 68 k).toInt ≤ 3 := w131
             have k155 := k138
             rw [e145] at k155
             have D146 := jdig (w153 0 (of_decide_eq_true rfl)) (w153 1 (of_decide_eq_true rfl)) (w153 2 (of_decide_eq_true rfl)) (w153 3 (of_decide_eq_true rfl)) (w154 0 (of_decide_eq_true rfl)) (w154 1 (of_decide_eq_true rfl)) (w154 2 (of_decide_eq_true rfl)) (w154 3 (of_decide_eq_true rfl)) k94 k155
             exact by
              have e147 : σ127 55 27 = σ51 55 27 := Int32.toInt_inj.mp (by have h9 := D146.1; omega)
              have z156 : (σ112 55 26).toInt = (σ81 55 26).toInt := (congrArg Int32.toInt (show σ112 55 26 = (σ81 55 26) from (f115 26 (of_decide_eq_true rfl))))
              have z157 : (σ51 55 26).toInt = (σ 55 26).toInt := (congrArg Int32.toInt (show σ51 55 26 = (σ 55 26) from ((f54 26 (of_decide_eq_true rfl)).trans (f34 26 (of_decide_eq_true rfl)))))
              have z158 : (σ112 55 25).toInt = (σ81 55 25).toInt := (congrArg Int32.toInt (show σ112 55 25 = (σ81 55 25) from (f115 25 (of_decide_eq_true rfl))))
              have z159 : (σ51 55 25).toInt = (σ 55 25).toInt := (congrArg Int32.toInt (show σ51 55 25 = (σ 55 25) from ((f54 25 (of_decide_eq_true rfl)).trans (f34 25 (of_decide_eq_true rfl)))))
              have e148 : σ127 55 26 = σ51 55 26 := Int32.toInt_inj.mp (by omega)
              have e149 : σ127 55 25 = σ51 55 25 := Int32.toInt_inj.mp (by omega)
              have z160 : (σ51 55 6).toInt = (σ 55 6).toInt := (congrArg Int32.toInt (show σ51 55 6 = (σ 55 6) from ((f54 6 (of_decide_eq_true rfl)).trans (f34 6 (of_decide_eq_true rfl)))))
              have e150 : σ127 68 = σ51 68 := jback68 (nb := (σ51 55 6).toInt) (by omega) w87 e144 (fun k hk => w133 k (by rw [e145]; exact hk)) D146.2
              exact by
               have f151 : (∀ i : Nat, (i < 55 ∨ 55 < i) ∧ (i < 66 ∨ 66 < i) ∧ (i < 74 ∨ 78 < i) → σ127 i = σ51 i) := fun i hi0 => by
                 by_cases h8 : i = 68
                 · rw [h8]; exact e150
                 by_cases h9 : i = 69
                 · rw [h9]; exact e143
                 have hi : ((i < 55 ∨ 55 < i) ∧ (i < 66 ∨ 66 < i) ∧ (i < 74 ∨ 78 < i)) ∧ i ≠ 68 ∧ i ≠ 69 := ⟨hi0, h8, h9⟩
                 exact ((f129 i (imp_200 i hi)).trans ((f114 i (imp_201 i hi)).trans (f83 i (imp_200 i hi))))
               have f152 : ∀ i : Nat, (i < 18 ∨ 18 < i) ∧ (i < 19 ∨ 19 < i) ∧ (i < 20 ∨ 20 < i) ∧ (i < 21 ∨ 21 < i) ∧ (i < 22 ∨ 22 < i) ∧ (i < 37 ∨ 37 < i) → σ127 55 i = σ51 55 i := fun i hi0 => by
                 by_cases h25 : i = 25
                 · rw [h25]; exact e149
                 by_cases h26 : i = 26
                 · rw [h26]; exact e148
                 by_cases h27 : i = 27
                 · rw [h27]; exact e147
                 have hi : ((i < 18 ∨ 18 < i) ∧ (i < 19 ∨ 19 < i) ∧ (i < 20 ∨ 20 < i) ∧ (i < 21 ∨ 21 < i) ∧ (i < 22 ∨ 22 < i) ∧ (i < 37 ∨ 37 < i)) ∧ i ≠ 25 ∧ i ≠ 26 ∧ i ≠ 27 := ⟨hi0, h25, h26, h27⟩
                 exact ((f130 i (imp_202 i hi)).trans ((f115 i (imp_203 i hi)).trans (f84 i (imp_202 i hi))))
               clear k155 k138 k94
               refine lv_aload_n hx hb dX12_likelyFrom_81 rfl (lv_at hl 6 rfl) ?_
               refine lv_iload_n hx hb dX12_likelyFrom_82 rfl (lv_at hl 5 rfl) ?_
               refine lv_iconst (v := 0) hx hb dX12_likelyFrom_83 (of_decide_eq_true rfl) ?_
               have w161 : ∀ k : Nat, k < 4 → 0 ≤ (σ127 68 k).toInt ∧ (σ127 68 k).toInt ≤ 3 := (jrr_fr (f151 68 (of_decide_eq_true rfl)) w64)
               have z162 : (σ127 55 6).toInt = (σ 55 6).toInt := (congrArg Int32.toInt (show σ127 55 6 = (σ 55 6) from ((f152 6 (of_decide_eq_true rfl)).trans ((f54 6 (of_decide_eq_true rfl)).trans (f34 6 (of_decide_eq_true rfl))))))
               have z163 : (σ127 55 27).toInt = (σ 55 27).toInt := (congrArg Int32.toInt (show σ127 55 27 = (σ 55 27) from ((f152 27 (of_decide_eq_true rfl)).trans ((f54 27 (of_decide_eq_true rfl)).trans (f34 27 (of_decide_eq_true rfl))))))
               have z164 : (σ127 55 25).toInt = (σ 55 25).toInt := (congrArg Int32.toInt (show σ127 55 25 = (σ 55 25) from ((f152 25 (of_decide_eq_true rfl)).trans ((f54 25 (of_decide_eq_true rfl)).trans m42))))
               have z165 : (σ127 55 26).toInt = (σ 55 26).toInt := (congrArg Int32.toInt (show σ127 55 26 = (σ 55 26) from ((f152 26 (of_decide_eq_true rfl)).trans ((f54 26 (of_decide_eq_true rfl)).trans (f34 26 (of_decide_eq_true rfl))))))
               have z166 : (σ127 68 0).toInt = (σ 68 0).toInt := (congrArg Int32.toInt (show σ127 68 0 = (σ 68 0) from ((congrFun (f151 68 (of_decide_eq_true rfl)) 0).trans ((congrFun (f53 68 (of_decide_eq_true rfl)) 0).trans (congrFun (f33 68 (of_decide_eq_true rfl)) 0)))))
               have z167 : (σ127 68 1).toInt = (σ 68 1).toInt := (congrArg Int32.toInt (show σ127 68 1 = (σ 68 1) from ((congrFun (f151 68 (of_decide_eq_true rfl)) 1).trans ((congrFun (f53 68 (of_decide_eq_true rfl)) 1).trans (congrFun (f33 68 (of_decide_eq_true rfl)) 1)))))
               have z168 : (σ127 68 2).toInt = (σ 68 2).toInt := (congrArg Int32.toInt (show σ127 68 2 = (σ 68 2) from ((congrFun (f151 68 (of_decide_eq_true rfl)) 2).trans ((congrFun (f53 68 (of_decide_eq_true rfl)) 2).trans (congrFun (f33 68 (of_decide_eq_true rfl)) 2)))))
               have z169 : (σ127 68 3).toInt = (σ 68 3).toInt := (congrArg Int32.toInt (show σ127 68 3 = (σ 68 3) from ((congrFun (f151 68 (of_decide_eq_true rfl)) 3).trans ((congrFun (f53 68 (of_decide_eq_true rfl)) 3).trans (congrFun (f33 68 (of_decide_eq_true rfl)) 3)))))
               exact by
                refine jcallV (As := [.int r32, .int 0]) (rest := []) ⟨hx, hb, hml, hown, hts⟩ hK hP hA hS hZ (c_X12_goes_0 l D cI cL ad zz hJ σ127 τ r32 (r32.toInt) rfl w161 (by omega) (by omega) (by omega) (by omega) (by omega)) cw_RX12_296 (jc_55 cI cL ad σ127 τ) rfl ⟨by dsimp only; omega, by dsimp only; omega⟩ rfl rfl rfl hl.1 rfl (Nat.le_of_ble_eq_true rfl) dX12_likelyFrom_84 ⟨Nat.zero_le _, Nat.zero_le _⟩ (fun r171 σ170 τ170 H locs h170 hP hS => ?_)
                obtain ⟨rfl, f172, f173, w174, w175, w176, w177, h170⟩ := h170
                obtain ⟨k179, k180, k181, h170⟩ := h170
                have h182 := h170
                obtain ⟨q188, k183, k184, k185, k186, k187⟩ := h182
                refine lv_istore (lv' := [(7, .int r171), (8, .int r113), (6, .int x72), (5, .int r52), (4, .int x45), (3, .int r32), (0, .ref (ad 55)), (1, .int a1), (2, .int a2)]) hx hb dX12_likelyFrom_87 hl (of_decide_eq_true rfl) rfl (fun ls hl => ?_)
                refine lv_aload_n hx hb dX12_likelyFrom_89 rfl (lv_at hl 6 rfl) ?_
                refine lv_iload_n hx hb dX12_likelyFrom_90 rfl (lv_at hl 7 rfl) ?_
                refine lv_iload hx hb dX12_likelyFrom_91 (lv_at hl 2 rfl) ?_
                have I189 : jI101 σ170 := jI101_fr ((f173 4 (of_decide_eq_true rfl)).trans (f152 4 (of_decide_eq_true rfl))) ((f173 5 (of_decide_eq_true rfl)).trans (f152 5 (of_decide_eq_true rfl))) ((f172 56 (of_decide_eq_true rfl)).trans (f151 56 (of_decide_eq_true rfl))) ((f172 57 (of_decide_eq_true rfl)).trans (f151 57 (of_decide_eq_true rfl))) ((f172 58 (of_decide_eq_true rfl)).trans (f151 58 (of_decide_eq_true rfl))) ((f172 59 (of_decide_eq_true rfl)).trans (f151 59 (of_decide_eq_true rfl))) I61
                have I190 : jI102 σ170 := jI102_fr ((f173 6 (of_decide_eq_true rfl)).trans (f152 6 (of_decide_eq_true rfl))) ((f172 60 (of_decide_eq_true rfl)).trans (f151 60 (of_decide_eq_true rfl))) ((f172 61 (of_decide_eq_true rfl)).trans (f151 61 (of_decide_eq_true rfl))) I62
                have I191 : jI103 σ170 := jI103_fr ((f173 9 (of_decide_eq_true rfl)).trans (f152 9 (of_decide_eq_true rfl))) I63
                have I192 : jI104 σ170 := jI104_fr ((f173 10 (of_decide_eq_true rfl)).trans ((f152 10 (of_decide_eq_true rfl)).trans ((f54 10 (of_decide_eq_true rfl)).trans (f34 10 (of_decide_eq_true rfl))))) ((f173 12 (of_decide_eq_true rfl)).trans ((f152 12 (of_decide_eq_true rfl)).trans ((f54 12 (of_decide_eq_true rfl)).trans (f34 12 (of_decide_eq_true rfl))))) ((f173 13 (of_decide_eq_true rfl)).trans ((f152 13 (of_decide_eq_true rfl)).trans ((f54 13 (of_decide_eq_true rfl)).trans (f34 13 (of_decide_eq_true rfl))))) ((f172 62 (of_decide_eq_true rfl)).trans ((f151 62 (of_decide_eq_true rfl)).trans ((f53 62 (of_decide_eq_true rfl)).trans (f33 62 (of_decide_eq_true rfl))))) ((f172 67 (of_decide_eq_true rfl)).trans ((f151 67 (of_decide_eq_true rfl)).trans ((f53 67 (of_decide_eq_true rfl)).trans (f33 67 (of_decide_eq_true rfl))))) hI104
                have I193 : jI105 σ170 := jI105_fr ((f173 15 (of_decide_eq_true rfl)).trans ((f152 15 (of_decide_eq_true rfl)).trans (f54 15 (of_decide_eq_true rfl)))) ((f172 65 (of_decide_eq_true rfl)).trans ((f151 65 (of_decide_eq_true rfl)).trans (f53 65 (of_decide_eq_true rfl)))) I49
                have I194 : jI106 σ170 := jI106_fr ((f173 32 (of_decide_eq_true rfl)).trans ((f152 32 (of_decide_eq_true rfl)).trans ((f54 32 (of_decide_eq_true rfl)).trans (f34 32 (of_decide_eq_true rfl))))) ((f172 70 (of_decide_eq_true rfl)).trans ((f151 70 (of_decide_eq_true rfl)).trans ((f53 70 (of_decide_eq_true rfl)).trans (f33 70 (of_decide_eq_true rfl))))) ((f172 71 (of_decide_eq_true rfl)).trans ((f151 71 (of_decide_eq_true rfl)).trans ((f53 71 (of_decide_eq_true rfl)).trans (f33 71 (of_decide_eq_true rfl))))) ((f172 72 (of_decide_eq_true rfl)).trans ((f151 72 (of_decide_eq_true rfl)).trans ((f53 72 (of_decide_eq_true rfl)).trans (f33 72 (of_decide_eq_true rfl))))) hI106
                have z195 : (σ170 55 10).toInt = (σ 55 10).toInt := (congrArg Int32.toInt (show σ170 55 10 = (σ 55 10) from ((f173 10 (of_decide_eq_true rfl)).trans ((f152 10 (of_decide_eq_true rfl)).trans ((f54 10 (of_decide_eq_true rfl)).trans (f34 10 (of_decide_eq_true rfl)))))))
                have z196 : (σ170 55 12).toInt = (σ 55 12).toInt := (congrArg Int32.toInt (show σ170 55 12 = (σ 55 12) from ((f173 12 (of_decide_eq_true rfl)).trans ((f152 12 (of_decide_eq_true rfl)).trans ((f54 12 (of_decide_eq_true rfl)).trans (f34 12 (of_decide_eq_true rfl)))))))
                exact by
                 have I197 : jI120 σ170 := ⟨(by omega), (by omega), (by omega), (by omega), (by omega), w174⟩
                 have p198 : jKept σ170 := jKept.fr (f172 75 (of_decide_eq_true rfl)) (f172 76 (of_decide_eq_true rfl)) (f172 77 (of_decide_eq_true rfl)) p139
                 have p199 : jTR σ170 := jTR.fr (f172 64 (of_decide_eq_true rfl)) (f172 65 (of_decide_eq_true rfl)) p140
                 have p200 : jqSt σ170 := jqSt.fr (f172 78 (of_decide_eq_true rfl)) (f173 42 (of_decide_eq_true rfl)) p141
                 refine jcallV (As := [.int a1, .int x72]) (rest := []) ⟨hx, hb, hml, hown, hts⟩ hK hP hA hS hZ (h_lf σ170 τ a1 (A1) t1 x72 (x72.toInt) rfl I189 I190 I191 I192 I193 I194 I197 p198 p199 p200 (by omega) (by omega) (by omega)) cw_RX12_328 (jc_55 cI cL ad σ170 τ) rfl ⟨by dsimp only; omega, by dsimp only; omega⟩ rfl rfl rfl hl.1 rfl (Nat.le_of_ble_eq_true rfl) dX12_likelyFrom_93 ⟨Nat.zero_le _, Nat.zero_le _⟩ (fun r202 σ201 τ201 H locs h201 hP hS => ?_)
                 obtain ⟨rfl, f203, f204, p205, p206, p207, h201⟩ := h201
                 refine lv_istore (lv' := [(9, .int r202), (7, .int r171), (8, .int r113), (6, .int x72), (5, .int r52), (4, .int x45), (3, .int r32), (0, .ref (ad 55)), (1, .int a1), (2, .int a2)]) hx hb dX12_likelyFrom_96 hl (of_decide_eq_true rfl) rfl (fun ls hl => ?_)
                 refine lv_aload_n hx hb dX12_likelyFrom_98 rfl (lv_at hl 7 rfl) ?_
                 refine lv_iload_n hx hb dX12_likelyFrom_99 rfl (lv_at hl 6 rfl) ?_
                 exact by
                  refine lv_iconst (v := 0) hx hb dX12_likelyFrom_100 (of_decide_eq_true rfl) ?_
                  refine lv_iload hx hb dX12_likelyFrom_101 (lv_at hl 1 rfl) ?_
                  have w209 : ∀ k : Nat, k < 4 → 0 ≤ (σ201 68 k).toInt ∧ (σ201 68 k).toInt ≤ 3 := (jrr_fr (f203 68 (of_decide_eq_true rfl)) w174)
                  have z210 : (σ201 55 25).toInt = (σ170 55 25).toInt := (congrArg Int32.toInt (show σ201 55 25 = (σ170 55 25) from (f204 25 (of_decide_eq_true rfl))))
                  have z211 : (σ201 55 26).toInt = (σ170 55 26).toInt := (congrArg Int32.toInt (show σ201 55 26 = (σ170 55 26) from (f204 26 (of_decide_eq_true rfl))))
                  have z212 : (σ201 55 6).toInt = (σ 55 6).toInt := (congrArg Int32.toInt (show σ201 55 6 = (σ 55 6) from ((f204 6 (of_decide_eq_true rfl)).trans ((f173 6 (of_decide_eq_true rfl)).trans ((f152 6 (of_decide_eq_true rfl)).trans ((f54 6 (of_decide_eq_true rfl)).trans (f34 6 (of_decide_eq_true rfl))))))))
                  have w213 : ∀ k : Nat, k < 4 → 0 ≤ (σ127 68 k).toInt ∧ (σ127 68 k).toInt ≤ 3 := w161
                  have z215 : (σ127 55 27).toInt = (σ 55 27).toInt := (congrArg Int32.toInt (show σ127 55 27 = (σ 55 27) from ((f152 27 (of_decide_eq_true rfl)).trans ((f54 27 (of_decide_eq_true rfl)).trans (f34 27 (of_decide_eq_true rfl))))))
                  have k214 := jwas (by omega) (w213 0 (of_decide_eq_true rfl)) (w213 1 (of_decide_eq_true rfl)) (w213 2 (of_decide_eq_true rfl)) (w213 3 (of_decide_eq_true rfl)) k183
                  rw [← (show σ201 55 6 = σ127 55 6 from ((f204 6 (of_decide_eq_true rfl)).trans (f173 6 (of_decide_eq_true rfl))))] at k214
                  exact by
                   refine jcallVv (As := [.int r32, .int 0, .int r171]) (rest := []) ⟨hx, hb, hml, hown, hts⟩ hK hP hA hS hZ (c_X12_goesBack_0 l D cI cL ad zz hJ σ201 τ r32 (r32.toInt) rfl r171 (r171.toInt) rfl w209 (by omega) (by omega) (by omega) k214) cw_RX12_300 (jc_55 cI cL ad σ201 τ) rfl ⟨by dsimp only; omega, by dsimp only; omega⟩ rfl rfl rfl hl.1 rfl (Nat.le_of_ble_eq_true rfl) dX12_likelyFrom_103 ⟨Nat.zero_le _, Nat.zero_le _⟩ (fun σ216 τ216 H locs h216 hP hS => ?_)
                   obtain ⟨rfl, f218, f219, w220, w221, w222, h216⟩ := h216
                   obtain ⟨k224, k225, k226, k227, h216⟩ := h216
                   have p228 : jKept σ216 := jKept.fr (f218 75 (of_decide_eq_true rfl)) (f218 76 (of_decide_eq_true rfl)) (f218 77 (of_decide_eq_true rfl)) p205
                   have p229 : jTR σ216 := jTR.fr (f218 64 (of_decide_eq_true rfl)) (f218 65 (of_decide_eq_true rfl)) p206
                   have p230 : jqSt σ216 := jqSt.fr (f218 78 (of_decide_eq_true rfl)) (f219 42 (of_decide_eq_true rfl)) p207
                   have e231 : σ201 69 = σ170 69 := (f203 69 (of_decide_eq_true rfl))
                   have e232 : σ216 69 = σ127 69 := jback69 w175 e231 w221
                   have e233 : σ201 68 = σ170 68 := (f203 68 (of_decide_eq_true rfl))
                   have e234 : σ201 55 6 = σ127 55 6 := ((f204 6 (of_decide_eq_true rfl)).trans (f173 6 (of_decide_eq_true rfl)))
                   have w242 : ∀ k : Nat, k < 4 → 0 ≤ (σ127 68 k).toInt ∧ (σ127 68 k).toInt ≤ 3 := w161
                   have w243 : ∀ k : Nat, k < 4 → 0 ≤ (σ216 68 k).toInt ∧ (σ216 68 k).toInt ≤ 3 := w220
                   have k244 := k227
                   rw [e234] at k244
                   have D235 := jdig (w242 0 (of_decide_eq_true rfl)) (w242 1 (of_decide_eq_true rfl)) (w242 2 (of_decide_eq_true rfl)) (w242 3 (of_decide_eq_true rfl)) (w243 0 (of_decide_eq_true rfl)) (w243 1 (of_decide_eq_true rfl)) (w243 2 (of_decide_eq_true rfl)) (w243 3 (of_decide_eq_true rfl)) k183 k244
                   exact by
                    have e236 : σ216 55 27 = σ127 55 27 := Int32.toInt_inj.mp (by have h9 := D235.1; omega)
                    have z245 : (σ201 55 26).toInt = (σ170 55 26).toInt := (congrArg Int32.toInt (show σ201 55 26 = (σ170 55 26) from (f204 26 (of_decide_eq_true rfl))))
                    have z246 : (σ127 55 26).toInt = (σ 55 26).toInt := (congrArg Int32.toInt (show σ127 55 26 = (σ 55 26) from ((f152 26 (of_decide_eq_true rfl)).trans ((f54 26 (of_decide_eq_true rfl)).trans (f34 26 (of_decide_eq_true rfl))))))
                    have z247 : (σ201 55 25).toInt = (σ170 55 25).toInt := (congrArg Int32.toInt (show σ201 55 25 = (σ170 55 25) from (f204 25 (of_decide_eq_true rfl))))
                    have z248 : (σ127 55 25).toInt = (σ 55 25).toInt := (congrArg Int32.toInt (show σ127 55 25 = (σ 55 25) from ((f152 25 (of_decide_eq_true rfl)).trans ((f54 25 (of_decide_eq_true rfl)).trans (f34 25 (of_decide_eq_true rfl))))))
                    have e237 : σ216 55 26 = σ127 55 26 := Int32.toInt_inj.mp (by omega)
                    have e238 : σ216 55 25 = σ127 55 25 := Int32.toInt_inj.mp (by omega)
                    have z249 : (σ127 55 6).toInt = (σ 55 6).toInt := (congrArg Int32.toInt (show σ127 55 6 = (σ 55 6) from ((f152 6 (of_decide_eq_true rfl)).trans ((f54 6 (of_decide_eq_true rfl)).trans (f34 6 (of_decide_eq_true rfl))))))
                    have e239 : σ216 68 = σ127 68 := jback68 (nb := (σ127 55 6).toInt) (by omega) w176 e233 (fun k hk => w222 k (by rw [e234]; exact hk)) D235.2
                    exact by
                     have f240 : (∀ i : Nat, (i < 55 ∨ 55 < i) ∧ (i < 66 ∨ 66 < i) ∧ (i < 74 ∨ 78 < i) → σ216 i = σ127 i) := fun i hi0 => by
                       by_cases h8 : i = 68
                       · rw [h8]; exact e239
                       by_cases h9 : i = 69
                       · rw [h9]; exact e232
                       have hi : ((i < 55 ∨ 55 < i) ∧ (i < 66 ∨ 66 < i) ∧ (i < 74 ∨ 78 < i)) ∧ i ≠ 68 ∧ i ≠ 69 := ⟨hi0, h8, h9⟩
                       exact ((f218 i (imp_200 i hi)).trans ((f203 i (imp_201 i hi)).trans (f172 i (imp_200 i hi))))
                     have f241 : ∀ i : Nat, (i < 18 ∨ 18 < i) ∧ (i < 19 ∨ 19 < i) ∧ (i < 20 ∨ 20 < i) ∧ (i < 21 ∨ 21 < i) ∧ (i < 22 ∨ 22 < i) ∧ (i < 37 ∨ 37 < i) → σ216 55 i = σ127 55 i := fun i hi0 => by
                       by_cases h25 : i = 25
                       · rw [h25]; exact e238
                       by_cases h26 : i = 26
                       · rw [h26]; exact e237
                       by_cases h27 : i = 27
                       · rw [h27]; exact e236
                       have hi : ((i < 18 ∨ 18 < i) ∧ (i < 19 ∨ 19 < i) ∧ (i < 20 ∨ 20 < i) ∧ (i < 21 ∨ 21 < i) ∧ (i < 22 ∨ 22 < i) ∧ (i < 37 ∨ 37 < i)) ∧ i ≠ 25 ∧ i ≠ 26 ∧ i ≠ 27 := ⟨hi0, h25, h26, h27⟩
                       exact ((f219 i (imp_202 i hi)).trans ((f204 i (imp_203 i hi)).trans (f173 i (imp_202 i hi))))
                     clear k244 k227 k183
                     refine lv_iload hx hb dX12_likelyFrom_106 (lv_at hl 3 rfl) ?_
                     refine lv_if_le (tgt := 117) hx hb dX12_likelyFrom_108 (of_decide_eq_true rfl) (fun c250 => ?_) (fun c250 => ?_)
                     · have kc250 := jle c250 rfl jz_0
                       refine lv_iconst (v := 0) hx hb dX12_likelyFrom_117 (of_decide_eq_true rfl) ?_
                       refine lv_iload hx hb dX12_likelyFrom_118 (lv_at hl 2 rfl) ?_
                       refine lv_iload hx hb dX12_likelyFrom_120 (lv_at hl 0 rfl) ?_
                       refine lv_iload hx hb dX12_likelyFrom_122 (lv_at hl 4 rfl) ?_
                       refine jcallS (As := [.int r113, .int r202, .int r52]) (rest := [.int 0]) ⟨hx, hb, hml, hown, hts⟩ hK hP hA hS hZ (c_X12_mixed l D cI cL ad zz hJ σ216 τ r113 (r113.toInt) rfl r202 (r202.toInt) rfl r52 (r52.toInt) rfl) cw_RX12_304 ⟨by dsimp only; omega, by dsimp only; omega⟩ rfl rfl rfl hl.1 rfl (Nat.le_of_ble_eq_true rfl) dX12_likelyFrom_124 ⟨Nat.zero_le _, Nat.zero_le _⟩ (fun r252 σ251 τ251 H locs h251 hP hS => ?_)
                       obtain ⟨⟨rfl, rfl⟩, h251⟩ := h251
                       refine lv_aload_n hx hb dX12_likelyFrom_127 rfl (lv_at hl 7 rfl) ?_
                       refine va_get (D := D) hx hb hts inlX12 hown hK hP 55 (jc_55 cI cL ad σ216 τ) rfl 13 (of_decide_eq_true rfl) (hts _ kw_15_14) (fun _ h9 => h9) rfl dX12_likelyFrom_128 ?_
                       have m253 : σ216 55 13 = (σ 55 13) := ((f241 13 (of_decide_eq_true rfl)).trans ((f152 13 (of_decide_eq_true rfl)).trans ((f54 13 (of_decide_eq_true rfl)).trans (f34 13 (of_decide_eq_true rfl)))))
                       refine jtopr m253 ?_
                       refine jcallS (As := [.int 0, .int r252, .int (σ 55 13)]) (rest := []) ⟨hx, hb, hml, hown, hts⟩ hK hP hA hS hZ (c_X12_mixed l D cI cL ad zz hJ σ216 τ 0 (0) jz_0 r252 (r252.toInt) rfl (σ 55 13) ((σ 55 13).toInt) rfl) cw_RX12_304 ⟨by dsimp only; omega, by dsimp only; omega⟩ rfl rfl rfl hl.1 rfl (Nat.le_of_ble_eq_true rfl) dX12_likelyFrom_131 ⟨Nat.zero_le _, Nat.zero_le _⟩ (fun r255 σ254 τ254 H locs h254 hP hS => ?_)
                       obtain ⟨⟨rfl, rfl⟩, h254⟩ := h254
                       exact hret r255 σ216 τ _ _ _ _ rfl ⟨rfl, (fun i hi => ((f240 i hi).trans ((f151 i hi).trans ((f53 i (imp_204 i hi)).trans (f33 i hi))))), (fun i hi => ((f241 i hi).trans ((f152 i hi).trans ((f54 i (imp_205 i hi)).trans (f34 i hi))))), p228, p229, p230, trivial⟩ hP hS dX12_likelyFrom_134
                     · have kc250 := jnle c250 rfl jz_0
                       refine lv_ldcw (v := 1000000) hx hb hown (hts _ kw_37_13) dX12_likelyFrom_111 ?_
                       refine lv_goto (tgt := 118) hx hb dX12_likelyFrom_114 (of_decide_eq_true rfl) ?_
                       refine lv_iload hx hb dX12_likelyFrom_118 (lv_at hl 2 rfl) ?_
                       refine lv_iload hx hb dX12_likelyFrom_120 (lv_at hl 0 rfl) ?_
                       refine lv_iload hx hb dX12_likelyFrom_122 (lv_at hl 4 rfl) ?_
                       refine jcallS (As := [.int r113, .int r202, .int r52]) (rest := [.int 1000000]) ⟨hx, hb, hml, hown, hts⟩ hK hP hA hS hZ (c_X12_mixed l D cI cL ad zz hJ σ216 τ r113 (r113.toInt) rfl r202 (r202.toInt) rfl r52 (r52.toInt) rfl) cw_RX12_304 ⟨by dsimp only; omega, by dsimp only; omega⟩ rfl rfl rfl hl.1 rfl (Nat.le_of_ble_eq_true rfl) dX12_likelyFrom_124 ⟨Nat.zero_le _, Nat.zero_le _⟩ (fun r257 σ256 τ256 H locs h256 hP hS => ?_)
                       obtain ⟨⟨rfl, rfl⟩, h256⟩ := h256
                       refine lv_aload_n hx hb dX12_likelyFrom_127 rfl (lv_at hl 7 rfl) ?_
                       refine va_get (D := D) hx hb hts inlX12 hown hK hP 55 (jc_55 cI cL ad σ216 τ) rfl 13 (of_decide_eq_true rfl) (hts _ kw_15_14) (fun _ h9 => h9) rfl dX12_likelyFrom_128 ?_
                       have m258 : σ216 55 13 = (σ 55 13) := ((f241 13 (of_decide_eq_true rfl)).trans ((f152 13 (of_decide_eq_true rfl)).trans ((f54 13 (of_decide_eq_true rfl)).trans (f34 13 (of_decide_eq_true rfl)))))
                       refine jtopr m258 ?_
                       refine jcallS (As := [.int 1000000, .int r257, .int (σ 55 13)]) (rest := []) ⟨hx, hb, hml, hown, hts⟩ hK hP hA hS hZ (c_X12_mixed l D cI cL ad zz hJ σ216 τ 1000000 (1000000) jz_1000000 r257 (r257.toInt) rfl (σ 55 13) ((σ 55 13).toInt) rfl) cw_RX12_304 ⟨by dsimp only; omega, by dsimp only; omega⟩ rfl rfl rfl hl.1 rfl (Nat.le_of_ble_eq_true rfl) dX12_likelyFrom_131 ⟨Nat.zero_le _, Nat.zero_le _⟩ (fun r260 σ259 τ259 H locs h259 hP hS => ?_)
                       obtain ⟨⟨rfl, rfl⟩, h259⟩ := h259
                       exact hret r260 σ216 τ _ _ _ _ rfl ⟨rfl, (fun i hi => ((f240 i hi).trans ((f151 i hi).trans ((f53 i (imp_204 i hi)).trans (f33 i hi))))), (fun i hi => ((f241 i hi).trans ((f152 i hi).trans ((f54 i (imp_205 i hi)).trans (f34 i hi))))), p228, p229, p230, trivial⟩ hP hS dX12_likelyFrom_134
set_option maxHeartbeats 4000000 in
set_option maxRecDepth 100000 in
theorem c_X12_likelies_lf_z (l : Launch) (D : va_G) (cI cL : ClassId) (ad zz : Nat → Nat) (hJ : jD ad) (σ : Nat → Nat → Int32) (τ : Nat → Nat → Int64) (a1 : Int32) (A1 : Int) (t1 : a1.toInt = A1) (a2 : Int32) (A2 : Int) (t2 : a2.toInt = A2) (hI101 : jI101 σ) (hI102 : jI102 σ) (hI103 : jI103 σ) (hI104 : jI104 σ) (hI105 : jI105 σ) (hI106 : jI106 σ) (hI120 : jI120 σ) (hs_jKept : jKept σ) (hs_jTR : jTR σ) (hs_jqSt : jqSt σ) (hp0 : 0 ≤ A1 ∧ A1 ≤ 19) (hp1 : (σ 55 12).toInt - (σ 55 26).toInt ≤ 8) (hp2 : (σ 55 12).toInt - (σ 55 26).toInt ≤ (((0) : Nat) : Int)) : jM l yX12_likelyFrom cX12_likelyFrom 10 (some .int) ({ frames := (106 + 4 * (0)), cells := 0, slots := 0, locals := (5261 + 240 * (0)) }) D cI cL ad zz [.ref (ad 55), .int a1, .int a2] σ τ (fun r σ' τ' => τ = τ' ∧ (∀ i : Nat, (i < 55 ∨ 55 < i) ∧ (i < 66 ∨ 66 < i) ∧ (i < 74 ∨ 78 < i) → σ' i = σ i) ∧ (∀ k : Nat, (k < 18 ∨ 18 < k) ∧ (k < 19 ∨ 19 < k) ∧ (k < 20 ∨ 20 < k) ∧ (k < 21 ∨ 21 < k) ∧ (k < 22 ∨ 22 < k) ∧ (k < 37 ∨ 37 < k) → σ' 55 k = σ 55 k) ∧ (jKept σ') ∧ (jTR σ') ∧ (jqSt σ') ∧ True) := by
  refine jM.of hJ (by decide +kernel) (nt := .int) rfl (Nat.le_of_ble_eq_true rfl) ?_
  intro p e s m args below meth c Q ls hC hret hl hP
  obtain ⟨hx, hb, hr, hml, hown, hts, hK, -, hlocks, hZ⟩ := hC
  have hown : s.vm.findClass RX12 = some m.cls := hown
  have hS : va_S (jA ad) s.heap s.heap [] := va_S.rf
  have hA : ∀ q, jA ad q → jA ad q := fun _ h => h
  have hl : lv_has ls 10 [(0, .ref (ad 55)), (1, .int a1), (2, .int a2)] := hl
  have g1 := jrg t1
  have g2 := jrg t2
  obtain ⟨i1, w2, w3⟩ : (0 ≤ (σ 55 6).toInt ∧ (σ 55 6).toInt ≤ 4) ∧ (∀ k : Nat, k < 4 → 0 ≤ (σ 60 k).toInt ∧ (σ 60 k).toInt ≤ 50) ∧ (∀ k : Nat, k < 4 → 0 ≤ (σ 61 k).toInt ∧ (σ 61 k).toInt ≤ 20) := id hI102
  obtain ⟨i4, i5, i6, w7, w8⟩ : (1 ≤ (σ 55 10).toInt ∧ (σ 55 10).toInt ≤ 8) ∧ (1 ≤ (σ 55 12).toInt ∧ (σ 55 12).toInt ≤ 12) ∧ (0 ≤ (σ 55 13).toInt ∧ (σ 55 13).toInt ≤ 999) ∧ (∀ k : Nat, k < 8 → 0 ≤ (σ 62 k).toInt ∧ (σ 62 k).toInt ≤ 3) ∧ (∀ k : Nat, k < 8 → 0 ≤ (σ 67 k).toInt ∧ (σ 67 k).toInt ≤ 3) := id hI104
  obtain ⟨i9, i10, i11, i12, i13, w14⟩ : (0 ≤ (σ 55 25).toInt) ∧ ((σ 55 25).toInt ≤ (σ 55 10).toInt) ∧ (0 ≤ (σ 55 26).toInt) ∧ ((σ 55 26).toInt ≤ (σ 55 12).toInt) ∧ ((-1) ≤ (σ 55 27).toInt ∧ (σ 55 27).toInt ≤ 3) ∧ (∀ k : Nat, k < 4 → 0 ≤ (σ 68 k).toInt ∧ (σ 68 k).toInt ≤ 3) := id hI120
  refine lv_aload_n hx hb dX12_likelyFrom_0 rfl (lv_at hl 0 rfl) ?_
  refine jcallV (As := []) (rest := []) ⟨hx, hb, hml, hown, hts⟩ hK hP hA hS hZ (c_X12_isEnded l D cI cL ad zz hJ σ τ hI102 hI104 hI120) cw_RX12_307 (jc_55 cI cL ad σ τ) rfl ⟨by dsimp only; omega, by dsimp only; omega⟩ rfl rfl rfl hl.1 rfl (Nat.le_of_ble_eq_true rfl) dX12_likelyFrom_1 ⟨Nat.zero_le _, Nat.zero_le _⟩ (fun r16 σ15 τ15 H locs h15 hP hS => ?_)
  obtain ⟨⟨rfl, rfl⟩, h15⟩ := h15
  rcases h15 with h17 | h18
  · obtain ⟨q20, k19⟩ := h17
    have q20 := q20.symm
    subst q20
    refine lv_if_eq (tgt := 19) hx hb dX12_likelyFrom_4 (of_decide_eq_true rfl) (fun c => absurd c (of_decide_eq_true rfl)) (fun _ => ?_)
    refine lv_iload_n hx hb dX12_likelyFrom_7 rfl (lv_at hl 2 rfl) ?_
    refine lv_if_le (tgt := 17) hx hb dX12_likelyFrom_8 (of_decide_eq_true rfl) (fun c21 => ?_) (fun c21 => ?_)
    · have kc21 := jle c21 t2 jz_0
      refine lv_iconst (v := 0) hx hb dX12_likelyFrom_17 (of_decide_eq_true rfl) ?_
      exact hret 0 σ τ _ _ _ _ rfl ⟨rfl, (fun _ _ => rfl), (fun _ _ => rfl), hs_jKept, hs_jTR, hs_jqSt, trivial⟩ hP hS dX12_likelyFrom_18
    · have kc21 := jnle c21 t2 jz_0
      refine lv_ldcw (v := 1000000) hx hb hown (hts _ kw_37_13) dX12_likelyFrom_11 ?_
      refine lv_goto (tgt := 18) hx hb dX12_likelyFrom_14 (of_decide_eq_true rfl) ?_
      exact hret 1000000 σ τ _ _ _ _ rfl ⟨rfl, (fun _ _ => rfl), (fun _ _ => rfl), hs_jKept, hs_jTR, hs_jqSt, trivial⟩ hP hS dX12_likelyFrom_18
  · obtain ⟨q25, k22, k23, k24⟩ := h18
    exact absurd (by omega : False) id
set_option maxHeartbeats 4000000 in
set_option maxRecDepth 100000 in
theorem c_X12_likelies (l : Launch) (D : va_G) (cI cL : ClassId) (ad zz : Nat → Nat) (hJ : jD ad) (n : Nat) : (∀ (σ : Nat → Nat → Int32) (τ : Nat → Nat → Int64) (a1 : Int32) (A1 : Int) (t1 : a1.toInt = A1) (a2 : Int32) (A2 : Int) (t2 : a2.toInt = A2) (hI101 : jI101 σ) (hI102 : jI102 σ) (hI103 : jI103 σ) (hI104 : jI104 σ) (hI105 : jI105 σ) (hI106 : jI106 σ) (hI120 : jI120 σ) (hs_jKept : jKept σ) (hs_jTR : jTR σ) (hs_jqSt : jqSt σ) (hp0 : 0 ≤ A1 ∧ A1 ≤ 19) (hp1 : (σ 55 12).toInt - (σ 55 26).toInt ≤ 8) (hp2 : (σ 55 12).toInt - (σ 55 26).toInt ≤ (((n) : Nat) : Int)), jM l yX12_likelyFrom cX12_likelyFrom 10 (some .int) ({ frames := (106 + 4 * (n)), cells := 0, slots := 0, locals := (5261 + 240 * (n)) }) D cI cL ad zz [.ref (ad 55), .int a1, .int a2] σ τ (fun r σ' τ' => τ = τ' ∧ (∀ i : Nat, (i < 55 ∨ 55 < i) ∧ (i < 66 ∨ 66 < i) ∧ (i < 74 ∨ 78 < i) → σ' i = σ i) ∧ (∀ k : Nat, (k < 18 ∨ 18 < k) ∧ (k < 19 ∨ 19 < k) ∧ (k < 20 ∨ 20 < k) ∧ (k < 21 ∨ 21 < k) ∧ (k < 22 ∨ 22 < k) ∧ (k < 37 ∨ 37 < k) → σ' 55 k = σ 55 k) ∧ (jKept σ') ∧ (jTR σ') ∧ (jqSt σ') ∧ True)) := by
  induction n with
  | zero =>
    have h_lf := c_X12_likelies_lf_z l D cI cL ad zz hJ
    exact h_lf
  | succ n ih =>
    have g_lf := ih
    have h_lf := c_X12_likelies_lf_g l D cI cL ad zz hJ n g_lf
    exact h_lf
