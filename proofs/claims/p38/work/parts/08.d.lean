set_option maxHeartbeats 4000000 in
set_option maxRecDepth 100000 in
theorem c_X12_putsOn (l : Launch) (D : va_G) (cI cL : ClassId) (ad zz : Nat → Nat) (hJ : jD ad) (σ : Nat → Nat → Int32) (τ : Nat → Nat → Int64) (B0 : Int32) (hB0 : jmb σ B0 = 1) (a1 : Int32) (A1 : Int) (t1 : a1.toInt = A1) (hI101 : jI101 σ) (hI102 : jI102 σ) (hI103 : jI103 σ) (hI104 : jI104 σ) (hI105 : jI105 σ) (hI106 : jI106 σ) (hI120 : jI120 σ) (hs_jKept : jKept σ) (hp0 : 0 ≤ B0.toInt ∧ B0.toInt < (σ 55 6).toInt) (hp1 : 0 ≤ A1 ∧ A1 ≤ 19) (hp2 : (σ 55 25).toInt < (σ 55 10).toInt) (hp3 : (σ 55 26).toInt < (σ 55 12).toInt) (hp4 : ((σ 70 a1.toNatClampNeg).toInt ≠ 2) ∨ ((σ 55 12).toInt - (σ 55 26).toInt ≤ 8)) : jM l yX12_putsOn cX12_putsOn 7 (some .int) ({ frames := 103, cells := 0, slots := 0, locals := 5061 }) D cI cL ad zz [.ref (ad 55), .int a1] σ τ (fun r σ' τ' => τ = τ' ∧ (∀ i : Nat, (i < 55 ∨ 55 < i) ∧ (i < 66 ∨ 66 < i) ∧ (i < 74 ∨ 78 < i) → σ' i = σ i) ∧ (∀ k : Nat, (k < 18 ∨ 18 < k) ∧ (k < 19 ∨ 19 < k) ∧ (k < 20 ∨ 20 < k) ∧ (k < 21 ∨ 21 < k) ∧ (k < 22 ∨ 22 < k) ∧ (k < 37 ∨ 37 < k) → σ' 55 k = σ 55 k) ∧ (jKept σ') ∧ ((True ∧ (0 ≤ r.toInt ∧ r.toInt ≤ 3)))) := by
  refine jM.of hJ (by decide +kernel) (nt := .int) rfl (Nat.le_of_ble_eq_true rfl) ?_
  intro p e s m args below meth c Q ls hC hret hl hP
  obtain ⟨hx, hb, hr, hml, hown, hts, hK, -, hlocks, hZ⟩ := hC
  have hown : s.vm.findClass RX12 = some m.cls := hown
  have hS : va_S (jA ad) s.heap s.heap [] := va_S.rf
  have hA : ∀ q, jA ad q → jA ad q := fun _ h => h
  have hl : lv_has ls 7 [(0, .ref (ad 55)), (1, .int a1)] := hl
  have g1 := jrg t1
  obtain ⟨i1, w2, w3⟩ : (0 ≤ (σ 55 6).toInt ∧ (σ 55 6).toInt ≤ 4) ∧ (∀ k : Nat, k < 4 → 0 ≤ (σ 60 k).toInt ∧ (σ 60 k).toInt ≤ 50) ∧ (∀ k : Nat, k < 4 → 0 ≤ (σ 61 k).toInt ∧ (σ 61 k).toInt ≤ 20) := id hI102
  obtain ⟨i4, i5, i6, w7, w8⟩ : (1 ≤ (σ 55 10).toInt ∧ (σ 55 10).toInt ≤ 8) ∧ (1 ≤ (σ 55 12).toInt ∧ (σ 55 12).toInt ≤ 12) ∧ (0 ≤ (σ 55 13).toInt ∧ (σ 55 13).toInt ≤ 999) ∧ (∀ k : Nat, k < 8 → 0 ≤ (σ 62 k).toInt ∧ (σ 62 k).toInt ≤ 3) ∧ (∀ k : Nat, k < 8 → 0 ≤ (σ 67 k).toInt ∧ (σ 67 k).toInt ≤ 3) := id hI104
  obtain ⟨i9, w10⟩ : (0 ≤ (σ 55 15).toInt ∧ (σ 55 15).toInt ≤ 80) ∧ (∀ k : Nat, k < 2 → (-1) ≤ (σ 65 k).toInt ∧ (σ 65 k).toInt ≤ 80) := id hI105
  obtain ⟨i11, w12, w13, w14⟩ : (0 ≤ (σ 55 32).toInt ∧ (σ 55 32).toInt ≤ 20) ∧ (∀ k : Nat, k < 20 → 0 ≤ (σ 70 k).toInt ∧ (σ 70 k).toInt ≤ 6) ∧ (∀ k : Nat, k < 20 → 0 ≤ (σ 71 k).toInt ∧ (σ 71 k).toInt ≤ 8) ∧ (∀ k : Nat, k < 160 → 0 ≤ (σ 72 k).toInt ∧ (σ 72 k).toInt ≤ 3) := id hI106
  obtain ⟨i15, i16, i17, i18, i19, w20⟩ : (0 ≤ (σ 55 25).toInt) ∧ ((σ 55 25).toInt ≤ (σ 55 10).toInt) ∧ (0 ≤ (σ 55 26).toInt) ∧ ((σ 55 26).toInt ≤ (σ 55 12).toInt) ∧ ((-1) ≤ (σ 55 27).toInt ∧ (σ 55 27).toInt ≤ 3) ∧ (∀ k : Nat, k < 4 → 0 ≤ (σ 68 k).toInt ∧ (σ 68 k).toInt ≤ 3) := id hI120
  refine lv_aload_n hx hb dX12_putsOn_0 rfl (lv_at hl 0 rfl) ?_
  refine va_get (D := D) hx hb hts inlX12 hown hK hP 55 (jc_55 cI cL ad σ τ) rfl 33 (of_decide_eq_true rfl) (hts _ kw_7_18) (fun _ h9 => h9) rfl dX12_putsOn_1 ?_
  refine lv_iload_n hx hb dX12_putsOn_4 rfl (lv_at hl 1 rfl) ?_
  exact by
   refine jald hx hb hK hP (jc_70 cI cL ad σ τ) (jin t1 (by omega) (by omega)) dX12_putsOn_5 ?_
   have g21 := w12 _ (jnat (x := a1) t1 (n := 20) (by omega) (of_decide_eq_true rfl))
   refine jtopr (y := (σ 70 a1.toNatClampNeg)) rfl ?_
   refine lv_iconst (v := 1) hx hb dX12_putsOn_6 (of_decide_eq_true rfl) ?_
   refine lv_icmp_ne (tgt := 17) hx hb dX12_putsOn_7 (of_decide_eq_true rfl) (fun c22 => ?_) (fun c22 => ?_)
   · have kc22 := jne c22 rfl jz_1
     refine lv_aload_n hx hb dX12_putsOn_17 rfl (lv_at hl 0 rfl) ?_
     refine va_get (D := D) hx hb hts inlX12 hown hK hP 55 (jc_55 cI cL ad σ τ) rfl 33 (of_decide_eq_true rfl) (hts _ kw_7_18) (fun _ h9 => h9) rfl dX12_putsOn_18 ?_
     refine lv_iload_n hx hb dX12_putsOn_21 rfl (lv_at hl 1 rfl) ?_
     exact by
      refine jald hx hb hK hP (jc_70 cI cL ad σ τ) (jin t1 (by omega) (by omega)) dX12_putsOn_22 ?_
      have g23 := w12 _ (jnat (x := a1) t1 (n := 20) (by omega) (of_decide_eq_true rfl))
      refine jtopr (y := (σ 70 a1.toNatClampNeg)) rfl ?_
      refine lv_iconst (v := 4) hx hb dX12_putsOn_23 (of_decide_eq_true rfl) ?_
      refine lv_icmp_ne (tgt := 86) hx hb dX12_putsOn_24 (of_decide_eq_true rfl) (fun c24 => ?_) (fun c24 => ?_)
      · have kc24 := jne c24 rfl jz_4
        refine lv_aload_n hx hb dX12_putsOn_86 rfl (lv_at hl 0 rfl) ?_
        refine va_get (D := D) hx hb hts inlX12 hown hK hP 55 (jc_55 cI cL ad σ τ) rfl 33 (of_decide_eq_true rfl) (hts _ kw_7_18) (fun _ h9 => h9) rfl dX12_putsOn_87 ?_
        refine lv_iload_n hx hb dX12_putsOn_90 rfl (lv_at hl 1 rfl) ?_
        exact by
         refine jald hx hb hK hP (jc_70 cI cL ad σ τ) (jin t1 (by omega) (by omega)) dX12_putsOn_91 ?_
         refine jtopr (y := (σ 70 a1.toNatClampNeg)) rfl ?_
         refine lv_iconst (v := 2) hx hb dX12_putsOn_92 (of_decide_eq_true rfl) ?_
         refine lv_icmp_ne (tgt := 106) hx hb dX12_putsOn_93 (of_decide_eq_true rfl) (fun c25 => ?_) (fun c25 => ?_)
         · have kc25 := jne c25 rfl jz_2
           refine lv_iconst (v := (-1)) hx hb dX12_putsOn_106 (of_decide_eq_true rfl) ?_
           refine lv_istore_n (lv' := [(2, .int (-1)), (0, .ref (ad 55)), (1, .int a1)]) hx hb dX12_putsOn_107 rfl hl (of_decide_eq_true rfl) rfl (fun ls hl => ?_)
           refine lv_iconst (v := 0) hx hb dX12_putsOn_108 (of_decide_eq_true rfl) ?_
           refine lv_istore_n (lv' := [(3, .int 0), (2, .int (-1)), (0, .ref (ad 55)), (1, .int a1)]) hx hb dX12_putsOn_109 rfl hl (of_decide_eq_true rfl) rfl (fun ls hl => ?_)
           refine lv_iconst (v := 0) hx hb dX12_putsOn_110 (of_decide_eq_true rfl) ?_
           refine lv_istore (lv' := [(4, .int 0), (3, .int 0), (2, .int (-1)), (0, .ref (ad 55)), (1, .int a1)]) hx hb dX12_putsOn_111 hl (of_decide_eq_true rfl) rfl (fun ls hl => ?_)
           have lp26 : ∀ (n27 : Nat) (x28 : Int32) (x29 : Int32) (x30 : Int32) (σ33 : Nat → Nat → Int32) (H : Heap) (locs : List Loc) (ls : Array Slot), (-x30.toInt + 4 : Int) < n27 → (-1) ≤ x28.toInt → x28.toInt ≤ 3 → 0 ≤ x30.toInt → x30.toInt ≤ 4 → ((0 ≤ x28.toInt) ∨ (x28.toInt = (-1) ∧ x30.toInt ≤ B0.toInt)) → (∀ i : Nat, (i < 55 ∨ 55 < i) ∧ (i < 66 ∨ 66 < i) → σ33 i = σ i) → (∀ k : Nat, (k < 18 ∨ 18 < k) ∧ (k < 19 ∨ 19 < k) ∧ (k < 20 ∨ 20 < k) ∧ (k < 21 ∨ 21 < k) ∧ (k < 22 ∨ 22 < k) → σ33 55 k = σ 55 k) → jH D cI cL ad σ33 τ H → va_S (jA ad) s.heap H locs → lv_has ls 7 [(4, .int x30), (3, .int x29), (2, .int x28), (0, .ref (ad 55)), (1, .int a1)] → W p l e ({ frames := 103, cells := 0, slots := 0, locals := 5061 }) s m args below meth c H locs 0 0 Q (F0 m 113 ls []) := by
             intro n27
             induction n27 with
             | zero => intro x28 x29 x30 σ33 H locs ls h35 h36 h37 h38 h39 h40; have gx29 := jrg (rfl : x29.toInt = x29.toInt); exact absurd h35 (by omega)
             | succ n27 ihlp26 =>
               intro x28 x29 x30 σ33 H locs ls h35 h36 h37 h38 h39 h40 f41 f42 hP hS hl
               exact by
                have gx29 := jrg (rfl : x29.toInt = x29.toInt)
                refine lv_iload hx hb dX12_putsOn_113 (lv_at hl 0 rfl) ?_
                refine lv_aload_n hx hb dX12_putsOn_115 rfl (lv_at hl 3 rfl) ?_
                refine va_get (D := D) hx hb hts inlX12 hown hK hP 55 (jc_55 cI cL ad σ33 τ) rfl 6 (of_decide_eq_true rfl) (hts _ kw_9_13) (fun _ h9 => h9) rfl dX12_putsOn_116 ?_
                have m43 : σ33 55 6 = (σ 55 6) := (f42 6 (of_decide_eq_true rfl))
                refine jtopr m43 ?_
                refine lv_icmp_ge (tgt := 255) hx hb dX12_putsOn_119 (of_decide_eq_true rfl) (fun c44 => ?_) (fun c44 => ?_)
                · have kc44 := jle c44 rfl rfl
                  refine lv_iload_n hx hb dX12_putsOn_255 rfl (lv_at hl 2 rfl) ?_
                  have p45 : jKept σ33 := jKept.fr (f41 75 (of_decide_eq_true rfl)) (f41 76 (of_decide_eq_true rfl)) (f41 77 (of_decide_eq_true rfl)) hs_jKept
                  exact hret x28 σ33 τ _ _ _ _ rfl ⟨rfl, (fun i hi => (f41 i (imp_204 i hi))), (fun i hi => (f42 i (imp_205 i hi))), p45, ⟨trivial, (by omega)⟩⟩ hP hS dX12_putsOn_256
                · have kc44 := jnle c44 rfl rfl
                  refine lv_aload_n hx hb dX12_putsOn_122 rfl (lv_at hl 3 rfl) ?_
                  refine lv_iload hx hb dX12_putsOn_123 (lv_at hl 0 rfl) ?_
                  exact by
                   refine jcallV (As := [.int x30]) (rest := []) ⟨hx, hb, hml, hown, hts⟩ hK hP hA hS hZ (c_X12_mayBowl l D cI cL ad zz hJ σ33 τ x30 (x30.toInt) rfl (by omega)) cw_RX12_249 (jc_55 cI cL ad σ33 τ) rfl ⟨Nat.le_of_ble_eq_true rfl, Nat.le_of_ble_eq_true rfl⟩ rfl rfl rfl hl.1 rfl (Nat.le_of_ble_eq_true rfl) dX12_putsOn_125 ⟨Nat.zero_le _, Nat.zero_le _⟩ (fun r47 σ46 τ46 H locs h46 hP hS => ?_)
                   obtain ⟨⟨rfl, rfl⟩, h46⟩ := h46
                   rcases h46 with h48 | h49
                   · obtain ⟨q51, k50⟩ := h48
                     have q51 := q51.symm
                     subst q51
                     refine lv_if_ne (tgt := 134) hx hb dX12_putsOn_128 (of_decide_eq_true rfl) (fun _ => ?_) (fun c => absurd c (of_decide_eq_true rfl))
                     refine lv_aload_n hx hb dX12_putsOn_134 rfl (lv_at hl 3 rfl) ?_
                     refine va_get (D := D) hx hb hts inlX12 hown hK hP 55 (jc_55 cI cL ad σ33 τ) rfl 33 (of_decide_eq_true rfl) (hts _ kw_7_18) (fun _ h9 => h9) rfl dX12_putsOn_135 ?_
                     refine lv_iload_n hx hb dX12_putsOn_138 rfl (lv_at hl 4 rfl) ?_
                     exact by
                      refine jald hx hb hK hP (jc_70 cI cL ad σ33 τ) (jin t1 (by omega) (by omega)) dX12_putsOn_139 ?_
                      refine jtopr (y := (σ 70 a1.toNatClampNeg)) (by rw [f41 70 (of_decide_eq_true rfl)]) ?_
                      refine lv_bipush (v := 6) hx hb dX12_putsOn_140 (of_decide_eq_true rfl) ?_
                      refine lv_icmp_ne (tgt := 149) hx hb dX12_putsOn_142 (of_decide_eq_true rfl) (fun c52 => ?_) (fun c52 => ?_)
                      · have kc52 := jne c52 rfl jz_6
                        refine lv_iconst (v := 0) hx hb dX12_putsOn_149 (of_decide_eq_true rfl) ?_
                        refine lv_istore (lv' := [(5, .int 0), (4, .int x30), (3, .int x29), (2, .int x28), (0, .ref (ad 55)), (1, .int a1)]) hx hb dX12_putsOn_150 hl (of_decide_eq_true rfl) rfl (fun ls hl => ?_)
                        refine lv_iload hx hb dX12_putsOn_152 (lv_at hl 0 rfl) ?_
                        refine lv_if_ne (tgt := 167) hx hb dX12_putsOn_154 (of_decide_eq_true rfl) (fun c => absurd (of_decide_eq_true rfl) c) (fun _ => ?_)
                        exact by
                         refine lv_aload_n hx hb dX12_putsOn_157 rfl (lv_at hl 4 rfl) ?_
                         refine lv_iload_n hx hb dX12_putsOn_158 rfl (lv_at hl 5 rfl) ?_
                         refine lv_iload hx hb dX12_putsOn_159 (lv_at hl 1 rfl) ?_
                         have I53 : jI101 σ33 := jI101_fr (f42 4 (of_decide_eq_true rfl)) (f42 5 (of_decide_eq_true rfl)) (f41 56 (of_decide_eq_true rfl)) (f41 57 (of_decide_eq_true rfl)) (f41 58 (of_decide_eq_true rfl)) (f41 59 (of_decide_eq_true rfl)) hI101
                         have I54 : jI102 σ33 := jI102_fr (f42 6 (of_decide_eq_true rfl)) (f41 60 (of_decide_eq_true rfl)) (f41 61 (of_decide_eq_true rfl)) hI102
                         have I55 : jI103 σ33 := jI103_fr (f42 9 (of_decide_eq_true rfl)) hI103
                         have I56 : jI104 σ33 := jI104_fr (f42 10 (of_decide_eq_true rfl)) (f42 12 (of_decide_eq_true rfl)) (f42 13 (of_decide_eq_true rfl)) (f41 62 (of_decide_eq_true rfl)) (f41 67 (of_decide_eq_true rfl)) hI104
                         have I57 : jI105 σ33 := jI105_fr (f42 15 (of_decide_eq_true rfl)) (f41 65 (of_decide_eq_true rfl)) hI105
                         have I58 : jI106 σ33 := jI106_fr (f42 32 (of_decide_eq_true rfl)) (f41 70 (of_decide_eq_true rfl)) (f41 71 (of_decide_eq_true rfl)) (f41 72 (of_decide_eq_true rfl)) hI106
                         have w59 : ∀ k : Nat, k < 4 → 0 ≤ (σ33 68 k).toInt ∧ (σ33 68 k).toInt ≤ 3 := (jrr_fr (f41 68 (of_decide_eq_true rfl)) w20)
                         have z60 : (σ33 55 25).toInt = (σ 55 25).toInt := (congrArg Int32.toInt (show σ33 55 25 = (σ 55 25) from (f42 25 (of_decide_eq_true rfl))))
                         exact by
                          refine jcallV (As := [.int a1, .int x30]) (rest := []) ⟨hx, hb, hml, hown, hts⟩ hK hP hA hS hZ (c_X12_worthBy l D cI cL ad zz hJ σ33 τ a1 (A1) t1 x30 (x30.toInt) rfl I53 I54 I55 I56 I57 I58 w59 (by omega) (by omega) (by omega)) cw_RX12_286 (jc_55 cI cL ad σ33 τ) rfl ⟨Nat.le_of_ble_eq_true rfl, Nat.le_of_ble_eq_true rfl⟩ rfl rfl rfl hl.1 rfl (Nat.le_of_ble_eq_true rfl) dX12_putsOn_161 ⟨Nat.zero_le _, Nat.zero_le _⟩ (fun r62 σ61 τ61 H locs h61 hP hS => ?_)
                          obtain ⟨rfl, f63, f64, h61⟩ := h61
                          refine lv_goto (tgt := 217) hx hb dX12_putsOn_164 (of_decide_eq_true rfl) ?_
                          refine lv_istore (lv' := [(6, .int r62), (5, .int 0), (4, .int x30), (3, .int x29), (2, .int x28), (0, .ref (ad 55)), (1, .int a1)]) hx hb dX12_putsOn_217 hl (of_decide_eq_true rfl) rfl (fun ls hl => ?_)
                          refine lv_iload_n hx hb dX12_putsOn_219 rfl (lv_at hl 4 rfl) ?_
                          refine lv_if_lt (tgt := 243) hx hb dX12_putsOn_220 (of_decide_eq_true rfl) (fun c66 => ?_) (fun c66 => ?_)
                          · have kc66 := jlt c66 rfl jz_0
                            refine lv_iload hx hb dX12_putsOn_243 (lv_at hl 2 rfl) ?_
                            refine lv_istore_n (lv' := [(2, .int x30), (6, .int r62), (5, .int 0), (4, .int x30), (3, .int x29), (0, .ref (ad 55)), (1, .int a1)]) hx hb dX12_putsOn_245 rfl hl (of_decide_eq_true rfl) rfl (fun ls hl => ?_)
                            refine lv_iload hx hb dX12_putsOn_246 (lv_at hl 1 rfl) ?_
                            refine lv_istore_n (lv' := [(3, .int r62), (2, .int x30), (6, .int r62), (5, .int 0), (4, .int x30), (0, .ref (ad 55)), (1, .int a1)]) hx hb dX12_putsOn_248 rfl hl (of_decide_eq_true rfl) rfl (fun ls hl => ?_)
                            obtain ⟨x67, ex67⟩ : ∃ y : Int32, y = x30 + 1 := ⟨_, rfl⟩
                            exact by
                             have tx67 : x67.toInt = x30.toInt + 1 := (jadd ex67 rfl jz_1 (by omega) (by omega)).trans (by omega)
                             refine lv_iinc (v := x67) (lv' := [(4, .int x67), (3, .int r62), (2, .int x30), (6, .int r62), (5, .int 0), (0, .ref (ad 55)), (1, .int a1)]) hx hb dX12_putsOn_249 hl (k := 4) rfl (by rw [ex67]; rfl) (of_decide_eq_true rfl) rfl (fun ls hl => ?_)
                             refine lv_goto (tgt := 113) hx hb dX12_putsOn_252 (of_decide_eq_true rfl) ?_
                             exact by exact ihlp26 x30 r62 x67 σ61 _ _ ls (by have h92 := tx67; omega) (by have h92 := tx67; omega) (by have h92 := tx67; omega) (by have h92 := tx67; omega) (by have h92 := tx67; omega) (by have h92 := tx67; omega) (fun i hi => ((f63 i hi).trans (f41 i hi))) (fun i hi => ((f64 i hi).trans (f42 i hi)))   hP hS (lv_sub hl [0, 1, 2, 5, 6] rfl)
                          · have kc66 := jnlt c66 rfl jz_0
                            refine lv_iload hx hb dX12_putsOn_223 (lv_at hl 1 rfl) ?_
                            refine lv_if_eq (tgt := 237) hx hb dX12_putsOn_225 (of_decide_eq_true rfl) (fun _ => ?_) (fun c => absurd (of_decide_eq_true rfl) c)
                            refine lv_iload hx hb dX12_putsOn_237 (lv_at hl 0 rfl) ?_
                            refine lv_iload_n hx hb dX12_putsOn_239 rfl (lv_at hl 3 rfl) ?_
                            exact by
                             refine lv_icmp_ge (tgt := 249) hx hb dX12_putsOn_240 (of_decide_eq_true rfl) (fun c68 => ?_) (fun c68 => ?_)
                             · have kc68 := jle c68 rfl rfl
                               obtain ⟨x69, ex69⟩ : ∃ y : Int32, y = x30 + 1 := ⟨_, rfl⟩
                               have tx69 : x69.toInt = x30.toInt + 1 := (jadd ex69 rfl jz_1 (by omega) (by omega)).trans (by omega)
                               refine lv_iinc (v := x69) (lv' := [(4, .int x69), (6, .int r62), (5, .int 0), (3, .int x29), (2, .int x28), (0, .ref (ad 55)), (1, .int a1)]) hx hb dX12_putsOn_249 hl (k := 2) rfl (by rw [ex69]; rfl) (of_decide_eq_true rfl) rfl (fun ls hl => ?_)
                               refine lv_goto (tgt := 113) hx hb dX12_putsOn_252 (of_decide_eq_true rfl) ?_
                               exact by exact ihlp26 x28 x29 x69 σ61 _ _ ls (by have h92 := tx69; omega) (by have h92 := tx69; omega) (by have h92 := tx69; omega) (by have h92 := tx69; omega) (by have h92 := tx69; omega) (by have h92 := tx69; omega) (fun i hi => ((f63 i hi).trans (f41 i hi))) (fun i hi => ((f64 i hi).trans (f42 i hi)))   hP hS (lv_sub hl [0, 3, 4, 5, 6] rfl)
                             · have kc68 := jnle c68 rfl rfl
                               refine lv_iload hx hb dX12_putsOn_243 (lv_at hl 2 rfl) ?_
                               exact by
                                refine lv_istore_n (lv' := [(2, .int x30), (6, .int r62), (5, .int 0), (4, .int x30), (3, .int x29), (0, .ref (ad 55)), (1, .int a1)]) hx hb dX12_putsOn_245 rfl hl (of_decide_eq_true rfl) rfl (fun ls hl => ?_)
                                refine lv_iload hx hb dX12_putsOn_246 (lv_at hl 1 rfl) ?_
                                refine lv_istore_n (lv' := [(3, .int r62), (2, .int x30), (6, .int r62), (5, .int 0), (4, .int x30), (0, .ref (ad 55)), (1, .int a1)]) hx hb dX12_putsOn_248 rfl hl (of_decide_eq_true rfl) rfl (fun ls hl => ?_)
                                obtain ⟨x70, ex70⟩ : ∃ y : Int32, y = x30 + 1 := ⟨_, rfl⟩
                                have tx70 : x70.toInt = x30.toInt + 1 := (jadd ex70 rfl jz_1 (by omega) (by omega)).trans (by omega)
                                refine lv_iinc (v := x70) (lv' := [(4, .int x70), (3, .int r62), (2, .int x30), (6, .int r62), (5, .int 0), (0, .ref (ad 55)), (1, .int a1)]) hx hb dX12_putsOn_249 hl (k := 4) rfl (by rw [ex70]; rfl) (of_decide_eq_true rfl) rfl (fun ls hl => ?_)
                                refine lv_goto (tgt := 113) hx hb dX12_putsOn_252 (of_decide_eq_true rfl) ?_
                                exact by exact ihlp26 x30 r62 x70 σ61 _ _ ls (by have h92 := tx70; omega) (by have h92 := tx70; omega) (by have h92 := tx70; omega) (by have h92 := tx70; omega) (by have h92 := tx70; omega) (by have h92 := tx70; omega) (fun i hi => ((f63 i hi).trans (f41 i hi))) (fun i hi => ((f64 i hi).trans (f42 i hi)))   hP hS (lv_sub hl [0, 1, 2, 5, 6] rfl)
                      · have kc52 := jeq c52 rfl jz_6
                        exact by
                         refine lv_iconst (v := 1) hx hb dX12_putsOn_145 (of_decide_eq_true rfl) ?_
                         refine lv_goto (tgt := 150) hx hb dX12_putsOn_146 (of_decide_eq_true rfl) ?_
                         refine lv_istore (lv' := [(5, .int 1), (4, .int x30), (3, .int x29), (2, .int x28), (0, .ref (ad 55)), (1, .int a1)]) hx hb dX12_putsOn_150 hl (of_decide_eq_true rfl) rfl (fun ls hl => ?_)
                         refine lv_iload hx hb dX12_putsOn_152 (lv_at hl 0 rfl) ?_
                         refine lv_if_ne (tgt := 167) hx hb dX12_putsOn_154 (of_decide_eq_true rfl) (fun _ => ?_) (fun c => absurd c (of_decide_eq_true rfl))
                         refine lv_aload_n hx hb dX12_putsOn_167 rfl (lv_at hl 4 rfl) ?_
                         refine va_get (D := D) hx hb hts inlX12 hown hK hP 55 (jc_55 cI cL ad σ33 τ) rfl 17 (of_decide_eq_true rfl) (hts _ kw_7_11) (fun _ h9 => h9) rfl dX12_putsOn_168 ?_
                         refine lv_iconst (v := 0) hx hb dX12_putsOn_171 (of_decide_eq_true rfl) ?_
                         refine jald hx hb hK hP (jc_65 cI cL ad σ33 τ) (jin jz_0 (by omega) (by omega)) dX12_putsOn_172 ?_
                         exact by
                          refine jtopr (y := σ33 65 0) rfl ?_
                          have m71 : σ33 65 0 = (σ 65 0) := (congrFun (f41 65 (of_decide_eq_true rfl)) 0)
                          refine jtopr m71 ?_
                          have w72 : ∀ k : Nat, k < 2 → (-1) ≤ (σ33 65 k).toInt ∧ (σ33 65 k).toInt ≤ 80 := (jrr_fr (f41 65 (of_decide_eq_true rfl)) w10)
                          have g73 := w72 0 (of_decide_eq_true rfl)
                          rw [m71] at g73
                          refine lv_if_ge (tgt := 180) hx hb dX12_putsOn_173 (of_decide_eq_true rfl) (fun c74 => ?_) (fun c74 => ?_)
                          · have kc74 := jle c74 jz_0 rfl
                            refine lv_aload_n hx hb dX12_putsOn_180 rfl (lv_at hl 4 rfl) ?_
                            refine lv_iconst (v := 0) hx hb dX12_putsOn_181 (of_decide_eq_true rfl) ?_
                            refine lv_iload hx hb dX12_putsOn_182 (lv_at hl 1 rfl) ?_
                            refine lv_aload_n hx hb dX12_putsOn_184 rfl (lv_at hl 4 rfl) ?_
                            refine va_get (D := D) hx hb hts inlX12 hown hK hP 55 (jc_55 cI cL ad σ33 τ) rfl 11 (of_decide_eq_true rfl) (hts _ kw_7_8) (fun _ h9 => h9) rfl dX12_putsOn_185 ?_
                            refine lv_aload_n hx hb dX12_putsOn_188 rfl (lv_at hl 4 rfl) ?_
                            refine va_get (D := D) hx hb hts inlX12 hown hK hP 55 (jc_55 cI cL ad σ33 τ) rfl 25 (of_decide_eq_true rfl) (hts _ kw_23_6) (fun _ h9 => h9) rfl dX12_putsOn_189 ?_
                            have m75 : σ33 55 25 = (σ 55 25) := (f42 25 (of_decide_eq_true rfl))
                            refine jtopr m75 ?_
                            exact by
                             refine jald hx hb hK hP (jc_62 cI cL ad σ33 τ) (jin rfl (by omega) (by omega)) dX12_putsOn_192 ?_
                             have w76 : ∀ k : Nat, k < 8 → 0 ≤ (σ33 62 k).toInt ∧ (σ33 62 k).toInt ≤ 3 := (jrr_fr (f41 62 (of_decide_eq_true rfl)) w7)
                             have g77 := w76 _ (jnat (x := (σ 55 25)) rfl (n := 8) (by omega) (of_decide_eq_true rfl))
                             refine jtopr (y := (σ 62 (σ 55 25).toNatClampNeg)) (by rw [f41 62 (of_decide_eq_true rfl)]) ?_
                             rw [f41 62 (of_decide_eq_true rfl)] at g77
                             refine lv_aload_n hx hb dX12_putsOn_193 rfl (lv_at hl 4 rfl) ?_
                             refine lv_iload hx hb dX12_putsOn_194 (lv_at hl 1 rfl) ?_
                             refine lv_aload_n hx hb dX12_putsOn_196 rfl (lv_at hl 4 rfl) ?_
                             refine va_get (D := D) hx hb hts inlX12 hown hK hP 55 (jc_55 cI cL ad σ33 τ) rfl 11 (of_decide_eq_true rfl) (hts _ kw_7_8) (fun _ h9 => h9) rfl dX12_putsOn_197 ?_
                             exact by
                              refine lv_aload_n hx hb dX12_putsOn_200 rfl (lv_at hl 4 rfl) ?_
                              refine va_get (D := D) hx hb hts inlX12 hown hK hP 55 (jc_55 cI cL ad σ33 τ) rfl 25 (of_decide_eq_true rfl) (hts _ kw_23_6) (fun _ h9 => h9) rfl dX12_putsOn_201 ?_
                              refine jtopr m75 ?_
                              refine jald hx hb hK hP (jc_62 cI cL ad σ33 τ) (jin rfl (by omega) (by omega)) dX12_putsOn_204 ?_
                              refine jtopr (y := (σ 62 (σ 55 25).toNatClampNeg)) (by rw [f41 62 (of_decide_eq_true rfl)]) ?_
                              have I78 : jI101 σ33 := jI101_fr (f42 4 (of_decide_eq_true rfl)) (f42 5 (of_decide_eq_true rfl)) (f41 56 (of_decide_eq_true rfl)) (f41 57 (of_decide_eq_true rfl)) (f41 58 (of_decide_eq_true rfl)) (f41 59 (of_decide_eq_true rfl)) hI101
                              have I79 : jI102 σ33 := jI102_fr (f42 6 (of_decide_eq_true rfl)) (f41 60 (of_decide_eq_true rfl)) (f41 61 (of_decide_eq_true rfl)) hI102
                              have I80 : jI103 σ33 := jI103_fr (f42 9 (of_decide_eq_true rfl)) hI103
                              have I81 : jI105 σ33 := jI105_fr (f42 15 (of_decide_eq_true rfl)) (f41 65 (of_decide_eq_true rfl)) hI105
                              exact by
                               have w82 : ∀ k : Nat, k < 4 → 0 ≤ (σ33 68 k).toInt ∧ (σ33 68 k).toInt ≤ 3 := (jrr_fr (f41 68 (of_decide_eq_true rfl)) w20)
                               refine jcallV (As := [.int x30, .int (σ 62 (σ 55 25).toNatClampNeg)]) (rest := [.int (σ 62 (σ 55 25).toNatClampNeg), .int x30, .int 0, .ref (ad 55)]) ⟨hx, hb, hml, hown, hts⟩ hK hP hA hS hZ (c_X12_outBy l D cI cL ad zz hJ σ33 τ x30 (x30.toInt) rfl (σ 62 (σ 55 25).toNatClampNeg) ((σ 62 (σ 55 25).toNatClampNeg).toInt) rfl I78 I79 I80 I81 w82 (by omega) (by omega)) cw_RX12_259 (jc_55 cI cL ad σ33 τ) rfl ⟨Nat.le_of_ble_eq_true rfl, Nat.le_of_ble_eq_true rfl⟩ rfl rfl rfl hl.1 rfl (Nat.le_of_ble_eq_true rfl) dX12_putsOn_205 ⟨Nat.zero_le _, Nat.zero_le _⟩ (fun r84 σ83 τ83 H locs h83 hP hS => ?_)
                               obtain ⟨rfl, f85, f86, h83⟩ := h83
                               have h88 := h83
                               obtain ⟨q90, k89⟩ := h88
                               refine lv_aload_n hx hb dX12_putsOn_208 rfl (lv_at hl 4 rfl) ?_
                               refine va_get (D := D) hx hb hts inlX12 hown hK hP 55 (jc_55 cI cL ad σ83 τ) rfl 36 (of_decide_eq_true rfl) (hts _ kw_7_21) (fun _ h9 => h9) rfl dX12_putsOn_209 ?_
                               refine lv_iload_n hx hb dX12_putsOn_212 rfl (lv_at hl 5 rfl) ?_
                               refine jald hx hb hK hP (jc_73 cI cL ad σ83 τ) (jin t1 (by omega) (by omega)) dX12_putsOn_213 ?_
                               exact by
                                refine jtopr (y := (σ 73 a1.toNatClampNeg)) (by rw [f85 73 (of_decide_eq_true rfl), f41 73 (of_decide_eq_true rfl)]) ?_
                                have I91 : jI105 σ83 := jI105_fr (f86 15 (of_decide_eq_true rfl)) (f85 65 (of_decide_eq_true rfl)) I81
                                have z92 : (σ83 65 0).toInt = (σ 65 0).toInt := (congrArg Int32.toInt (show σ83 65 0 = (σ 65 0) from ((congrFun (f85 65 (of_decide_eq_true rfl)) 0).trans m71)))
                                refine jcallV (As := [.int 0, .int x30, .int (σ 62 (σ 55 25).toNatClampNeg), .int r84, .int (σ 73 a1.toNatClampNeg)]) (rest := []) ⟨hx, hb, hml, hown, hts⟩ hK hP hA hS hZ (c_X12_textGives_0 l D cI cL ad zz hJ σ83 τ x30 (x30.toInt) rfl (σ 62 (σ 55 25).toNatClampNeg) ((σ 62 (σ 55 25).toNatClampNeg).toInt) rfl r84 (r84.toInt) rfl (σ 73 a1.toNatClampNeg) ((σ 73 a1.toNatClampNeg).toInt) rfl I91 (by omega) (by omega)) cw_RX12_252 (jc_55 cI cL ad σ83 τ) rfl ⟨Nat.le_of_ble_eq_true rfl, Nat.le_of_ble_eq_true rfl⟩ rfl rfl rfl hl.1 rfl (Nat.le_of_ble_eq_true rfl) dX12_putsOn_214 ⟨Nat.zero_le _, Nat.zero_le _⟩ (fun r94 σ93 τ93 H locs h93 hP hS => ?_)
                                obtain ⟨rfl, f95, f96, h93⟩ := h93
                                refine lv_istore (lv' := [(6, .int r94), (5, .int 1), (4, .int x30), (3, .int x29), (2, .int x28), (0, .ref (ad 55)), (1, .int a1)]) hx hb dX12_putsOn_217 hl (of_decide_eq_true rfl) rfl (fun ls hl => ?_)
                                refine lv_iload_n hx hb dX12_putsOn_219 rfl (lv_at hl 4 rfl) ?_
                                refine lv_if_lt (tgt := 243) hx hb dX12_putsOn_220 (of_decide_eq_true rfl) (fun c98 => ?_) (fun c98 => ?_)
                                · have kc98 := jlt c98 rfl jz_0
                                  exact by
                                   refine lv_iload hx hb dX12_putsOn_243 (lv_at hl 2 rfl) ?_
                                   refine lv_istore_n (lv' := [(2, .int x30), (6, .int r94), (5, .int 1), (4, .int x30), (3, .int x29), (0, .ref (ad 55)), (1, .int a1)]) hx hb dX12_putsOn_245 rfl hl (of_decide_eq_true rfl) rfl (fun ls hl => ?_)
                                   refine lv_iload hx hb dX12_putsOn_246 (lv_at hl 1 rfl) ?_
                                   refine lv_istore_n (lv' := [(3, .int r94), (2, .int x30), (6, .int r94), (5, .int 1), (4, .int x30), (0, .ref (ad 55)), (1, .int a1)]) hx hb dX12_putsOn_248 rfl hl (of_decide_eq_true rfl) rfl (fun ls hl => ?_)
                                   obtain ⟨x99, ex99⟩ : ∃ y : Int32, y = x30 + 1 := ⟨_, rfl⟩
                                   have tx99 : x99.toInt = x30.toInt + 1 := (jadd ex99 rfl jz_1 (by omega) (by omega)).trans (by omega)
                                   refine lv_iinc (v := x99) (lv' := [(4, .int x99), (3, .int r94), (2, .int x30), (6, .int r94), (5, .int 1), (0, .ref (ad 55)), (1, .int a1)]) hx hb dX12_putsOn_249 hl (k := 4) rfl (by rw [ex99]; rfl) (of_decide_eq_true rfl) rfl (fun ls hl => ?_)
                                   refine lv_goto (tgt := 113) hx hb dX12_putsOn_252 (of_decide_eq_true rfl) ?_
                                   exact by exact ihlp26 x30 r94 x99 σ93 _ _ ls (by have h92 := tx99; omega) (by have h92 := tx99; omega) (by have h92 := tx99; omega) (by have h92 := tx99; omega) (by have h92 := tx99; omega) (by have h92 := tx99; omega) (fun i hi => ((f95 i hi).trans ((f85 i hi).trans (f41 i hi)))) (fun i hi => ((f96 i hi).trans ((f86 i hi).trans (f42 i hi))))   hP hS (lv_sub hl [0, 1, 2, 5, 6] rfl)
                                · exact by
                                   have kc98 := jnlt c98 rfl jz_0
                                   refine lv_iload hx hb dX12_putsOn_223 (lv_at hl 1 rfl) ?_
                                   refine lv_if_eq (tgt := 237) hx hb dX12_putsOn_225 (of_decide_eq_true rfl) (fun c => absurd c (of_decide_eq_true rfl)) (fun _ => ?_)
                                   refine lv_iload hx hb dX12_putsOn_228 (lv_at hl 0 rfl) ?_
                                   refine lv_iload_n hx hb dX12_putsOn_230 rfl (lv_at hl 3 rfl) ?_
                                   refine lv_icmp_le (tgt := 249) hx hb dX12_putsOn_231 (of_decide_eq_true rfl) (fun c100 => ?_) (fun c100 => ?_)
                                   · have kc100 := jle c100 rfl rfl
                                     obtain ⟨x101, ex101⟩ : ∃ y : Int32, y = x30 + 1 := ⟨_, rfl⟩
                                     have tx101 : x101.toInt = x30.toInt + 1 := (jadd ex101 rfl jz_1 (by omega) (by omega)).trans (by omega)
                                     exact by
                                      refine lv_iinc (v := x101) (lv' := [(4, .int x101), (6, .int r94), (5, .int 1), (3, .int x29), (2, .int x28), (0, .ref (ad 55)), (1, .int a1)]) hx hb dX12_putsOn_249 hl (k := 2) rfl (by rw [ex101]; rfl) (of_decide_eq_true rfl) rfl (fun ls hl => ?_)
                                      refine lv_goto (tgt := 113) hx hb dX12_putsOn_252 (of_decide_eq_true rfl) ?_
                                      exact by exact ihlp26 x28 x29 x101 σ93 _ _ ls (by have h92 := tx101; omega) (by have h92 := tx101; omega) (by have h92 := tx101; omega) (by have h92 := tx101; omega) (by have h92 := tx101; omega) (by have h92 := tx101; omega) (fun i hi => ((f95 i hi).trans ((f85 i hi).trans (f41 i hi)))) (fun i hi => ((f96 i hi).trans ((f86 i hi).trans (f42 i hi))))   hP hS (lv_sub hl [0, 3, 4, 5, 6] rfl)
                                   · have kc100 := jnle c100 rfl rfl
                                     refine lv_goto (tgt := 243) hx hb dX12_putsOn_234 (of_decide_eq_true rfl) ?_
                                     refine lv_iload hx hb dX12_putsOn_243 (lv_at hl 2 rfl) ?_
                                     refine lv_istore_n (lv' := [(2, .int x30), (6, .int r94), (5, .int 1), (4, .int x30), (3, .int x29), (0, .ref (ad 55)), (1, .int a1)]) hx hb dX12_putsOn_245 rfl hl (of_decide_eq_true rfl) rfl (fun ls hl => ?_)
                                     refine lv_iload hx hb dX12_putsOn_246 (lv_at hl 1 rfl) ?_
                                     refine lv_istore_n (lv' := [(3, .int r94), (2, .int x30), (6, .int r94), (5, .int 1), (4, .int x30), (0, .ref (ad 55)), (1, .int a1)]) hx hb dX12_putsOn_248 rfl hl (of_decide_eq_true rfl) rfl (fun ls hl => ?_)
                                     obtain ⟨x102, ex102⟩ : ∃ y : Int32, y = x30 + 1 := ⟨_, rfl⟩
                                     exact by
                                      have tx102 : x102.toInt = x30.toInt + 1 := (jadd ex102 rfl jz_1 (by omega) (by omega)).trans (by omega)
                                      refine lv_iinc (v := x102) (lv' := [(4, .int x102), (3, .int r94), (2, .int x30), (6, .int r94), (5, .int 1), (0, .ref (ad 55)), (1, .int a1)]) hx hb dX12_putsOn_249 hl (k := 4) rfl (by rw [ex102]; rfl) (of_decide_eq_true rfl) rfl (fun ls hl => ?_)
                                      refine lv_goto (tgt := 113) hx hb dX12_putsOn_252 (of_decide_eq_true rfl) ?_
                                      exact by exact ihlp26 x30 r94 x102 σ93 _ _ ls (by have h92 := tx102; omega) (by have h92 := tx102; omega) (by have h92 := tx102; omega) (by have h92 := tx102; omega) (by have h92 := tx102; omega) (by have h92 := tx102; omega) (fun i hi => ((f95 i hi).trans ((f85 i hi).trans (f41 i hi)))) (fun i hi => ((f96 i hi).trans ((f86 i hi).trans (f42 i hi))))   hP hS (lv_sub hl [0, 1, 2, 5, 6] rfl)
                          · have kc74 := jnle c74 jz_0 rfl
                            refine lv_iconst (v := 0) hx hb dX12_putsOn_176 (of_decide_eq_true rfl) ?_
                            refine lv_goto (tgt := 217) hx hb dX12_putsOn_177 (of_decide_eq_true rfl) ?_
                            refine lv_istore (lv' := [(6, .int 0), (5, .int 1), (4, .int x30), (3, .int x29), (2, .int x28), (0, .ref (ad 55)), (1, .int a1)]) hx hb dX12_putsOn_217 hl (of_decide_eq_true rfl) rfl (fun ls hl => ?_)
                            refine lv_iload_n hx hb dX12_putsOn_219 rfl (lv_at hl 4 rfl) ?_
                            exact by
                             refine lv_if_lt (tgt := 243) hx hb dX12_putsOn_220 (of_decide_eq_true rfl) (fun c103 => ?_) (fun c103 => ?_)
                             · have kc103 := jlt c103 rfl jz_0
                               refine lv_iload hx hb dX12_putsOn_243 (lv_at hl 2 rfl) ?_
                               refine lv_istore_n (lv' := [(2, .int x30), (6, .int 0), (5, .int 1), (4, .int x30), (3, .int x29), (0, .ref (ad 55)), (1, .int a1)]) hx hb dX12_putsOn_245 rfl hl (of_decide_eq_true rfl) rfl (fun ls hl => ?_)
                               refine lv_iload hx hb dX12_putsOn_246 (lv_at hl 1 rfl) ?_
                               refine lv_istore_n (lv' := [(3, .int 0), (2, .int x30), (6, .int 0), (5, .int 1), (4, .int x30), (0, .ref (ad 55)), (1, .int a1)]) hx hb dX12_putsOn_248 rfl hl (of_decide_eq_true rfl) rfl (fun ls hl => ?_)
                               obtain ⟨x104, ex104⟩ : ∃ y : Int32, y = x30 + 1 := ⟨_, rfl⟩
                               have tx104 : x104.toInt = x30.toInt + 1 := (jadd ex104 rfl jz_1 (by omega) (by omega)).trans (by omega)
                               refine lv_iinc (v := x104) (lv' := [(4, .int x104), (3, .int 0), (2, .int x30), (6, .int 0), (5, .int 1), (0, .ref (ad 55)), (1, .int a1)]) hx hb dX12_putsOn_249 hl (k := 4) rfl (by rw [ex104]; rfl) (of_decide_eq_true rfl) rfl (fun ls hl => ?_)
                               exact by
                                refine lv_goto (tgt := 113) hx hb dX12_putsOn_252 (of_decide_eq_true rfl) ?_
                                exact by exact ihlp26 x30 0 x104 σ33 _ _ ls (by have h91 := jz_0; have h92 := tx104; omega) (by have h91 := jz_0; have h92 := tx104; omega) (by have h91 := jz_0; have h92 := tx104; omega) (by have h91 := jz_0; have h92 := tx104; omega) (by have h91 := jz_0; have h92 := tx104; omega) (by have h91 := jz_0; have h92 := tx104; omega) (fun i hi => (f41 i hi)) (fun i hi => (f42 i hi))   hP hS (lv_sub hl [0, 1, 2, 5, 6] rfl)
                             · have kc103 := jnlt c103 rfl jz_0
                               refine lv_iload hx hb dX12_putsOn_223 (lv_at hl 1 rfl) ?_
                               refine lv_if_eq (tgt := 237) hx hb dX12_putsOn_225 (of_decide_eq_true rfl) (fun c => absurd c (of_decide_eq_true rfl)) (fun _ => ?_)
                               refine lv_iload hx hb dX12_putsOn_228 (lv_at hl 0 rfl) ?_
                               refine lv_iload_n hx hb dX12_putsOn_230 rfl (lv_at hl 3 rfl) ?_
                               refine lv_icmp_le (tgt := 249) hx hb dX12_putsOn_231 (of_decide_eq_true rfl) (fun c105 => ?_) (fun c105 => ?_)
                               · have kc105 := jle c105 jz_0 rfl
                                 obtain ⟨x106, ex106⟩ : ∃ y : Int32, y = x30 + 1 := ⟨_, rfl⟩
                                 exact by
                                  have tx106 : x106.toInt = x30.toInt + 1 := (jadd ex106 rfl jz_1 (by omega) (by omega)).trans (by omega)
                                  refine lv_iinc (v := x106) (lv' := [(4, .int x106), (6, .int 0), (5, .int 1), (3, .int x29), (2, .int x28), (0, .ref (ad 55)), (1, .int a1)]) hx hb dX12_putsOn_249 hl (k := 2) rfl (by rw [ex106]; rfl) (of_decide_eq_true rfl) rfl (fun ls hl => ?_)
                                  refine lv_goto (tgt := 113) hx hb dX12_putsOn_252 (of_decide_eq_true rfl) ?_
                                  exact by exact ihlp26 x28 x29 x106 σ33 _ _ ls (by have h92 := tx106; omega) (by have h92 := tx106; omega) (by have h92 := tx106; omega) (by have h92 := tx106; omega) (by have h92 := tx106; omega) (by have h92 := tx106; omega) (fun i hi => (f41 i hi)) (fun i hi => (f42 i hi))   hP hS (lv_sub hl [0, 3, 4, 5, 6] rfl)
                               · have kc105 := jnle c105 jz_0 rfl
                                 refine lv_goto (tgt := 243) hx hb dX12_putsOn_234 (of_decide_eq_true rfl) ?_
                                 refine lv_iload hx hb dX12_putsOn_243 (lv_at hl 2 rfl) ?_
                                 refine lv_istore_n (lv' := [(2, .int x30), (6, .int 0), (5, .int 1), (4, .int x30), (3, .int x29), (0, .ref (ad 55)), (1, .int a1)]) hx hb dX12_putsOn_245 rfl hl (of_decide_eq_true rfl) rfl (fun ls hl => ?_)
                                 refine lv_iload hx hb dX12_putsOn_246 (lv_at hl 1 rfl) ?_
                                 exact by
                                  refine lv_istore_n (lv' := [(3, .int 0), (2, .int x30), (6, .int 0), (5, .int 1), (4, .int x30), (0, .ref (ad 55)), (1, .int a1)]) hx hb dX12_putsOn_248 rfl hl (of_decide_eq_true rfl) rfl (fun ls hl => ?_)
                                  obtain ⟨x107, ex107⟩ : ∃ y : Int32, y = x30 + 1 := ⟨_, rfl⟩
                                  have tx107 : x107.toInt = x30.toInt + 1 := (jadd ex107 rfl jz_1 (by omega) (by omega)).trans (by omega)
                                  refine lv_iinc (v := x107) (lv' := [(4, .int x107), (3, .int 0), (2, .int x30), (6, .int 0), (5, .int 1), (0, .ref (ad 55)), (1, .int a1)]) hx hb dX12_putsOn_249 hl (k := 4) rfl (by rw [ex107]; rfl) (of_decide_eq_true rfl) rfl (fun ls hl => ?_)
                                  refine lv_goto (tgt := 113) hx hb dX12_putsOn_252 (of_decide_eq_true rfl) ?_
                                  exact by exact ihlp26 x30 0 x107 σ33 _ _ ls (by have h91 := jz_0; have h92 := tx107; omega) (by have h91 := jz_0; have h92 := tx107; omega) (by have h91 := jz_0; have h92 := tx107; omega) (by have h91 := jz_0; have h92 := tx107; omega) (by have h91 := jz_0; have h92 := tx107; omega) (by have h91 := jz_0; have h92 := tx107; omega) (fun i hi => (f41 i hi)) (fun i hi => (f42 i hi))   hP hS (lv_sub hl [0, 1, 2, 5, 6] rfl)
                   · obtain ⟨q109, k108⟩ := h49
                     have q109 := q109.symm
                     subst q109
                     exact by
                      have e110 : jmb σ33 x30 = jmb σ x30 := (jmb_fr (f42 27 (of_decide_eq_true rfl)) (f42 30 (of_decide_eq_true rfl)) (f42 31 (of_decide_eq_true rfl)) (f41 56 (of_decide_eq_true rfl)) (f41 69 (of_decide_eq_true rfl)) x30)
                      have n111 : ¬ x30 = B0 := fun h => absurd ((hB0).symm.trans (by rw [← h]; exact e110.symm.trans k108) : (1 : Int32) = 0) (of_decide_eq_true rfl)
                      have k112 := jne n111 rfl rfl
                      refine lv_if_ne (tgt := 134) hx hb dX12_putsOn_128 (of_decide_eq_true rfl) (fun c => absurd (of_decide_eq_true rfl) c) (fun _ => ?_)
                      refine lv_goto (tgt := 249) hx hb dX12_putsOn_131 (of_decide_eq_true rfl) ?_
                      obtain ⟨x113, ex113⟩ : ∃ y : Int32, y = x30 + 1 := ⟨_, rfl⟩
                      have tx113 : x113.toInt = x30.toInt + 1 := (jadd ex113 rfl jz_1 (by omega) (by omega)).trans (by omega)
                      refine lv_iinc (v := x113) (lv' := [(4, .int x113), (3, .int x29), (2, .int x28), (0, .ref (ad 55)), (1, .int a1)]) hx hb dX12_putsOn_249 hl (k := 0) rfl (by rw [ex113]; rfl) (of_decide_eq_true rfl) rfl (fun ls hl => ?_)
                      refine lv_goto (tgt := 113) hx hb dX12_putsOn_252 (of_decide_eq_true rfl) ?_
                      exact by exact ihlp26 x28 x29 x113 σ33 _ _ ls (by have h92 := tx113; omega) (by have h92 := tx113; omega) (by have h92 := tx113; omega) (by have h92 := tx113; omega) (by have h92 := tx113; omega) (by have h92 := tx113; omega) (fun i hi => (f41 i hi)) (fun i hi => (f42 i hi))   hP hS (lv_sub hl [0, 1, 2, 3, 4] rfl)
           exact by exact lp26 1000000 (-1) 0 0 σ _ _ ls (by have h90 := jz_m1; have h91 := jz_0; have h92 := jz_0; omega) (by have h90 := jz_m1; have h91 := jz_0; have h92 := jz_0; omega) (by have h90 := jz_m1; have h91 := jz_0; have h92 := jz_0; omega) (by have h90 := jz_m1; have h91 := jz_0; have h92 := jz_0; omega) (by have h90 := jz_m1; have h91 := jz_0; have h92 := jz_0; omega) (by have h90 := jz_m1; have h91 := jz_0; have h92 := jz_0; omega) (fun _ _ => rfl) (fun _ _ => rfl)   hP hS hl
         · exact by
            have kc25 := jeq c25 rfl jz_2
            refine lv_aload_n hx hb dX12_putsOn_96 rfl (lv_at hl 0 rfl) ?_
            have p114 : jmb σ B0 = 1 := (jmb_fr rfl rfl rfl rfl rfl B0).trans hB0
            refine jcallV (As := []) (rest := []) ⟨hx, hb, hml, hown, hts⟩ hK hP hA hS hZ ((c_X12_bests l D cI cL ad zz hJ 8).2.2 σ τ B0 p114 hI101 hI102 hI103 hI104 hI105 hI106 hI120 hs_jKept (by omega) (by omega) (by omega) (by omega)) cw_RX12_280 (jc_55 cI cL ad σ τ) rfl ⟨Nat.le_of_ble_eq_true rfl, Nat.le_of_ble_eq_true rfl⟩ rfl rfl rfl hl.1 rfl (Nat.le_of_ble_eq_true rfl) dX12_putsOn_97 ⟨Nat.zero_le _, Nat.zero_le _⟩ (fun r116 σ115 τ115 H locs h115 hP hS => ?_)
            obtain ⟨rfl, f117, f118, p119, h115⟩ := h115
            obtain ⟨k121, h115⟩ := h115
            have h122 := h115
            obtain ⟨q124, k123⟩ := h122
            refine lv_istore_n (lv' := [(2, .int r116), (0, .ref (ad 55)), (1, .int a1)]) hx hb dX12_putsOn_100 rfl hl (of_decide_eq_true rfl) rfl (fun ls hl => ?_)
            exact by
             refine lv_aload_n hx hb dX12_putsOn_101 rfl (lv_at hl 1 rfl) ?_
             refine va_get (D := D) hx hb hts inlX12 hown hK hP 55 (jc_55 cI cL ad σ115 τ) rfl 37 (of_decide_eq_true rfl) (hts _ kw_33_15) (fun _ h9 => h9) rfl dX12_putsOn_102 ?_
             exact hret (σ115 55 37) σ115 τ _ _ _ _ rfl ⟨rfl, (fun i hi => (f117 i hi)), (fun i hi => (f118 i hi)), p119, ⟨trivial, (by omega)⟩⟩ hP hS dX12_putsOn_105
      · have kc24 := jeq c24 rfl jz_4
        refine lv_aload_n hx hb dX12_putsOn_27 rfl (lv_at hl 0 rfl) ?_
        refine va_get (D := D) hx hb hts inlX12 hown hK hP 55 (jc_55 cI cL ad σ τ) rfl 34 (of_decide_eq_true rfl) (hts _ kw_7_19) (fun _ h9 => h9) rfl dX12_putsOn_28 ?_
        refine lv_iload_n hx hb dX12_putsOn_31 rfl (lv_at hl 1 rfl) ?_
        refine jald hx hb hK hP (jc_71 cI cL ad σ τ) (jin t1 (by omega) (by omega)) dX12_putsOn_32 ?_
        have g125 := w13 _ (jnat (x := a1) t1 (n := 20) (by omega) (of_decide_eq_true rfl))
        exact by
         refine jtopr (y := (σ 71 a1.toNatClampNeg)) rfl ?_
         refine lv_if_le (tgt := 61) hx hb dX12_putsOn_33 (of_decide_eq_true rfl) (fun c126 => ?_) (fun c126 => ?_)
         · have kc126 := jle c126 rfl jz_0
           refine lv_iconst (v := (-1)) hx hb dX12_putsOn_61 (of_decide_eq_true rfl) ?_
           refine lv_istore_n (lv' := [(2, .int (-1)), (0, .ref (ad 55)), (1, .int a1)]) hx hb dX12_putsOn_62 rfl hl (of_decide_eq_true rfl) rfl (fun ls hl => ?_)
           refine lv_aload_n hx hb dX12_putsOn_63 rfl (lv_at hl 1 rfl) ?_
           refine lv_iload_n hx hb dX12_putsOn_64 rfl (lv_at hl 2 rfl) ?_
           refine lv_iload_n hx hb dX12_putsOn_65 rfl (lv_at hl 0 rfl) ?_
           refine lv_if_lt (tgt := 81) hx hb dX12_putsOn_66 (of_decide_eq_true rfl) (fun _ => ?_) (fun c => absurd (of_decide_eq_true rfl) c)
           refine lv_iconst (v := (-1)) hx hb dX12_putsOn_81 (of_decide_eq_true rfl) ?_
           have p127 : jmb σ B0 = 1 := (jmb_fr rfl rfl rfl rfl rfl B0).trans hB0
           exact by
            refine jcallV (As := [.int a1, .int (-1)]) (rest := []) ⟨hx, hb, hml, hown, hts⟩ hK hP hA hS hZ (c_X12_turnOf l D cI cL ad zz hJ σ τ B0 p127 a1 (A1) t1 (-1) ((-1)) jz_m1 hI102 hI106 (by omega) (by omega) (by omega) (by omega)) cw_RX12_277 (jc_55 cI cL ad σ τ) rfl ⟨Nat.le_of_ble_eq_true rfl, Nat.le_of_ble_eq_true rfl⟩ rfl rfl rfl hl.1 rfl (Nat.le_of_ble_eq_true rfl) dX12_putsOn_82 ⟨Nat.zero_le _, Nat.zero_le _⟩ (fun r129 σ128 τ128 H locs h128 hP hS => ?_)
            obtain ⟨⟨rfl, rfl⟩, h128⟩ := h128
            have h130 := h128
            obtain ⟨q132, k131⟩ := h130
            exact hret r129 σ τ _ _ _ _ rfl ⟨rfl, (fun _ _ => rfl), (fun _ _ => rfl), hs_jKept, ⟨trivial, (by omega)⟩⟩ hP hS dX12_putsOn_85
         · have kc126 := jnle c126 rfl jz_0
           refine lv_aload_n hx hb dX12_putsOn_36 rfl (lv_at hl 0 rfl) ?_
           refine va_get (D := D) hx hb hts inlX12 hown hK hP 55 (jc_55 cI cL ad σ τ) rfl 26 (of_decide_eq_true rfl) (hts _ kw_23_5) (fun _ h9 => h9) rfl dX12_putsOn_37 ?_
           refine lv_aload_n hx hb dX12_putsOn_40 rfl (lv_at hl 0 rfl) ?_
           refine va_get (D := D) hx hb hts inlX12 hown hK hP 55 (jc_55 cI cL ad σ τ) rfl 36 (of_decide_eq_true rfl) (hts _ kw_7_21) (fun _ h9 => h9) rfl dX12_putsOn_41 ?_
           refine lv_iload_n hx hb dX12_putsOn_44 rfl (lv_at hl 1 rfl) ?_
           exact by
            refine jald hx hb hK hP (jc_73 cI cL ad σ τ) (jin t1 (by omega) (by omega)) dX12_putsOn_45 ?_
            refine jtopr (y := (σ 73 a1.toNatClampNeg)) rfl ?_
            refine lv_icmp_ge (tgt := 61) hx hb dX12_putsOn_46 (of_decide_eq_true rfl) (fun c133 => ?_) (fun c133 => ?_)
            · have kc133 := jle c133 rfl rfl
              refine lv_iconst (v := (-1)) hx hb dX12_putsOn_61 (of_decide_eq_true rfl) ?_
              refine lv_istore_n (lv' := [(2, .int (-1)), (0, .ref (ad 55)), (1, .int a1)]) hx hb dX12_putsOn_62 rfl hl (of_decide_eq_true rfl) rfl (fun ls hl => ?_)
              refine lv_aload_n hx hb dX12_putsOn_63 rfl (lv_at hl 1 rfl) ?_
              refine lv_iload_n hx hb dX12_putsOn_64 rfl (lv_at hl 2 rfl) ?_
              refine lv_iload_n hx hb dX12_putsOn_65 rfl (lv_at hl 0 rfl) ?_
              refine lv_if_lt (tgt := 81) hx hb dX12_putsOn_66 (of_decide_eq_true rfl) (fun _ => ?_) (fun c => absurd (of_decide_eq_true rfl) c)
              refine lv_iconst (v := (-1)) hx hb dX12_putsOn_81 (of_decide_eq_true rfl) ?_
              have p134 : jmb σ B0 = 1 := (jmb_fr rfl rfl rfl rfl rfl B0).trans hB0
              exact by
               refine jcallV (As := [.int a1, .int (-1)]) (rest := []) ⟨hx, hb, hml, hown, hts⟩ hK hP hA hS hZ (c_X12_turnOf l D cI cL ad zz hJ σ τ B0 p134 a1 (A1) t1 (-1) ((-1)) jz_m1 hI102 hI106 (by omega) (by omega) (by omega) (by omega)) cw_RX12_277 (jc_55 cI cL ad σ τ) rfl ⟨Nat.le_of_ble_eq_true rfl, Nat.le_of_ble_eq_true rfl⟩ rfl rfl rfl hl.1 rfl (Nat.le_of_ble_eq_true rfl) dX12_putsOn_82 ⟨Nat.zero_le _, Nat.zero_le _⟩ (fun r136 σ135 τ135 H locs h135 hP hS => ?_)
               obtain ⟨⟨rfl, rfl⟩, h135⟩ := h135
               have h137 := h135
               obtain ⟨q139, k138⟩ := h137
               exact hret r136 σ τ _ _ _ _ rfl ⟨rfl, (fun _ _ => rfl), (fun _ _ => rfl), hs_jKept, ⟨trivial, (by omega)⟩⟩ hP hS dX12_putsOn_85
            · have kc133 := jnle c133 rfl rfl
              refine lv_aload_n hx hb dX12_putsOn_49 rfl (lv_at hl 0 rfl) ?_
              refine va_get (D := D) hx hb hts inlX12 hown hK hP 55 (jc_55 cI cL ad σ τ) rfl 35 (of_decide_eq_true rfl) (hts _ kw_7_20) (fun _ h9 => h9) rfl dX12_putsOn_50 ?_
              refine lv_bipush (v := 8) hx hb dX12_putsOn_53 (of_decide_eq_true rfl) ?_
              refine lv_iload_n hx hb dX12_putsOn_55 rfl (lv_at hl 1 rfl) ?_
              refine lv_imul hx hb dX12_putsOn_56 ?_
              refine lv_topi (fun x140 ex140 => ?_)
              exact by
               have tx140 : x140.toInt = 8 * A1 := (jmul ex140 jz_8 t1 (by omega) (by omega)).trans (by omega)
               refine jald hx hb hK hP (jc_72 cI cL ad σ τ) (jin tx140 (by omega) (by omega)) dX12_putsOn_57 ?_
               have g141 := w14 _ (jnat (x := x140) tx140 (n := 160) (by omega) (of_decide_eq_true rfl))
               refine jtopr (y := (σ 72 x140.toNatClampNeg)) rfl ?_
               refine lv_goto (tgt := 62) hx hb dX12_putsOn_58 (of_decide_eq_true rfl) ?_
               refine lv_istore_n (lv' := [(2, .int (σ 72 x140.toNatClampNeg)), (0, .ref (ad 55)), (1, .int a1)]) hx hb dX12_putsOn_62 rfl hl (of_decide_eq_true rfl) rfl (fun ls hl => ?_)
               refine lv_aload_n hx hb dX12_putsOn_63 rfl (lv_at hl 1 rfl) ?_
               refine lv_iload_n hx hb dX12_putsOn_64 rfl (lv_at hl 2 rfl) ?_
               refine lv_iload_n hx hb dX12_putsOn_65 rfl (lv_at hl 0 rfl) ?_
               exact by
                refine lv_if_lt (tgt := 81) hx hb dX12_putsOn_66 (of_decide_eq_true rfl) (fun c => absurd (jlt c rfl jz_0) (by omega)) (fun c142 => ?_)
                have kc142 := jnlt c142 rfl jz_0
                refine lv_aload_n hx hb dX12_putsOn_69 rfl (lv_at hl 1 rfl) ?_
                refine lv_iload_n hx hb dX12_putsOn_70 rfl (lv_at hl 0 rfl) ?_
                refine jcallV (As := [.int (σ 72 x140.toNatClampNeg)]) (rest := [.int a1, .ref (ad 55)]) ⟨hx, hb, hml, hown, hts⟩ hK hP hA hS hZ (c_X12_leastBut l D cI cL ad zz hJ σ τ (σ 72 x140.toNatClampNeg) ((σ 72 x140.toNatClampNeg).toInt) rfl hI102) cw_RX12_274 (jc_55 cI cL ad σ τ) rfl ⟨Nat.le_of_ble_eq_true rfl, Nat.le_of_ble_eq_true rfl⟩ rfl rfl rfl hl.1 rfl (Nat.le_of_ble_eq_true rfl) dX12_putsOn_71 ⟨Nat.zero_le _, Nat.zero_le _⟩ (fun r144 σ143 τ143 H locs h143 hP hS => ?_)
                obtain ⟨⟨rfl, rfl⟩, h143⟩ := h143
                rcases h143 with h145 | h146
                · obtain ⟨q151, k147, k148, k149, k150⟩ := h145
                  refine lv_if_lt (tgt := 81) hx hb dX12_putsOn_74 (of_decide_eq_true rfl) (fun c => absurd (jlt c rfl jz_0) (by omega)) (fun c152 => ?_)
                  exact by
                   have kc152 := jnlt c152 rfl jz_0
                   refine lv_iload_n hx hb dX12_putsOn_77 rfl (lv_at hl 0 rfl) ?_
                   refine lv_goto (tgt := 82) hx hb dX12_putsOn_78 (of_decide_eq_true rfl) ?_
                   have p153 : jmb σ r144 = 1 := (jmb_fr rfl rfl rfl rfl rfl r144).trans k150
                   refine jcallV (As := [.int a1, .int (σ 72 x140.toNatClampNeg)]) (rest := []) ⟨hx, hb, hml, hown, hts⟩ hK hP hA hS hZ (c_X12_turnOf l D cI cL ad zz hJ σ τ r144 p153 a1 (A1) t1 (σ 72 x140.toNatClampNeg) ((σ 72 x140.toNatClampNeg).toInt) rfl hI102 hI106 (by omega) (by omega) (by omega) (by omega)) cw_RX12_277 (jc_55 cI cL ad σ τ) rfl ⟨Nat.le_of_ble_eq_true rfl, Nat.le_of_ble_eq_true rfl⟩ rfl rfl rfl hl.1 rfl (Nat.le_of_ble_eq_true rfl) dX12_putsOn_82 ⟨Nat.zero_le _, Nat.zero_le _⟩ (fun r155 σ154 τ154 H locs h154 hP hS => ?_)
                   obtain ⟨⟨rfl, rfl⟩, h154⟩ := h154
                   have h156 := h154
                   obtain ⟨q158, k157⟩ := h156
                   exact hret r155 σ τ _ _ _ _ rfl ⟨rfl, (fun _ _ => rfl), (fun _ _ => rfl), hs_jKept, ⟨trivial, (by omega)⟩⟩ hP hS dX12_putsOn_85
                · exact by
                   obtain ⟨q160, k159⟩ := h146
                   have q160 := q160.symm
                   subst q160
                   refine lv_if_lt (tgt := 81) hx hb dX12_putsOn_74 (of_decide_eq_true rfl) (fun _ => ?_) (fun c => absurd (of_decide_eq_true rfl) c)
                   refine lv_iconst (v := (-1)) hx hb dX12_putsOn_81 (of_decide_eq_true rfl) ?_
                   have p161 : jmb σ B0 = 1 := (jmb_fr rfl rfl rfl rfl rfl B0).trans hB0
                   refine jcallV (As := [.int a1, .int (-1)]) (rest := []) ⟨hx, hb, hml, hown, hts⟩ hK hP hA hS hZ (c_X12_turnOf l D cI cL ad zz hJ σ τ B0 p161 a1 (A1) t1 (-1) ((-1)) jz_m1 hI102 hI106 (by omega) (by omega) (by omega) (by omega)) cw_RX12_277 (jc_55 cI cL ad σ τ) rfl ⟨Nat.le_of_ble_eq_true rfl, Nat.le_of_ble_eq_true rfl⟩ rfl rfl rfl hl.1 rfl (Nat.le_of_ble_eq_true rfl) dX12_putsOn_82 ⟨Nat.zero_le _, Nat.zero_le _⟩ (fun r163 σ162 τ162 H locs h162 hP hS => ?_)
                   obtain ⟨⟨rfl, rfl⟩, h162⟩ := h162
                   have h164 := h162
                   exact by
                    obtain ⟨q166, k165⟩ := h164
                    exact hret r163 σ τ _ _ _ _ rfl ⟨rfl, (fun _ _ => rfl), (fun _ _ => rfl), hs_jKept, ⟨trivial, (by omega)⟩⟩ hP hS dX12_putsOn_85
   · have kc22 := jeq c22 rfl jz_1
     refine lv_aload_n hx hb dX12_putsOn_10 rfl (lv_at hl 0 rfl) ?_
     refine lv_iload_n hx hb dX12_putsOn_11 rfl (lv_at hl 1 rfl) ?_
     refine lv_iconst (v := (-1)) hx hb dX12_putsOn_12 (of_decide_eq_true rfl) ?_
     have p167 : jmb σ B0 = 1 := (jmb_fr rfl rfl rfl rfl rfl B0).trans hB0
     refine jcallV (As := [.int a1, .int (-1)]) (rest := []) ⟨hx, hb, hml, hown, hts⟩ hK hP hA hS hZ (c_X12_turnOf l D cI cL ad zz hJ σ τ B0 p167 a1 (A1) t1 (-1) ((-1)) jz_m1 hI102 hI106 (by omega) (by omega) (by omega) (by omega)) cw_RX12_277 (jc_55 cI cL ad σ τ) rfl ⟨Nat.le_of_ble_eq_true rfl, Nat.le_of_ble_eq_true rfl⟩ rfl rfl rfl hl.1 rfl (Nat.le_of_ble_eq_true rfl) dX12_putsOn_13 ⟨Nat.zero_le _, Nat.zero_le _⟩ (fun r169 σ168 τ168 H locs h168 hP hS => ?_)
     obtain ⟨⟨rfl, rfl⟩, h168⟩ := h168
     exact by
      have h170 := h168
      obtain ⟨q172, k171⟩ := h170
      exact hret r169 σ τ _ _ _ _ rfl ⟨rfl, (fun _ _ => rfl), (fun _ _ => rfl), hs_jKept, ⟨trivial, (by omega)⟩⟩ hP hS dX12_putsOn_16
set_option maxHeartbeats 4000000 in
set_option maxRecDepth 100000 in
theorem c_X12_means_mf_g (l : Launch) (D : va_G) (cI cL : ClassId) (ad zz : Nat → Nat) (hJ : jD ad) (n : Nat) (h_mf : ∀ (σ : Nat → Nat → Int32) (τ : Nat → Nat → Int64) (a1 : Int32) (A1 : Int) (t1 : a1.toInt = A1) (hI101 : jI101 σ) (hI102 : jI102 σ) (hI103 : jI103 σ) (hI104 : jI104 σ) (hI105 : jI105 σ) (hI106 : jI106 σ) (hI120 : jI120 σ) (hs_jKept : jKept σ) (hp0 : 0 ≤ A1 ∧ A1 ≤ 19) (hp1 : (σ 55 12).toInt - (σ 55 26).toInt ≤ 8) (hp2 : (σ 55 12).toInt - (σ 55 26).toInt ≤ (((n) : Nat) : Int)), jM l yX12_meanFrom cX12_meanFrom 9 (some .int) ({ frames := (106 + 4 * (n)), cells := 0, slots := 0, locals := (5261 + 240 * (n)) }) D cI cL ad zz [.ref (ad 55), .int a1] σ τ (fun r σ' τ' => τ = τ' ∧ (∀ i : Nat, (i < 55 ∨ 55 < i) ∧ (i < 66 ∨ 66 < i) ∧ (i < 74 ∨ 78 < i) → σ' i = σ i) ∧ (∀ k : Nat, (k < 18 ∨ 18 < k) ∧ (k < 19 ∨ 19 < k) ∧ (k < 20 ∨ 20 < k) ∧ (k < 21 ∨ 21 < k) ∧ (k < 22 ∨ 22 < k) ∧ (k < 37 ∨ 37 < k) → σ' 55 k = σ 55 k) ∧ (jKept σ') ∧ True)) (σ : Nat → Nat → Int32) (τ : Nat → Nat → Int64) (a1 : Int32) (A1 : Int) (t1 : a1.toInt = A1) (hI101 : jI101 σ) (hI102 : jI102 σ) (hI103 : jI103 σ) (hI104 : jI104 σ) (hI105 : jI105 σ) (hI106 : jI106 σ) (hI120 : jI120 σ) (hs_jKept : jKept σ) (hp0 : 0 ≤ A1 ∧ A1 ≤ 19) (hp1 : (σ 55 12).toInt - (σ 55 26).toInt ≤ 8) (hp2 : (σ 55 12).toInt - (σ 55 26).toInt ≤ (((n + 1) : Nat) : Int)) : jM l yX12_meanFrom cX12_meanFrom 9 (some .int) ({ frames := (106 + 4 * (n + 1)), cells := 0, slots := 0, locals := (5261 + 240 * (n + 1)) }) D cI cL ad zz [.ref (ad 55), .int a1] σ τ (fun r σ' τ' => τ = τ' ∧ (∀ i : Nat, (i < 55 ∨ 55 < i) ∧ (i < 66 ∨ 66 < i) ∧ (i < 74 ∨ 78 < i) → σ' i = σ i) ∧ (∀ k : Nat, (k < 18 ∨ 18 < k) ∧ (k < 19 ∨ 19 < k) ∧ (k < 20 ∨ 20 < k) ∧ (k < 21 ∨ 21 < k) ∧ (k < 22 ∨ 22 < k) ∧ (k < 37 ∨ 37 < k) → σ' 55 k = σ 55 k) ∧ (jKept σ') ∧ True) := by
  refine jM.of hJ (by decide +kernel) (nt := .int) rfl (Nat.le_of_ble_eq_true rfl) ?_
  intro p e s m args below meth c Q ls hC hret hl hP
  obtain ⟨hx, hb, hr, hml, hown, hts, hK, -, hlocks, hZ⟩ := hC
  have hown : s.vm.findClass RX12 = some m.cls := hown
  have hS : va_S (jA ad) s.heap s.heap [] := va_S.rf
  have hA : ∀ q, jA ad q → jA ad q := fun _ h => h
  have hl : lv_has ls 9 [(0, .ref (ad 55)), (1, .int a1)] := hl
  have g1 := jrg t1
  obtain ⟨i1, w2, w3⟩ : (0 ≤ (σ 55 6).toInt ∧ (σ 55 6).toInt ≤ 4) ∧ (∀ k : Nat, k < 4 → 0 ≤ (σ 60 k).toInt ∧ (σ 60 k).toInt ≤ 50) ∧ (∀ k : Nat, k < 4 → 0 ≤ (σ 61 k).toInt ∧ (σ 61 k).toInt ≤ 20) := id hI102
  obtain ⟨i4, i5, i6, w7, w8⟩ : (1 ≤ (σ 55 10).toInt ∧ (σ 55 10).toInt ≤ 8) ∧ (1 ≤ (σ 55 12).toInt ∧ (σ 55 12).toInt ≤ 12) ∧ (0 ≤ (σ 55 13).toInt ∧ (σ 55 13).toInt ≤ 999) ∧ (∀ k : Nat, k < 8 → 0 ≤ (σ 62 k).toInt ∧ (σ 62 k).toInt ≤ 3) ∧ (∀ k : Nat, k < 8 → 0 ≤ (σ 67 k).toInt ∧ (σ 67 k).toInt ≤ 3) := id hI104
  obtain ⟨i9, i10, i11, i12, i13, w14⟩ : (0 ≤ (σ 55 25).toInt) ∧ ((σ 55 25).toInt ≤ (σ 55 10).toInt) ∧ (0 ≤ (σ 55 26).toInt) ∧ ((σ 55 26).toInt ≤ (σ 55 12).toInt) ∧ ((-1) ≤ (σ 55 27).toInt ∧ (σ 55 27).toInt ≤ 3) ∧ (∀ k : Nat, k < 4 → 0 ≤ (σ 68 k).toInt ∧ (σ 68 k).toInt ≤ 3) := id hI120
  refine lv_aload_n hx hb dX12_meanFrom_0 rfl (lv_at hl 0 rfl) ?_
  refine jcallV (As := []) (rest := []) ⟨hx, hb, hml, hown, hts⟩ hK hP hA hS hZ (c_X12_isEnded l D cI cL ad zz hJ σ τ hI102 hI104 hI120) cw_RX12_307 (jc_55 cI cL ad σ τ) rfl ⟨by dsimp only; omega, by dsimp only; omega⟩ rfl rfl rfl hl.1 rfl (Nat.le_of_ble_eq_true rfl) dX12_meanFrom_1 ⟨Nat.zero_le _, Nat.zero_le _⟩ (fun r16 σ15 τ15 H locs h15 hP hS => ?_)
  obtain ⟨⟨rfl, rfl⟩, h15⟩ := h15
  rcases h15 with h17 | h18
  · obtain ⟨q20, k19⟩ := h17
    have q20 := q20.symm
    subst q20
    refine lv_if_eq (tgt := 9) hx hb dX12_meanFrom_4 (of_decide_eq_true rfl) (fun c => absurd c (of_decide_eq_true rfl)) (fun _ => ?_)
    refine lv_iconst (v := 0) hx hb dX12_meanFrom_7 (of_decide_eq_true rfl) ?_
    exact hret 0 σ τ _ _ _ _ rfl ⟨rfl, (fun _ _ => rfl), (fun _ _ => rfl), hs_jKept, trivial⟩ hP hS dX12_meanFrom_8
  · obtain ⟨q24, k21, k22, k23⟩ := h18
    have q24 := q24.symm
    subst q24
    obtain ⟨B25, k26, k27, w28⟩ := k23
    refine lv_if_eq (tgt := 9) hx hb dX12_meanFrom_4 (of_decide_eq_true rfl) (fun _ => ?_) (fun c => absurd (of_decide_eq_true rfl) c)
    refine lv_aload_n hx hb dX12_meanFrom_9 rfl (lv_at hl 0 rfl) ?_
    refine lv_iload_n hx hb dX12_meanFrom_10 rfl (lv_at hl 1 rfl) ?_
    have p29 : jmb σ B25 = 1 := (jmb_fr rfl rfl rfl rfl rfl B25).trans w28
    exact by
     refine jcallV (As := [.int a1]) (rest := []) ⟨hx, hb, hml, hown, hts⟩ hK hP hA hS hZ (c_X12_putsOn l D cI cL ad zz hJ σ τ B25 p29 a1 (A1) t1 hI101 hI102 hI103 hI104 hI105 hI106 hI120 hs_jKept (by omega) (by omega) (by omega) (by omega) (by omega)) cw_RX12_321 (jc_55 cI cL ad σ τ) rfl ⟨by dsimp only; omega, by dsimp only; omega⟩ rfl rfl rfl hl.1 rfl (Nat.le_of_ble_eq_true rfl) dX12_meanFrom_11 ⟨Nat.zero_le _, Nat.zero_le _⟩ (fun r31 σ30 τ30 H locs h30 hP hS => ?_)
     obtain ⟨rfl, f32, f33, p34, h30⟩ := h30
     have h36 := h30
     obtain ⟨q38, k37⟩ := h36
     refine lv_istore_n (lv' := [(2, .int r31), (0, .ref (ad 55)), (1, .int a1)]) hx hb dX12_meanFrom_14 rfl hl (of_decide_eq_true rfl) rfl (fun ls hl => ?_)
     refine lv_aload_n hx hb dX12_meanFrom_15 rfl (lv_at hl 1 rfl) ?_
     refine va_get (D := D) hx hb hts inlX12 hown hK hP 55 (jc_55 cI cL ad σ30 τ) rfl 11 (of_decide_eq_true rfl) (hts _ kw_7_8) (fun _ h9 => h9) rfl dX12_meanFrom_16 ?_
     refine lv_aload_n hx hb dX12_meanFrom_19 rfl (lv_at hl 1 rfl) ?_
     refine va_get (D := D) hx hb hts inlX12 hown hK hP 55 (jc_55 cI cL ad σ30 τ) rfl 25 (of_decide_eq_true rfl) (hts _ kw_23_6) (fun _ h9 => h9) rfl dX12_meanFrom_20 ?_
     have m39 : σ30 55 25 = (σ 55 25) := (f33 25 (of_decide_eq_true rfl))
     refine jtopr m39 ?_
     exact by
      refine jald hx hb hK hP (jc_62 cI cL ad σ30 τ) (jin rfl (by omega) (by omega)) dX12_meanFrom_23 ?_
      have w40 : ∀ k : Nat, k < 8 → 0 ≤ (σ30 62 k).toInt ∧ (σ30 62 k).toInt ≤ 3 := (jrr_fr (f32 62 (of_decide_eq_true rfl)) w7)
      have g41 := w40 _ (jnat (x := (σ 55 25)) rfl (n := 8) (by omega) (of_decide_eq_true rfl))
      refine lv_topi (fun x42 ex42 => ?_)
      rw [← ex42] at g41
      refine lv_istore_n (lv' := [(3, .int x42), (2, .int r31), (0, .ref (ad 55)), (1, .int a1)]) hx hb dX12_meanFrom_24 rfl hl (of_decide_eq_true rfl) rfl (fun ls hl => ?_)
      refine lv_aload_n hx hb dX12_meanFrom_25 rfl (lv_at hl 2 rfl) ?_
      refine lv_iload_n hx hb dX12_meanFrom_26 rfl (lv_at hl 1 rfl) ?_
      refine lv_iload_n hx hb dX12_meanFrom_27 rfl (lv_at hl 0 rfl) ?_
      exact by
       have I43 : jI101 σ30 := jI101_fr (f33 4 (of_decide_eq_true rfl)) (f33 5 (of_decide_eq_true rfl)) (f32 56 (of_decide_eq_true rfl)) (f32 57 (of_decide_eq_true rfl)) (f32 58 (of_decide_eq_true rfl)) (f32 59 (of_decide_eq_true rfl)) hI101
       have I44 : jI102 σ30 := jI102_fr (f33 6 (of_decide_eq_true rfl)) (f32 60 (of_decide_eq_true rfl)) (f32 61 (of_decide_eq_true rfl)) hI102
       have I45 : jI103 σ30 := jI103_fr (f33 9 (of_decide_eq_true rfl)) hI103
       have I46 : jI105 σ30 := jI105_fr (f33 15 (of_decide_eq_true rfl)) (f32 65 (of_decide_eq_true rfl)) hI105
       have w47 : ∀ k : Nat, k < 4 → 0 ≤ (σ30 68 k).toInt ∧ (σ30 68 k).toInt ≤ 3 := (jrr_fr (f32 68 (of_decide_eq_true rfl)) w14)
       refine jcallV (As := [.int r31, .int x42]) (rest := []) ⟨hx, hb, hml, hown, hts⟩ hK hP hA hS hZ (c_X12_outBy l D cI cL ad zz hJ σ30 τ r31 (r31.toInt) rfl x42 (x42.toInt) rfl I43 I44 I45 I46 w47 (by omega) (by omega)) cw_RX12_259 (jc_55 cI cL ad σ30 τ) rfl ⟨by dsimp only; omega, by dsimp only; omega⟩ rfl rfl rfl hl.1 rfl (Nat.le_of_ble_eq_true rfl) dX12_meanFrom_28 ⟨Nat.zero_le _, Nat.zero_le _⟩ (fun r49 σ48 τ48 H locs h48 hP hS => ?_)
       obtain ⟨rfl, f50, f51, h48⟩ := h48
       have h53 := h48
       obtain ⟨q55, k54⟩ := h53
       exact by
        refine lv_istore (lv' := [(4, .int r49), (3, .int x42), (2, .int r31), (0, .ref (ad 55)), (1, .int a1)]) hx hb dX12_meanFrom_31 hl (of_decide_eq_true rfl) rfl (fun ls hl => ?_)
        refine lv_sipush (v := 1000) hx hb dX12_meanFrom_33 (of_decide_eq_true rfl) ?_
        refine lv_aload_n hx hb dX12_meanFrom_36 rfl (lv_at hl 3 rfl) ?_
        refine lv_iload_n hx hb dX12_meanFrom_37 rfl (lv_at hl 2 rfl) ?_
        refine lv_iload_n hx hb dX12_meanFrom_38 rfl (lv_at hl 1 rfl) ?_
        have I56 : jI101 σ48 := jI101_fr (f51 4 (of_decide_eq_true rfl)) (f51 5 (of_decide_eq_true rfl)) (f50 56 (of_decide_eq_true rfl)) (f50 57 (of_decide_eq_true rfl)) (f50 58 (of_decide_eq_true rfl)) (f50 59 (of_decide_eq_true rfl)) I43
        have I57 : jI102 σ48 := jI102_fr (f51 6 (of_decide_eq_true rfl)) (f50 60 (of_decide_eq_true rfl)) (f50 61 (of_decide_eq_true rfl)) I44
        have I58 : jI103 σ48 := jI103_fr (f51 9 (of_decide_eq_true rfl)) I45
        have w59 : ∀ k : Nat, k < 4 → 0 ≤ (σ48 68 k).toInt ∧ (σ48 68 k).toInt ≤ 3 := (jrr_fr (f50 68 (of_decide_eq_true rfl)) w47)
        exact by
         refine jcallV (As := [.int r31, .int x42]) (rest := [.int 1000]) ⟨hx, hb, hml, hown, hts⟩ hK hP hA hS hZ (c_X12_runsBy l D cI cL ad zz hJ σ48 τ r31 (r31.toInt) rfl x42 (x42.toInt) rfl I56 I57 I58 w59 (by omega) (by omega)) cw_RX12_262 (jc_55 cI cL ad σ48 τ) rfl ⟨by dsimp only; omega, by dsimp only; omega⟩ rfl rfl rfl hl.1 rfl (Nat.le_of_ble_eq_true rfl) dX12_meanFrom_39 ⟨Nat.zero_le _, Nat.zero_le _⟩ (fun r61 σ60 τ60 H locs h60 hP hS => ?_)
         obtain ⟨⟨rfl, rfl⟩, h60⟩ := h60
         have h62 := h60
         obtain ⟨q64, k63⟩ := h62
         have g65 := jrg (rfl : r61.toInt = r61.toInt)
         refine lv_imul hx hb dX12_meanFrom_42 ?_
         refine lv_topi (fun x66 ex66 => ?_)
         have tx66 : x66.toInt = 1000 * r61.toInt := (jmul ex66 jz_1000 rfl (by omega) (by omega)).trans (by omega)
         refine lv_istore (lv' := [(5, .int x66), (4, .int r49), (3, .int x42), (2, .int r31), (0, .ref (ad 55)), (1, .int a1)]) hx hb dX12_meanFrom_43 hl (of_decide_eq_true rfl) rfl (fun ls hl => ?_)
         exact by
          refine lv_aload_n hx hb dX12_meanFrom_45 rfl (lv_at hl 4 rfl) ?_
          refine lv_iload_n hx hb dX12_meanFrom_46 rfl (lv_at hl 3 rfl) ?_
          refine lv_iconst (v := 1) hx hb dX12_meanFrom_47 (of_decide_eq_true rfl) ?_
          have z67 : (σ48 55 6).toInt = (σ 55 6).toInt := (congrArg Int32.toInt (show σ48 55 6 = (σ 55 6) from ((f51 6 (of_decide_eq_true rfl)).trans (f33 6 (of_decide_eq_true rfl)))))
          have z68 : (σ48 55 27).toInt = (σ 55 27).toInt := (congrArg Int32.toInt (show σ48 55 27 = (σ 55 27) from ((f51 27 (of_decide_eq_true rfl)).trans (f33 27 (of_decide_eq_true rfl)))))
          have z69 : (σ48 55 25).toInt = (σ 55 25).toInt := (congrArg Int32.toInt (show σ48 55 25 = (σ 55 25) from ((f51 25 (of_decide_eq_true rfl)).trans m39)))
          have z70 : (σ48 55 26).toInt = (σ 55 26).toInt := (congrArg Int32.toInt (show σ48 55 26 = (σ 55 26) from ((f51 26 (of_decide_eq_true rfl)).trans (f33 26 (of_decide_eq_true rfl)))))
          have z71 : (σ48 68 0).toInt = (σ 68 0).toInt := (congrArg Int32.toInt (show σ48 68 0 = (σ 68 0) from ((congrFun (f50 68 (of_decide_eq_true rfl)) 0).trans (congrFun (f32 68 (of_decide_eq_true rfl)) 0))))
          have z72 : (σ48 68 1).toInt = (σ 68 1).toInt := (congrArg Int32.toInt (show σ48 68 1 = (σ 68 1) from ((congrFun (f50 68 (of_decide_eq_true rfl)) 1).trans (congrFun (f32 68 (of_decide_eq_true rfl)) 1))))
          have z73 : (σ48 68 2).toInt = (σ 68 2).toInt := (congrArg Int32.toInt (show σ48 68 2 = (σ 68 2) from ((congrFun (f50 68 (of_decide_eq_true rfl)) 2).trans (congrFun (f32 68 (of_decide_eq_true rfl)) 2))))
          have z74 : (σ48 68 3).toInt = (σ 68 3).toInt := (congrArg Int32.toInt (show σ48 68 3 = (σ 68 3) from ((congrFun (f50 68 (of_decide_eq_true rfl)) 3).trans (congrFun (f32 68 (of_decide_eq_true rfl)) 3))))
          exact by
           refine jcallV (As := [.int r31, .int 1]) (rest := []) ⟨hx, hb, hml, hown, hts⟩ hK hP hA hS hZ (c_X12_goes_1 l D cI cL ad zz hJ σ48 τ r31 (r31.toInt) rfl w59 (by omega) (by omega) (by omega) (by omega) (by omega)) cw_RX12_296 (jc_55 cI cL ad σ48 τ) rfl ⟨by dsimp only; omega, by dsimp only; omega⟩ rfl rfl rfl hl.1 rfl (Nat.le_of_ble_eq_true rfl) dX12_meanFrom_48 ⟨Nat.zero_le _, Nat.zero_le _⟩ (fun r76 σ75 τ75 H locs h75 hP hS => ?_)
           obtain ⟨rfl, f77, f78, w79, w80, w81, h75⟩ := h75
           obtain ⟨k83, k84, k85, h75⟩ := h75
           have h86 := h75
           obtain ⟨q92, k87, k88, k89, k90, k91⟩ := h86
           refine lv_istore (lv' := [(6, .int r76), (5, .int x66), (4, .int r49), (3, .int x42), (2, .int r31), (0, .ref (ad 55)), (1, .int a1)]) hx hb dX12_meanFrom_51 hl (of_decide_eq_true rfl) rfl (fun ls hl => ?_)
           refine lv_aload_n hx hb dX12_meanFrom_53 rfl (lv_at hl 5 rfl) ?_
           refine lv_iload_n hx hb dX12_meanFrom_54 rfl (lv_at hl 6 rfl) ?_
           have I93 : jI101 σ75 := jI101_fr (f78 4 (of_decide_eq_true rfl)) (f78 5 (of_decide_eq_true rfl)) (f77 56 (of_decide_eq_true rfl)) (f77 57 (of_decide_eq_true rfl)) (f77 58 (of_decide_eq_true rfl)) (f77 59 (of_decide_eq_true rfl)) I56
           have I94 : jI102 σ75 := jI102_fr (f78 6 (of_decide_eq_true rfl)) (f77 60 (of_decide_eq_true rfl)) (f77 61 (of_decide_eq_true rfl)) I57
           have I95 : jI103 σ75 := jI103_fr (f78 9 (of_decide_eq_true rfl)) I58
           have I96 : jI104 σ75 := jI104_fr ((f78 10 (of_decide_eq_true rfl)).trans ((f51 10 (of_decide_eq_true rfl)).trans (f33 10 (of_decide_eq_true rfl)))) ((f78 12 (of_decide_eq_true rfl)).trans ((f51 12 (of_decide_eq_true rfl)).trans (f33 12 (of_decide_eq_true rfl)))) ((f78 13 (of_decide_eq_true rfl)).trans ((f51 13 (of_decide_eq_true rfl)).trans (f33 13 (of_decide_eq_true rfl)))) ((f77 62 (of_decide_eq_true rfl)).trans ((f50 62 (of_decide_eq_true rfl)).trans (f32 62 (of_decide_eq_true rfl)))) ((f77 67 (of_decide_eq_true rfl)).trans ((f50 67 (of_decide_eq_true rfl)).trans (f32 67 (of_decide_eq_true rfl)))) hI104
           have I97 : jI105 σ75 := jI105_fr ((f78 15 (of_decide_eq_true rfl)).trans (f51 15 (of_decide_eq_true rfl))) ((f77 65 (of_decide_eq_true rfl)).trans (f50 65 (of_decide_eq_true rfl))) I46
           have I98 : jI106 σ75 := jI106_fr ((f78 32 (of_decide_eq_true rfl)).trans ((f51 32 (of_decide_eq_true rfl)).trans (f33 32 (of_decide_eq_true rfl)))) ((f77 70 (of_decide_eq_true rfl)).trans ((f50 70 (of_decide_eq_true rfl)).trans (f32 70 (of_decide_eq_true rfl)))) ((f77 71 (of_decide_eq_true rfl)).trans ((f50 71 (of_decide_eq_true rfl)).trans (f32 71 (of_decide_eq_true rfl)))) ((f77 72 (of_decide_eq_true rfl)).trans ((f50 72 (of_decide_eq_true rfl)).trans (f32 72 (of_decide_eq_true rfl)))) hI106
           have z99 : (σ75 55 10).toInt = (σ 55 10).toInt := (congrArg Int32.toInt (show σ75 55 10 = (σ 55 10) from ((f78 10 (of_decide_eq_true rfl)).trans ((f51 10 (of_decide_eq_true rfl)).trans (f33 10 (of_decide_eq_true rfl))))))
           have z100 : (σ75 55 12).toInt = (σ 55 12).toInt := (congrArg Int32.toInt (show σ75 55 12 = (σ 55 12) from ((f78 12 (of_decide_eq_true rfl)).trans ((f51 12 (of_decide_eq_true rfl)).trans (f33 12 (of_decide_eq_true rfl))))))
           exact by
            have I101 : jI120 σ75 := ⟨(by omega), (by omega), (by omega), (by omega), (by omega), w79⟩
            have p102 : jKept σ75 := jKept.fr ((f77 75 (of_decide_eq_true rfl)).trans (f50 75 (of_decide_eq_true rfl))) ((f77 76 (of_decide_eq_true rfl)).trans (f50 76 (of_decide_eq_true rfl))) ((f77 77 (of_decide_eq_true rfl)).trans (f50 77 (of_decide_eq_true rfl))) p34
            refine jcallV (As := [.int a1]) (rest := []) ⟨hx, hb, hml, hown, hts⟩ hK hP hA hS hZ (h_mf σ75 τ a1 (A1) t1 I93 I94 I95 I96 I97 I98 I101 p102 (by omega) (by omega) (by omega)) cw_RX12_324 (jc_55 cI cL ad σ75 τ) rfl ⟨by dsimp only; omega, by dsimp only; omega⟩ rfl rfl rfl hl.1 rfl (Nat.le_of_ble_eq_true rfl) dX12_meanFrom_55 ⟨Nat.zero_le _, Nat.zero_le _⟩ (fun r104 σ103 τ103 H locs h103 hP hS => ?_)
            obtain ⟨rfl, f105, f106, p107, h103⟩ := h103
            refine lv_istore (lv' := [(7, .int r104), (6, .int r76), (5, .int x66), (4, .int r49), (3, .int x42), (2, .int r31), (0, .ref (ad 55)), (1, .int a1)]) hx hb dX12_meanFrom_58 hl (of_decide_eq_true rfl) rfl (fun ls hl => ?_)
            refine lv_aload_n hx hb dX12_meanFrom_60 rfl (lv_at hl 6 rfl) ?_
            refine lv_iload_n hx hb dX12_meanFrom_61 rfl (lv_at hl 5 rfl) ?_
            refine lv_iconst (v := 1) hx hb dX12_meanFrom_62 (of_decide_eq_true rfl) ?_
            refine lv_iload hx hb dX12_meanFrom_63 (lv_at hl 1 rfl) ?_
            exact by
             have w109 : ∀ k : Nat, k < 4 → 0 ≤ (σ103 68 k).toInt ∧ (σ103 68 k).toInt ≤ 3 := (jrr_fr (f105 68 (of_decide_eq_true rfl)) w79)
             have z110 : (σ103 55 25).toInt = (σ75 55 25).toInt := (congrArg Int32.toInt (show σ103 55 25 = (σ75 55 25) from (f106 25 (of_decide_eq_true rfl))))
             have z111 : (σ103 55 26).toInt = (σ75 55 26).toInt := (congrArg Int32.toInt (show σ103 55 26 = (σ75 55 26) from (f106 26 (of_decide_eq_true rfl))))
             have z112 : (σ103 55 6).toInt = (σ 55 6).toInt := (congrArg Int32.toInt (show σ103 55 6 = (σ 55 6) from ((f106 6 (of_decide_eq_true rfl)).trans ((f78 6 (of_decide_eq_true rfl)).trans ((f51 6 (of_decide_eq_true rfl)).trans (f33 6 (of_decide_eq_true rfl)))))))
             have w113 : ∀ k : Nat, k < 4 → 0 ≤ (σ48 68 k).toInt ∧ (σ48 68 k).toInt ≤ 3 := w59
             have z115 : (σ48 55 27).toInt = (σ 55 27).toInt := (congrArg Int32.toInt (show σ48 55 27 = (σ 55 27) from ((f51 27 (of_decide_eq_true rfl)).trans (f33 27 (of_decide_eq_true rfl)))))
             have k114 := jwas (by omega) (w113 0 (of_decide_eq_true rfl)) (w113 1 (of_decide_eq_true rfl)) (w113 2 (of_decide_eq_true rfl)) (w113 3 (of_decide_eq_true rfl)) k87
             rw [← (show σ103 55 6 = σ48 55 6 from ((f106 6 (of_decide_eq_true rfl)).trans (f78 6 (of_decide_eq_true rfl))))] at k114
             refine jcallVv (As := [.int r31, .int 1, .int r76]) (rest := []) ⟨hx, hb, hml, hown, hts⟩ hK hP hA hS hZ (c_X12_goesBack_1 l D cI cL ad zz hJ σ103 τ r31 (r31.toInt) rfl r76 (r76.toInt) rfl w109 (by omega) (by omega) (by omega) k114) cw_RX12_300 (jc_55 cI cL ad σ103 τ) rfl ⟨by dsimp only; omega, by dsimp only; omega⟩ rfl rfl rfl hl.1 rfl (Nat.le_of_ble_eq_true rfl) dX12_meanFrom_65 ⟨Nat.zero_le _, Nat.zero_le _⟩ (fun σ116 τ116 H locs h116 hP hS => ?_)
             exact by
              obtain ⟨rfl, f118, f119, w120, w121, w122, h116⟩ := h116
              obtain ⟨k124, k125, k126, k127, h116⟩ := h116
              have p128 : jKept σ116 := jKept.fr (f118 75 (of_decide_eq_true rfl)) (f118 76 (of_decide_eq_true rfl)) (f118 77 (of_decide_eq_true rfl)) p107
              have e129 : σ103 69 = σ75 69 := (f105 69 (of_decide_eq_true rfl))
              have e130 : σ116 69 = σ48 69 := jback69 w80 e129 w121
              have e131 : σ103 68 = σ75 68 := (f105 68 (of_decide_eq_true rfl))
              have e132 : σ103 55 6 = σ48 55 6 := ((f106 6 (of_decide_eq_true rfl)).trans (f78 6 (of_decide_eq_true rfl)))
              have w140 : ∀ k : Nat, k < 4 → 0 ≤ (σ48 68 k).toInt ∧ (σ48 68 k).toInt ≤ 3 := w59
              have w141 : ∀ k : Nat, k < 4 → 0 ≤ (σ116 68 k).toInt ∧ (σ116 68 k).toInt ≤ 3 := w120
              have k142 := k127
              rw [e132] at k142
              have D133 := jdig (w140 0 (of_decide_eq_true rfl)) (w140 1 (of_decide_eq_true rfl)) (w140 2 (of_decide_eq_true rfl)) (w140 3 (of_decide_eq_true rfl)) (w141 0 (of_decide_eq_true rfl)) (w141 1 (of_decide_eq_true rfl)) (w141 2 (of_decide_eq_true rfl)) (w141 3 (of_decide_eq_true rfl)) k87 k142
              exact by
               have e134 : σ116 55 27 = σ48 55 27 := Int32.toInt_inj.mp (by have h9 := D133.1; omega)
               have z143 : (σ103 55 26).toInt = (σ75 55 26).toInt := (congrArg Int32.toInt (show σ103 55 26 = (σ75 55 26) from (f106 26 (of_decide_eq_true rfl))))
               have z144 : (σ48 55 26).toInt = (σ 55 26).toInt := (congrArg Int32.toInt (show σ48 55 26 = (σ 55 26) from ((f51 26 (of_decide_eq_true rfl)).trans (f33 26 (of_decide_eq_true rfl)))))
               have z145 : (σ103 55 25).toInt = (σ75 55 25).toInt := (congrArg Int32.toInt (show σ103 55 25 = (σ75 55 25) from (f106 25 (of_decide_eq_true rfl))))
               have z146 : (σ48 55 25).toInt = (σ 55 25).toInt := (congrArg Int32.toInt (show σ48 55 25 = (σ 55 25) from ((f51 25 (of_decide_eq_true rfl)).trans (f33 25 (of_decide_eq_true rfl)))))
               have e135 : σ116 55 26 = σ48 55 26 := Int32.toInt_inj.mp (by omega)
               have e136 : σ116 55 25 = σ48 55 25 := Int32.toInt_inj.mp (by omega)
               have z147 : (σ48 55 6).toInt = (σ 55 6).toInt := (congrArg Int32.toInt (show σ48 55 6 = (σ 55 6) from ((f51 6 (of_decide_eq_true rfl)).trans (f33 6 (of_decide_eq_true rfl)))))
               have e137 : σ116 68 = σ48 68 := jback68 (nb := (σ48 55 6).toInt) (by omega) w81 e131 (fun k hk => w122 k (by rw [e132]; exact hk)) D133.2
               exact by
                have f138 : (∀ i : Nat, (i < 55 ∨ 55 < i) ∧ (i < 66 ∨ 66 < i) ∧ (i < 74 ∨ 78 < i) → σ116 i = σ48 i) := fun i hi0 => by
                  by_cases h8 : i = 68
                  · rw [h8]; exact e137
                  by_cases h9 : i = 69
                  · rw [h9]; exact e130
                  have hi : ((i < 55 ∨ 55 < i) ∧ (i < 66 ∨ 66 < i) ∧ (i < 74 ∨ 78 < i)) ∧ i ≠ 68 ∧ i ≠ 69 := ⟨hi0, h8, h9⟩
                  exact ((f118 i (imp_200 i hi)).trans ((f105 i (imp_201 i hi)).trans (f77 i (imp_200 i hi))))
                have f139 : ∀ i : Nat, (i < 18 ∨ 18 < i) ∧ (i < 19 ∨ 19 < i) ∧ (i < 20 ∨ 20 < i) ∧ (i < 21 ∨ 21 < i) ∧ (i < 22 ∨ 22 < i) ∧ (i < 37 ∨ 37 < i) → σ116 55 i = σ48 55 i := fun i hi0 => by
                  by_cases h25 : i = 25
                  · rw [h25]; exact e136
                  by_cases h26 : i = 26
                  · rw [h26]; exact e135
                  by_cases h27 : i = 27
                  · rw [h27]; exact e134
                  have hi : ((i < 18 ∨ 18 < i) ∧ (i < 19 ∨ 19 < i) ∧ (i < 20 ∨ 20 < i) ∧ (i < 21 ∨ 21 < i) ∧ (i < 22 ∨ 22 < i) ∧ (i < 37 ∨ 37 < i)) ∧ i ≠ 25 ∧ i ≠ 26 ∧ i ≠ 27 := ⟨hi0, h25, h26, h27⟩
                  exact ((f119 i (imp_202 i hi)).trans ((f106 i (imp_203 i hi)).trans (f78 i (imp_202 i hi))))
                clear k142 k127 k87
                refine lv_aload_n hx hb dX12_meanFrom_68 rfl (lv_at hl 6 rfl) ?_
                refine lv_iload_n hx hb dX12_meanFrom_69 rfl (lv_at hl 5 rfl) ?_
                refine lv_iconst (v := 0) hx hb dX12_meanFrom_70 (of_decide_eq_true rfl) ?_
                have w148 : ∀ k : Nat, k < 4 → 0 ≤ (σ116 68 k).toInt ∧ (σ116 68 k).toInt ≤ 3 := (jrr_fr (f138 68 (of_decide_eq_true rfl)) w59)
                have z149 : (σ116 55 6).toInt = (σ 55 6).toInt := (congrArg Int32.toInt (show σ116 55 6 = (σ 55 6) from ((f139 6 (of_decide_eq_true rfl)).trans ((f51 6 (of_decide_eq_true rfl)).trans (f33 6 (of_decide_eq_true rfl))))))
                have z150 : (σ116 55 27).toInt = (σ 55 27).toInt := (congrArg Int32.toInt (show σ116 55 27 = (σ 55 27) from ((f139 27 (of_decide_eq_true rfl)).trans ((f51 27 (of_decide_eq_true rfl)).trans (f33 27 (of_decide_eq_true rfl))))))
                have z151 : (σ116 55 25).toInt = (σ 55 25).toInt := (congrArg Int32.toInt (show σ116 55 25 = (σ 55 25) from ((f139 25 (of_decide_eq_true rfl)).trans ((f51 25 (of_decide_eq_true rfl)).trans m39))))
                have z152 : (σ116 55 26).toInt = (σ 55 26).toInt := (congrArg Int32.toInt (show σ116 55 26 = (σ 55 26) from ((f139 26 (of_decide_eq_true rfl)).trans ((f51 26 (of_decide_eq_true rfl)).trans (f33 26 (of_decide_eq_true rfl))))))
                have z153 : (σ116 68 0).toInt = (σ 68 0).toInt := (congrArg Int32.toInt (show σ116 68 0 = (σ 68 0) from ((congrFun (f138 68 (of_decide_eq_true rfl)) 0).trans ((congrFun (f50 68 (of_decide_eq_true rfl)) 0).trans (congrFun (f32 68 (of_decide_eq_true rfl)) 0)))))
                have z154 : (σ116 68 1).toInt = (σ 68 1).toInt := (congrArg Int32.toInt (show σ116 68 1 = (σ 68 1) from ((congrFun (f138 68 (of_decide_eq_true rfl)) 1).trans ((congrFun (f50 68 (of_decide_eq_true rfl)) 1).trans (congrFun (f32 68 (of_decide_eq_true rfl)) 1)))))
                have z155 : (σ116 68 2).toInt = (σ 68 2).toInt := (congrArg Int32.toInt (show σ116 68 2 = (σ 68 2) from ((congrFun (f138 68 (of_decide_eq_true rfl)) 2).trans ((congrFun (f50 68 (of_decide_eq_true rfl)) 2).trans (congrFun (f32 68 (of_decide_eq_true rfl)) 2)))))
                have z156 : (σ116 68 3).toInt = (σ 68 3).toInt := (congrArg Int32.toInt (show σ116 68 3 = (σ 68 3) from ((congrFun (f138 68 (of_decide_eq_true rfl)) 3).trans ((congrFun (f50 68 (of_decide_eq_true rfl)) 3).trans (congrFun (f32 68 (of_decide_eq_true rfl)) 3)))))
                exact by
                 refine jcallV (As := [.int r31, .int 0]) (rest := []) ⟨hx, hb, hml, hown, hts⟩ hK hP hA hS hZ (c_X12_goes_0 l D cI cL ad zz hJ σ116 τ r31 (r31.toInt) rfl w148 (by omega) (by omega) (by omega) (by omega) (by omega)) cw_RX12_296 (jc_55 cI cL ad σ116 τ) rfl ⟨by dsimp only; omega, by dsimp only; omega⟩ rfl rfl rfl hl.1 rfl (Nat.le_of_ble_eq_true rfl) dX12_meanFrom_71 ⟨Nat.zero_le _, Nat.zero_le _⟩ (fun r158 σ157 τ157 H locs h157 hP hS => ?_)
                 obtain ⟨rfl, f159, f160, w161, w162, w163, h157⟩ := h157
                 obtain ⟨k165, k166, k167, h157⟩ := h157
                 have h168 := h157
                 obtain ⟨q174, k169, k170, k171, k172, k173⟩ := h168
                 refine lv_istore (lv' := [(6, .int r158), (7, .int r104), (5, .int x66), (4, .int r49), (3, .int x42), (2, .int r31), (0, .ref (ad 55)), (1, .int a1)]) hx hb dX12_meanFrom_74 hl (of_decide_eq_true rfl) rfl (fun ls hl => ?_)
                 refine lv_aload_n hx hb dX12_meanFrom_76 rfl (lv_at hl 6 rfl) ?_
                 refine lv_iload_n hx hb dX12_meanFrom_77 rfl (lv_at hl 7 rfl) ?_
                 have I175 : jI101 σ157 := jI101_fr ((f160 4 (of_decide_eq_true rfl)).trans (f139 4 (of_decide_eq_true rfl))) ((f160 5 (of_decide_eq_true rfl)).trans (f139 5 (of_decide_eq_true rfl))) ((f159 56 (of_decide_eq_true rfl)).trans (f138 56 (of_decide_eq_true rfl))) ((f159 57 (of_decide_eq_true rfl)).trans (f138 57 (of_decide_eq_true rfl))) ((f159 58 (of_decide_eq_true rfl)).trans (f138 58 (of_decide_eq_true rfl))) ((f159 59 (of_decide_eq_true rfl)).trans (f138 59 (of_decide_eq_true rfl))) I56
                 have I176 : jI102 σ157 := jI102_fr ((f160 6 (of_decide_eq_true rfl)).trans (f139 6 (of_decide_eq_true rfl))) ((f159 60 (of_decide_eq_true rfl)).trans (f138 60 (of_decide_eq_true rfl))) ((f159 61 (of_decide_eq_true rfl)).trans (f138 61 (of_decide_eq_true rfl))) I57
                 have I177 : jI103 σ157 := jI103_fr ((f160 9 (of_decide_eq_true rfl)).trans (f139 9 (of_decide_eq_true rfl))) I58
                 have I178 : jI104 σ157 := jI104_fr ((f160 10 (of_decide_eq_true rfl)).trans ((f139 10 (of_decide_eq_true rfl)).trans ((f51 10 (of_decide_eq_true rfl)).trans (f33 10 (of_decide_eq_true rfl))))) ((f160 12 (of_decide_eq_true rfl)).trans ((f139 12 (of_decide_eq_true rfl)).trans ((f51 12 (of_decide_eq_true rfl)).trans (f33 12 (of_decide_eq_true rfl))))) ((f160 13 (of_decide_eq_true rfl)).trans ((f139 13 (of_decide_eq_true rfl)).trans ((f51 13 (of_decide_eq_true rfl)).trans (f33 13 (of_decide_eq_true rfl))))) ((f159 62 (of_decide_eq_true rfl)).trans ((f138 62 (of_decide_eq_true rfl)).trans ((f50 62 (of_decide_eq_true rfl)).trans (f32 62 (of_decide_eq_true rfl))))) ((f159 67 (of_decide_eq_true rfl)).trans ((f138 67 (of_decide_eq_true rfl)).trans ((f50 67 (of_decide_eq_true rfl)).trans (f32 67 (of_decide_eq_true rfl))))) hI104
                 have I179 : jI105 σ157 := jI105_fr ((f160 15 (of_decide_eq_true rfl)).trans ((f139 15 (of_decide_eq_true rfl)).trans (f51 15 (of_decide_eq_true rfl)))) ((f159 65 (of_decide_eq_true rfl)).trans ((f138 65 (of_decide_eq_true rfl)).trans (f50 65 (of_decide_eq_true rfl)))) I46
                 have I180 : jI106 σ157 := jI106_fr ((f160 32 (of_decide_eq_true rfl)).trans ((f139 32 (of_decide_eq_true rfl)).trans ((f51 32 (of_decide_eq_true rfl)).trans (f33 32 (of_decide_eq_true rfl))))) ((f159 70 (of_decide_eq_true rfl)).trans ((f138 70 (of_decide_eq_true rfl)).trans ((f50 70 (of_decide_eq_true rfl)).trans (f32 70 (of_decide_eq_true rfl))))) ((f159 71 (of_decide_eq_true rfl)).trans ((f138 71 (of_decide_eq_true rfl)).trans ((f50 71 (of_decide_eq_true rfl)).trans (f32 71 (of_decide_eq_true rfl))))) ((f159 72 (of_decide_eq_true rfl)).trans ((f138 72 (of_decide_eq_true rfl)).trans ((f50 72 (of_decide_eq_true rfl)).trans (f32 72 (of_decide_eq_true rfl))))) hI106
                 have z181 : (σ157 55 10).toInt = (σ 55 10).toInt := (congrArg Int32.toInt (show σ157 55 10 = (σ 55 10) from ((f160 10 (of_decide_eq_true rfl)).trans ((f139 10 (of_decide_eq_true rfl)).trans ((f51 10 (of_decide_eq_true rfl)).trans (f33 10 (of_decide_eq_true rfl)))))))
                 have z182 : (σ157 55 12).toInt = (σ 55 12).toInt := (congrArg Int32.toInt (show σ157 55 12 = (σ 55 12) from ((f160 12 (of_decide_eq_true rfl)).trans ((f139 12 (of_decide_eq_true rfl)).trans ((f51 12 (of_decide_eq_true rfl)).trans (f33 12 (of_decide_eq_true rfl)))))))
                 exact by
                  have I183 : jI120 σ157 := ⟨(by omega), (by omega), (by omega), (by omega), (by omega), w161⟩
                  have p184 : jKept σ157 := jKept.fr (f159 75 (of_decide_eq_true rfl)) (f159 76 (of_decide_eq_true rfl)) (f159 77 (of_decide_eq_true rfl)) p128
                  refine jcallV (As := [.int a1]) (rest := []) ⟨hx, hb, hml, hown, hts⟩ hK hP hA hS hZ (h_mf σ157 τ a1 (A1) t1 I175 I176 I177 I178 I179 I180 I183 p184 (by omega) (by omega) (by omega)) cw_RX12_324 (jc_55 cI cL ad σ157 τ) rfl ⟨by dsimp only; omega, by dsimp only; omega⟩ rfl rfl rfl hl.1 rfl (Nat.le_of_ble_eq_true rfl) dX12_meanFrom_78 ⟨Nat.zero_le _, Nat.zero_le _⟩ (fun r186 σ185 τ185 H locs h185 hP hS => ?_)
                  obtain ⟨rfl, f187, f188, p189, h185⟩ := h185
                  refine lv_istore (lv' := [(8, .int r186), (6, .int r158), (7, .int r104), (5, .int x66), (4, .int r49), (3, .int x42), (2, .int r31), (0, .ref (ad 55)), (1, .int a1)]) hx hb dX12_meanFrom_81 hl (of_decide_eq_true rfl) rfl (fun ls hl => ?_)
                  refine lv_aload_n hx hb dX12_meanFrom_83 rfl (lv_at hl 7 rfl) ?_
                  refine lv_iload_n hx hb dX12_meanFrom_84 rfl (lv_at hl 6 rfl) ?_
                  refine lv_iconst (v := 0) hx hb dX12_meanFrom_85 (of_decide_eq_true rfl) ?_
                  refine lv_iload hx hb dX12_meanFrom_86 (lv_at hl 1 rfl) ?_
                  exact by
                   have w191 : ∀ k : Nat, k < 4 → 0 ≤ (σ185 68 k).toInt ∧ (σ185 68 k).toInt ≤ 3 := (jrr_fr (f187 68 (of_decide_eq_true rfl)) w161)
                   have z192 : (σ185 55 25).toInt = (σ157 55 25).toInt := (congrArg Int32.toInt (show σ185 55 25 = (σ157 55 25) from (f188 25 (of_decide_eq_true rfl))))
                   have z193 : (σ185 55 26).toInt = (σ157 55 26).toInt := (congrArg Int32.toInt (show σ185 55 26 = (σ157 55 26) from (f188 26 (of_decide_eq_true rfl))))
                   have z194 : (σ185 55 6).toInt = (σ 55 6).toInt := (congrArg Int32.toInt (show σ185 55 6 = (σ 55 6) from ((f188 6 (of_decide_eq_true rfl)).trans ((f160 6 (of_decide_eq_true rfl)).trans ((f139 6 (of_decide_eq_true rfl)).trans ((f51 6 (of_decide_eq_true rfl)).trans (f33 6 (of_decide_eq_true rfl))))))))
                   have w195 : ∀ k : Nat, k < 4 → 0 ≤ (σ116 68 k).toInt ∧ (σ116 68 k).toInt ≤ 3 := w148
                   have z197 : (σ116 55 27).toInt = (σ 55 27).toInt := (congrArg Int32.toInt (show σ116 55 27 = (σ 55 27) from ((f139 27 (of_decide_eq_true rfl)).trans ((f51 27 (of_decide_eq_true rfl)).trans (f33 27 (of_decide_eq_true rfl))))))
                   have k196 := jwas (by omega) (w195 0 (of_decide_eq_true rfl)) (w195 1 (of_decide_eq_true rfl)) (w195 2 (of_decide_eq_true rfl)) (w195 3 (of_decide_eq_true rfl)) k169
                   rw [← (show σ185 55 6 = σ116 55 6 from ((f188 6 (of_decide_eq_true rfl)).trans (f160 6 (of_decide_eq_true rfl))))] at k196
                   refine jcallVv (As := [.int r31, .int 0, .int r158]) (rest := []) ⟨hx, hb, hml, hown, hts⟩ hK hP hA hS hZ (c_X12_goesBack_0 l D cI cL ad zz hJ σ185 τ r31 (r31.toInt) rfl r158 (r158.toInt) rfl w191 (by omega) (by omega) (by omega) k196) cw_RX12_300 (jc_55 cI cL ad σ185 τ) rfl ⟨by dsimp only; omega, by dsimp only; omega⟩ rfl rfl rfl hl.1 rfl (Nat.le_of_ble_eq_true rfl) dX12_meanFrom_88 ⟨Nat.zero_le _, Nat.zero_le _⟩ (fun σ198 τ198 H locs h198 hP hS => ?_)
                   exact by
                    obtain ⟨rfl, f200, f201, w202, w203, w204, h198⟩ := h198
                    obtain ⟨k206, k207, k208, k209, h198⟩ := h198
                    have p210 : jKept σ198 := jKept.fr (f200 75 (of_decide_eq_true rfl)) (f200 76 (of_decide_eq_true rfl)) (f200 77 (of_decide_eq_true rfl)) p189
                    have e211 : σ185 69 = σ157 69 := (f187 69 (of_decide_eq_true rfl))
                    have e212 : σ198 69 = σ116 69 := jback69 w162 e211 w203
                    have e213 : σ185 68 = σ157 68 := (f187 68 (of_decide_eq_true rfl))
                    have e214 : σ185 55 6 = σ116 55 6 := ((f188 6 (of_decide_eq_true rfl)).trans (f160 6 (of_decide_eq_true rfl)))
                    have w222 : ∀ k : Nat, k < 4 → 0 ≤ (σ116 68 k).toInt ∧ (σ116 68 k).toInt ≤ 3 := w148
                    have w223 : ∀ k : Nat, k < 4 → 0 ≤ (σ198 68 k).toInt ∧ (σ198 68 k).toInt ≤ 3 := w202
                    have k224 := k209
                    rw [e214] at k224
                    have D215 := jdig (w222 0 (of_decide_eq_true rfl)) (w222 1 (of_decide_eq_true rfl)) (w222 2 (of_decide_eq_true rfl)) (w222 3 (of_decide_eq_true rfl)) (w223 0 (of_decide_eq_true rfl)) (w223 1 (of_decide_eq_true rfl)) (w223 2 (of_decide_eq_true rfl)) (w223 3 (of_decide_eq_true rfl)) k169 k224
                    exact by
                     have e216 : σ198 55 27 = σ116 55 27 := Int32.toInt_inj.mp (by have h9 := D215.1; omega)
                     have z225 : (σ185 55 26).toInt = (σ157 55 26).toInt := (congrArg Int32.toInt (show σ185 55 26 = (σ157 55 26) from (f188 26 (of_decide_eq_true rfl))))
                     have z226 : (σ116 55 26).toInt = (σ 55 26).toInt := (congrArg Int32.toInt (show σ116 55 26 = (σ 55 26) from ((f139 26 (of_decide_eq_true rfl)).trans ((f51 26 (of_decide_eq_true rfl)).trans (f33 26 (of_decide_eq_true rfl))))))
                     have z227 : (σ185 55 25).toInt = (σ157 55 25).toInt := (congrArg Int32.toInt (show σ185 55 25 = (σ157 55 25) from (f188 25 (of_decide_eq_true rfl))))
                     have z228 : (σ116 55 25).toInt = (σ 55 25).toInt := (congrArg Int32.toInt (show σ116 55 25 = (σ 55 25) from ((f139 25 (of_decide_eq_true rfl)).trans ((f51 25 (of_decide_eq_true rfl)).trans (f33 25 (of_decide_eq_true rfl))))))
                     have e217 : σ198 55 26 = σ116 55 26 := Int32.toInt_inj.mp (by omega)
                     have e218 : σ198 55 25 = σ116 55 25 := Int32.toInt_inj.mp (by omega)
                     have z229 : (σ116 55 6).toInt = (σ 55 6).toInt := (congrArg Int32.toInt (show σ116 55 6 = (σ 55 6) from ((f139 6 (of_decide_eq_true rfl)).trans ((f51 6 (of_decide_eq_true rfl)).trans (f33 6 (of_decide_eq_true rfl))))))
                     have e219 : σ198 68 = σ116 68 := jback68 (nb := (σ116 55 6).toInt) (by omega) w163 e213 (fun k hk => w204 k (by rw [e214]; exact hk)) D215.2
                     exact by
                      have f220 : (∀ i : Nat, (i < 55 ∨ 55 < i) ∧ (i < 66 ∨ 66 < i) ∧ (i < 74 ∨ 78 < i) → σ198 i = σ116 i) := fun i hi0 => by
                        by_cases h8 : i = 68
                        · rw [h8]; exact e219
                        by_cases h9 : i = 69
                        · rw [h9]; exact e212
                        have hi : ((i < 55 ∨ 55 < i) ∧ (i < 66 ∨ 66 < i) ∧ (i < 74 ∨ 78 < i)) ∧ i ≠ 68 ∧ i ≠ 69 := ⟨hi0, h8, h9⟩
                        exact ((f200 i (imp_200 i hi)).trans ((f187 i (imp_201 i hi)).trans (f159 i (imp_200 i hi))))
                      have f221 : ∀ i : Nat, (i < 18 ∨ 18 < i) ∧ (i < 19 ∨ 19 < i) ∧ (i < 20 ∨ 20 < i) ∧ (i < 21 ∨ 21 < i) ∧ (i < 22 ∨ 22 < i) ∧ (i < 37 ∨ 37 < i) → σ198 55 i = σ116 55 i := fun i hi0 => by
                        by_cases h25 : i = 25
                        · rw [h25]; exact e218
                        by_cases h26 : i = 26
                        · rw [h26]; exact e217
                        by_cases h27 : i = 27
                        · rw [h27]; exact e216
                        have hi : ((i < 18 ∨ 18 < i) ∧ (i < 19 ∨ 19 < i) ∧ (i < 20 ∨ 20 < i) ∧ (i < 21 ∨ 21 < i) ∧ (i < 22 ∨ 22 < i) ∧ (i < 37 ∨ 37 < i)) ∧ i ≠ 25 ∧ i ≠ 26 ∧ i ≠ 27 := ⟨hi0, h25, h26, h27⟩
                        exact ((f201 i (imp_202 i hi)).trans ((f188 i (imp_203 i hi)).trans (f160 i (imp_202 i hi))))
                      clear k224 k209 k169
                      refine lv_iload hx hb dX12_meanFrom_91 (lv_at hl 3 rfl) ?_
                      refine lv_sipush (v := 1000) hx hb dX12_meanFrom_93 (of_decide_eq_true rfl) ?_
                      refine lv_aload_n hx hb dX12_meanFrom_96 rfl (lv_at hl 7 rfl) ?_
                      refine va_get (D := D) hx hb hts inlX12 hown hK hP 55 (jc_55 cI cL ad σ198 τ) rfl 13 (of_decide_eq_true rfl) (hts _ kw_15_14) (fun _ h9 => h9) rfl dX12_meanFrom_97 ?_
                      have m230 : σ198 55 13 = (σ 55 13) := ((f221 13 (of_decide_eq_true rfl)).trans ((f139 13 (of_decide_eq_true rfl)).trans ((f51 13 (of_decide_eq_true rfl)).trans (f33 13 (of_decide_eq_true rfl)))))
                      refine jtopr m230 ?_
                      have g231 := jrg (rfl : (σ 55 13).toInt = (σ 55 13).toInt)
                      refine lv_isub hx hb dX12_meanFrom_100 ?_
                      refine lv_topi (fun x232 ex232 => ?_)
                      exact by
                       have tx232 : x232.toInt = -(σ 55 13).toInt + 1000 := (jsub ex232 jz_1000 rfl (by omega) (by omega)).trans (by omega)
                       refine lv_i2l (v := x232.toInt64) hx hb dX12_meanFrom_101 rfl ?_
                       refine lv_iload hx hb dX12_meanFrom_102 (lv_at hl 2 rfl) ?_
                       refine lv_iload hx hb dX12_meanFrom_104 (lv_at hl 0 rfl) ?_
                       refine lv_iload hx hb dX12_meanFrom_106 (lv_at hl 4 rfl) ?_
                       refine jcallS (As := [.int r104, .int r186, .int r49]) (rest := [.long x232.toInt64, .int x66]) ⟨hx, hb, hml, hown, hts⟩ hK hP hA hS hZ (c_X12_mixed l D cI cL ad zz hJ σ198 τ r104 (r104.toInt) rfl r186 (r186.toInt) rfl r49 (r49.toInt) rfl) cw_RX12_304 ⟨by dsimp only; omega, by dsimp only; omega⟩ rfl rfl rfl hl.1 rfl (Nat.le_of_ble_eq_true rfl) dX12_meanFrom_108 ⟨Nat.zero_le _, Nat.zero_le _⟩ (fun r234 σ233 τ233 H locs h233 hP hS => ?_)
                       obtain ⟨⟨rfl, rfl⟩, h233⟩ := h233
                       refine lv_i2l (v := r234.toInt64) hx hb dX12_meanFrom_111 rfl ?_
                       refine lv_lmul hx hb dX12_meanFrom_112 ?_
                       refine lv_topl (fun lx235 elx235 => ?_)
                       refine lv_ldc2 (v := 1000) hx hb hown (hts _ kw_34_19) dX12_meanFrom_113 ?_
                       refine lv_ldiv hx hb dX12_meanFrom_116 (of_decide_eq_true rfl) ?_
                       refine lv_topl (fun lx236 elx236 => ?_)
                       refine lv_l2i hx hb dX12_meanFrom_117 rfl ?_
                       refine lv_topi (fun x237 ex237 => ?_)
                       have gx237 := jrg (rfl : x237.toInt = x237.toInt)
                       have g238 := jrg (rfl : x237.toInt = x237.toInt)
                       refine lv_iadd hx hb dX12_meanFrom_118 ?_
                       refine lv_topi (fun x239 ex239 => ?_)
                       have gx239 := jrg (rfl : x239.toInt = x239.toInt)
                       exact hret x239 σ198 τ _ _ _ _ rfl ⟨rfl, (fun i hi => ((f220 i hi).trans ((f138 i hi).trans ((f50 i (imp_204 i hi)).trans (f32 i hi))))), (fun i hi => ((f221 i hi).trans ((f139 i hi).trans ((f51 i (imp_205 i hi)).trans (f33 i hi))))), p210, trivial⟩ hP hS dX12_meanFrom_119
set_option maxHeartbeats 4000000 in
set_option maxRecDepth 100000 in
theorem c_X12_means_mf_z (l : Launch) (D : va_G) (cI cL : ClassId) (ad zz : Nat → Nat) (hJ : jD ad) (σ : Nat → Nat → Int32) (τ : Nat → Nat → Int64) (a1 : Int32) (A1 : Int) (t1 : a1.toInt = A1) (hI101 : jI101 σ) (hI102 : jI102 σ) (hI103 : jI103 σ) (hI104 : jI104 σ) (hI105 : jI105 σ) (hI106 : jI106 σ) (hI120 : jI120 σ) (hs_jKept : jKept σ) (hp0 : 0 ≤ A1 ∧ A1 ≤ 19) (hp1 : (σ 55 12).toInt - (σ 55 26).toInt ≤ 8) (hp2 : (σ 55 12).toInt - (σ 55 26).toInt ≤ (((0) : Nat) : Int)) : jM l yX12_meanFrom cX12_meanFrom 9 (some .int) ({ frames := (106 + 4 * (0)), cells := 0, slots := 0, locals := (5261 + 240 * (0)) }) D cI cL ad zz [.ref (ad 55), .int a1] σ τ (fun r σ' τ' => τ = τ' ∧ (∀ i : Nat, (i < 55 ∨ 55 < i) ∧ (i < 66 ∨ 66 < i) ∧ (i < 74 ∨ 78 < i) → σ' i = σ i) ∧ (∀ k : Nat, (k < 18 ∨ 18 < k) ∧ (k < 19 ∨ 19 < k) ∧ (k < 20 ∨ 20 < k) ∧ (k < 21 ∨ 21 < k) ∧ (k < 22 ∨ 22 < k) ∧ (k < 37 ∨ 37 < k) → σ' 55 k = σ 55 k) ∧ (jKept σ') ∧ True) := by
  refine jM.of hJ (by decide +kernel) (nt := .int) rfl (Nat.le_of_ble_eq_true rfl) ?_
  intro p e s m args below meth c Q ls hC hret hl hP
  obtain ⟨hx, hb, hr, hml, hown, hts, hK, -, hlocks, hZ⟩ := hC
  have hown : s.vm.findClass RX12 = some m.cls := hown
  have hS : va_S (jA ad) s.heap s.heap [] := va_S.rf
  have hA : ∀ q, jA ad q → jA ad q := fun _ h => h
  have hl : lv_has ls 9 [(0, .ref (ad 55)), (1, .int a1)] := hl
  have g1 := jrg t1
  obtain ⟨i1, w2, w3⟩ : (0 ≤ (σ 55 6).toInt ∧ (σ 55 6).toInt ≤ 4) ∧ (∀ k : Nat, k < 4 → 0 ≤ (σ 60 k).toInt ∧ (σ 60 k).toInt ≤ 50) ∧ (∀ k : Nat, k < 4 → 0 ≤ (σ 61 k).toInt ∧ (σ 61 k).toInt ≤ 20) := id hI102
  obtain ⟨i4, i5, i6, w7, w8⟩ : (1 ≤ (σ 55 10).toInt ∧ (σ 55 10).toInt ≤ 8) ∧ (1 ≤ (σ 55 12).toInt ∧ (σ 55 12).toInt ≤ 12) ∧ (0 ≤ (σ 55 13).toInt ∧ (σ 55 13).toInt ≤ 999) ∧ (∀ k : Nat, k < 8 → 0 ≤ (σ 62 k).toInt ∧ (σ 62 k).toInt ≤ 3) ∧ (∀ k : Nat, k < 8 → 0 ≤ (σ 67 k).toInt ∧ (σ 67 k).toInt ≤ 3) := id hI104
  obtain ⟨i9, i10, i11, i12, i13, w14⟩ : (0 ≤ (σ 55 25).toInt) ∧ ((σ 55 25).toInt ≤ (σ 55 10).toInt) ∧ (0 ≤ (σ 55 26).toInt) ∧ ((σ 55 26).toInt ≤ (σ 55 12).toInt) ∧ ((-1) ≤ (σ 55 27).toInt ∧ (σ 55 27).toInt ≤ 3) ∧ (∀ k : Nat, k < 4 → 0 ≤ (σ 68 k).toInt ∧ (σ 68 k).toInt ≤ 3) := id hI120
  refine lv_aload_n hx hb dX12_meanFrom_0 rfl (lv_at hl 0 rfl) ?_
  refine jcallV (As := []) (rest := []) ⟨hx, hb, hml, hown, hts⟩ hK hP hA hS hZ (c_X12_isEnded l D cI cL ad zz hJ σ τ hI102 hI104 hI120) cw_RX12_307 (jc_55 cI cL ad σ τ) rfl ⟨by dsimp only; omega, by dsimp only; omega⟩ rfl rfl rfl hl.1 rfl (Nat.le_of_ble_eq_true rfl) dX12_meanFrom_1 ⟨Nat.zero_le _, Nat.zero_le _⟩ (fun r16 σ15 τ15 H locs h15 hP hS => ?_)
  obtain ⟨⟨rfl, rfl⟩, h15⟩ := h15
  rcases h15 with h17 | h18
  · obtain ⟨q20, k19⟩ := h17
    have q20 := q20.symm
    subst q20
    refine lv_if_eq (tgt := 9) hx hb dX12_meanFrom_4 (of_decide_eq_true rfl) (fun c => absurd c (of_decide_eq_true rfl)) (fun _ => ?_)
    refine lv_iconst (v := 0) hx hb dX12_meanFrom_7 (of_decide_eq_true rfl) ?_
    exact hret 0 σ τ _ _ _ _ rfl ⟨rfl, (fun _ _ => rfl), (fun _ _ => rfl), hs_jKept, trivial⟩ hP hS dX12_meanFrom_8
  · obtain ⟨q24, k21, k22, k23⟩ := h18
    exact absurd (by omega : False) id
set_option maxHeartbeats 4000000 in
set_option maxRecDepth 100000 in
theorem c_X12_means (l : Launch) (D : va_G) (cI cL : ClassId) (ad zz : Nat → Nat) (hJ : jD ad) (n : Nat) : (∀ (σ : Nat → Nat → Int32) (τ : Nat → Nat → Int64) (a1 : Int32) (A1 : Int) (t1 : a1.toInt = A1) (hI101 : jI101 σ) (hI102 : jI102 σ) (hI103 : jI103 σ) (hI104 : jI104 σ) (hI105 : jI105 σ) (hI106 : jI106 σ) (hI120 : jI120 σ) (hs_jKept : jKept σ) (hp0 : 0 ≤ A1 ∧ A1 ≤ 19) (hp1 : (σ 55 12).toInt - (σ 55 26).toInt ≤ 8) (hp2 : (σ 55 12).toInt - (σ 55 26).toInt ≤ (((n) : Nat) : Int)), jM l yX12_meanFrom cX12_meanFrom 9 (some .int) ({ frames := (106 + 4 * (n)), cells := 0, slots := 0, locals := (5261 + 240 * (n)) }) D cI cL ad zz [.ref (ad 55), .int a1] σ τ (fun r σ' τ' => τ = τ' ∧ (∀ i : Nat, (i < 55 ∨ 55 < i) ∧ (i < 66 ∨ 66 < i) ∧ (i < 74 ∨ 78 < i) → σ' i = σ i) ∧ (∀ k : Nat, (k < 18 ∨ 18 < k) ∧ (k < 19 ∨ 19 < k) ∧ (k < 20 ∨ 20 < k) ∧ (k < 21 ∨ 21 < k) ∧ (k < 22 ∨ 22 < k) ∧ (k < 37 ∨ 37 < k) → σ' 55 k = σ 55 k) ∧ (jKept σ') ∧ True)) := by
  induction n with
  | zero =>
    have h_mf := c_X12_means_mf_z l D cI cL ad zz hJ
    exact h_mf
  | succ n ih =>
    have g_mf := ih
    have h_mf := c_X12_means_mf_g l D cI cL ad zz hJ n g_mf
    exact h_mf
set_option maxHeartbeats 4000000 in
set_option maxRecDepth 100000 in
theorem c_X12_likelies_lf_g (l : Launch) (D : va_G) (cI cL : ClassId) (ad zz : Nat → Nat) (hJ : jD ad) (n : Nat) (h_lf : ∀ (σ : Nat → Nat → Int32) (τ : Nat → Nat → Int64) (a1 : Int32) (A1 : Int) (t1 : a1.toInt = A1) (a2 : Int32) (A2 : Int) (t2 : a2.toInt = A2) (hI101 : jI101 σ) (hI102 : jI102 σ) (hI103 : jI103 σ) (hI104 : jI104 σ) (hI105 : jI105 σ) (hI106 : jI106 σ) (hI120 : jI120 σ) (hs_jKept : jKept σ) (hp0 : 0 ≤ A1 ∧ A1 ≤ 19) (hp1 : (σ 55 12).toInt - (σ 55 26).toInt ≤ 8) (hp2 : (σ 55 12).toInt - (σ 55 26).toInt ≤ (((n) : Nat) : Int)), jM l yX12_likelyFrom cX12_likelyFrom 10 (some .int) ({ frames := (106 + 4 * (n)), cells := 0, slots := 0, locals := (5261 + 240 * (n)) }) D cI cL ad zz [.ref (ad 55), .int a1, .int a2] σ τ (fun r σ' τ' => τ = τ' ∧ (∀ i : Nat, (i < 55 ∨ 55 < i) ∧ (i < 66 ∨ 66 < i) ∧ (i < 74 ∨ 78 < i) → σ' i = σ i) ∧ (∀ k : Nat, (k < 18 ∨ 18 < k) ∧ (k < 19 ∨ 19 < k) ∧ (k < 20 ∨ 20 < k) ∧ (k < 21 ∨ 21 < k) ∧ (k < 22 ∨ 22 < k) ∧ (k < 37 ∨ 37 < k) → σ' 55 k = σ 55 k) ∧ (jKept σ') ∧ True)) (σ : Nat → Nat → Int32) (τ : Nat → Nat → Int64) (a1 : Int32) (A1 : Int) (t1 : a1.toInt = A1) (a2 : Int32) (A2 : Int) (t2 : a2.toInt = A2) (hI101 : jI101 σ) (hI102 : jI102 σ) (hI103 : jI103 σ) (hI104 : jI104 σ) (hI105 : jI105 σ) (hI106 : jI106 σ) (hI120 : jI120 σ) (hs_jKept : jKept σ) (hp0 : 0 ≤ A1 ∧ A1 ≤ 19) (hp1 : (σ 55 12).toInt - (σ 55 26).toInt ≤ 8) (hp2 : (σ 55 12).toInt - (σ 55 26).toInt ≤ (((n + 1) : Nat) : Int)) : jM l yX12_likelyFrom cX12_likelyFrom 10 (some .int) ({ frames := (106 + 4 * (n + 1)), cells := 0, slots := 0, locals := (5261 + 240 * (n + 1)) }) D cI cL ad zz [.ref (ad 55), .int a1, .int a2] σ τ (fun r σ' τ' => τ = τ' ∧ (∀ i : Nat, (i < 55 ∨ 55 < i) ∧ (i < 66 ∨ 66 < i) ∧ (i < 74 ∨ 78 < i) → σ' i = σ i) ∧ (∀ k : Nat, (k < 18 ∨ 18 < k) ∧ (k < 19 ∨ 19 < k) ∧ (k < 20 ∨ 20 < k) ∧ (k < 21 ∨ 21 < k) ∧ (k < 22 ∨ 22 < k) ∧ (k < 37 ∨ 37 < k) → σ' 55 k = σ 55 k) ∧ (jKept σ') ∧ True) := by
  refine jM.of hJ (by decide +kernel) (nt := .int) rfl (Nat.le_of_ble_eq_true rfl) ?_
  intro p e s m args below meth c Q ls hC hret hl hP
  obtain ⟨hx, hb, hr, hml, hown, hts, hK, -, hlocks, hZ⟩ := hC
  have hown : s.vm.findClass RX12 = some m.cls := hown
  have hS : va_S (jA ad) s.heap s.heap [] := va_S.rf
  have hA : ∀ q, jA ad q → jA ad q := fun _ h => h
  have hl : lv_has ls 10 [(0, .ref (ad 55)), (1, .int a1), (2, .int a2)] := hl
  have g1 := jrg t1
  have g2 := jrg t2
  obtain ⟨i1, w2, w3⟩ : (0 ≤ (σ 55 6).toInt ∧ (σ 55 6).toInt ≤ 4) ∧ (∀ k : Nat, k < 4 → 0 ≤ (σ 60 k).toInt ∧ (σ 60 k).toInt ≤ 50) ∧ (∀ k : Nat, k < 4 → 0 ≤ (σ 61 k).toInt ∧ (σ 61 k).toInt ≤ 20) := id hI102
  obtain ⟨i4, i5, i6, w7, w8⟩ : (1 ≤ (σ 55 10).toInt ∧ (σ 55 10).toInt ≤ 8) ∧ (1 ≤ (σ 55 12).toInt ∧ (σ 55 12).toInt ≤ 12) ∧ (0 ≤ (σ 55 13).toInt ∧ (σ 55 13).toInt ≤ 999) ∧ (∀ k : Nat, k < 8 → 0 ≤ (σ 62 k).toInt ∧ (σ 62 k).toInt ≤ 3) ∧ (∀ k : Nat, k < 8 → 0 ≤ (σ 67 k).toInt ∧ (σ 67 k).toInt ≤ 3) := id hI104
  obtain ⟨i9, i10, i11, i12, i13, w14⟩ : (0 ≤ (σ 55 25).toInt) ∧ ((σ 55 25).toInt ≤ (σ 55 10).toInt) ∧ (0 ≤ (σ 55 26).toInt) ∧ ((σ 55 26).toInt ≤ (σ 55 12).toInt) ∧ ((-1) ≤ (σ 55 27).toInt ∧ (σ 55 27).toInt ≤ 3) ∧ (∀ k : Nat, k < 4 → 0 ≤ (σ 68 k).toInt ∧ (σ 68 k).toInt ≤ 3) := id hI120
  refine lv_aload_n hx hb dX12_likelyFrom_0 rfl (lv_at hl 0 rfl) ?_
  refine jcallV (As := []) (rest := []) ⟨hx, hb, hml, hown, hts⟩ hK hP hA hS hZ (c_X12_isEnded l D cI cL ad zz hJ σ τ hI102 hI104 hI120) cw_RX12_307 (jc_55 cI cL ad σ τ) rfl ⟨by dsimp only; omega, by dsimp only; omega⟩ rfl rfl rfl hl.1 rfl (Nat.le_of_ble_eq_true rfl) dX12_likelyFrom_1 ⟨Nat.zero_le _, Nat.zero_le _⟩ (fun r16 σ15 τ15 H locs h15 hP hS => ?_)
  obtain ⟨⟨rfl, rfl⟩, h15⟩ := h15
  rcases h15 with h17 | h18
  · obtain ⟨q20, k19⟩ := h17
    have q20 := q20.symm
    subst q20
    refine lv_if_eq (tgt := 19) hx hb dX12_likelyFrom_4 (of_decide_eq_true rfl) (fun c => absurd c (of_decide_eq_true rfl)) (fun _ => ?_)
    refine lv_iload_n hx hb dX12_likelyFrom_7 rfl (lv_at hl 2 rfl) ?_
    refine lv_if_le (tgt := 17) hx hb dX12_likelyFrom_8 (of_decide_eq_true rfl) (fun c21 => ?_) (fun c21 => ?_)
    · have kc21 := jle c21 t2 jz_0
      refine lv_iconst (v := 0) hx hb dX12_likelyFrom_17 (of_decide_eq_true rfl) ?_
      exact hret 0 σ τ _ _ _ _ rfl ⟨rfl, (fun _ _ => rfl), (fun _ _ => rfl), hs_jKept, trivial⟩ hP hS dX12_likelyFrom_18
    · have kc21 := jnle c21 t2 jz_0
      refine lv_ldcw (v := 1000000) hx hb hown (hts _ kw_37_13) dX12_likelyFrom_11 ?_
      refine lv_goto (tgt := 18) hx hb dX12_likelyFrom_14 (of_decide_eq_true rfl) ?_
      exact hret 1000000 σ τ _ _ _ _ rfl ⟨rfl, (fun _ _ => rfl), (fun _ _ => rfl), hs_jKept, trivial⟩ hP hS dX12_likelyFrom_18
  · obtain ⟨q25, k22, k23, k24⟩ := h18
    have q25 := q25.symm
    subst q25
    obtain ⟨B26, k27, k28, w29⟩ := k24
    refine lv_if_eq (tgt := 19) hx hb dX12_likelyFrom_4 (of_decide_eq_true rfl) (fun _ => ?_) (fun c => absurd (of_decide_eq_true rfl) c)
    refine lv_aload_n hx hb dX12_likelyFrom_19 rfl (lv_at hl 0 rfl) ?_
    refine lv_iload_n hx hb dX12_likelyFrom_20 rfl (lv_at hl 1 rfl) ?_
    have p30 : jmb σ B26 = 1 := (jmb_fr rfl rfl rfl rfl rfl B26).trans w29
    exact by
     refine jcallV (As := [.int a1]) (rest := []) ⟨hx, hb, hml, hown, hts⟩ hK hP hA hS hZ (c_X12_putsOn l D cI cL ad zz hJ σ τ B26 p30 a1 (A1) t1 hI101 hI102 hI103 hI104 hI105 hI106 hI120 hs_jKept (by omega) (by omega) (by omega) (by omega) (by omega)) cw_RX12_321 (jc_55 cI cL ad σ τ) rfl ⟨by dsimp only; omega, by dsimp only; omega⟩ rfl rfl rfl hl.1 rfl (Nat.le_of_ble_eq_true rfl) dX12_likelyFrom_21 ⟨Nat.zero_le _, Nat.zero_le _⟩ (fun r32 σ31 τ31 H locs h31 hP hS => ?_)
     obtain ⟨rfl, f33, f34, p35, h31⟩ := h31
     have h37 := h31
     obtain ⟨q39, k38⟩ := h37
     refine lv_istore_n (lv' := [(3, .int r32), (0, .ref (ad 55)), (1, .int a1), (2, .int a2)]) hx hb dX12_likelyFrom_24 rfl hl (of_decide_eq_true rfl) rfl (fun ls hl => ?_)
     refine lv_aload_n hx hb dX12_likelyFrom_25 rfl (lv_at hl 1 rfl) ?_
     refine va_get (D := D) hx hb hts inlX12 hown hK hP 55 (jc_55 cI cL ad σ31 τ) rfl 11 (of_decide_eq_true rfl) (hts _ kw_7_8) (fun _ h9 => h9) rfl dX12_likelyFrom_26 ?_
     refine lv_aload_n hx hb dX12_likelyFrom_29 rfl (lv_at hl 1 rfl) ?_
     refine va_get (D := D) hx hb hts inlX12 hown hK hP 55 (jc_55 cI cL ad σ31 τ) rfl 25 (of_decide_eq_true rfl) (hts _ kw_23_6) (fun _ h9 => h9) rfl dX12_likelyFrom_30 ?_
     have m40 : σ31 55 25 = (σ 55 25) := (f34 25 (of_decide_eq_true rfl))
     refine jtopr m40 ?_
     exact by
      refine jald hx hb hK hP (jc_62 cI cL ad σ31 τ) (jin rfl (by omega) (by omega)) dX12_likelyFrom_33 ?_
      have w41 : ∀ k : Nat, k < 8 → 0 ≤ (σ31 62 k).toInt ∧ (σ31 62 k).toInt ≤ 3 := (jrr_fr (f33 62 (of_decide_eq_true rfl)) w7)
      have g42 := w41 _ (jnat (x := (σ 55 25)) rfl (n := 8) (by omega) (of_decide_eq_true rfl))
      refine lv_topi (fun x43 ex43 => ?_)
      rw [← ex43] at g42
      refine lv_istore (lv' := [(4, .int x43), (3, .int r32), (0, .ref (ad 55)), (1, .int a1), (2, .int a2)]) hx hb dX12_likelyFrom_34 hl (of_decide_eq_true rfl) rfl (fun ls hl => ?_)
      refine lv_aload_n hx hb dX12_likelyFrom_36 rfl (lv_at hl 2 rfl) ?_
      refine lv_iload_n hx hb dX12_likelyFrom_37 rfl (lv_at hl 1 rfl) ?_
      refine lv_iload hx hb dX12_likelyFrom_38 (lv_at hl 0 rfl) ?_
      exact by
       have I44 : jI101 σ31 := jI101_fr (f34 4 (of_decide_eq_true rfl)) (f34 5 (of_decide_eq_true rfl)) (f33 56 (of_decide_eq_true rfl)) (f33 57 (of_decide_eq_true rfl)) (f33 58 (of_decide_eq_true rfl)) (f33 59 (of_decide_eq_true rfl)) hI101
       have I45 : jI102 σ31 := jI102_fr (f34 6 (of_decide_eq_true rfl)) (f33 60 (of_decide_eq_true rfl)) (f33 61 (of_decide_eq_true rfl)) hI102
       have I46 : jI103 σ31 := jI103_fr (f34 9 (of_decide_eq_true rfl)) hI103
       have I47 : jI105 σ31 := jI105_fr (f34 15 (of_decide_eq_true rfl)) (f33 65 (of_decide_eq_true rfl)) hI105
       have w48 : ∀ k : Nat, k < 4 → 0 ≤ (σ31 68 k).toInt ∧ (σ31 68 k).toInt ≤ 3 := (jrr_fr (f33 68 (of_decide_eq_true rfl)) w14)
       refine jcallV (As := [.int r32, .int x43]) (rest := []) ⟨hx, hb, hml, hown, hts⟩ hK hP hA hS hZ (c_X12_outBy l D cI cL ad zz hJ σ31 τ r32 (r32.toInt) rfl x43 (x43.toInt) rfl I44 I45 I46 I47 w48 (by omega) (by omega)) cw_RX12_259 (jc_55 cI cL ad σ31 τ) rfl ⟨by dsimp only; omega, by dsimp only; omega⟩ rfl rfl rfl hl.1 rfl (Nat.le_of_ble_eq_true rfl) dX12_likelyFrom_40 ⟨Nat.zero_le _, Nat.zero_le _⟩ (fun r50 σ49 τ49 H locs h49 hP hS => ?_)
       obtain ⟨rfl, f51, f52, h49⟩ := h49
       have h54 := h49
       obtain ⟨q56, k55⟩ := h54
       exact by
        refine lv_istore (lv' := [(5, .int r50), (4, .int x43), (3, .int r32), (0, .ref (ad 55)), (1, .int a1), (2, .int a2)]) hx hb dX12_likelyFrom_43 hl (of_decide_eq_true rfl) rfl (fun ls hl => ?_)
        refine lv_iload_n hx hb dX12_likelyFrom_45 rfl (lv_at hl 5 rfl) ?_
        refine lv_aload_n hx hb dX12_likelyFrom_46 rfl (lv_at hl 3 rfl) ?_
        refine lv_iload_n hx hb dX12_likelyFrom_47 rfl (lv_at hl 2 rfl) ?_
        refine lv_iload hx hb dX12_likelyFrom_48 (lv_at hl 1 rfl) ?_
        have I57 : jI101 σ49 := jI101_fr (f52 4 (of_decide_eq_true rfl)) (f52 5 (of_decide_eq_true rfl)) (f51 56 (of_decide_eq_true rfl)) (f51 57 (of_decide_eq_true rfl)) (f51 58 (of_decide_eq_true rfl)) (f51 59 (of_decide_eq_true rfl)) I44
        have I58 : jI102 σ49 := jI102_fr (f52 6 (of_decide_eq_true rfl)) (f51 60 (of_decide_eq_true rfl)) (f51 61 (of_decide_eq_true rfl)) I45
        have I59 : jI103 σ49 := jI103_fr (f52 9 (of_decide_eq_true rfl)) I46
        have w60 : ∀ k : Nat, k < 4 → 0 ≤ (σ49 68 k).toInt ∧ (σ49 68 k).toInt ≤ 3 := (jrr_fr (f51 68 (of_decide_eq_true rfl)) w48)
        exact by
         refine jcallV (As := [.int r32, .int x43]) (rest := [.int a2]) ⟨hx, hb, hml, hown, hts⟩ hK hP hA hS hZ (c_X12_runsBy l D cI cL ad zz hJ σ49 τ r32 (r32.toInt) rfl x43 (x43.toInt) rfl I57 I58 I59 w60 (by omega) (by omega)) cw_RX12_262 (jc_55 cI cL ad σ49 τ) rfl ⟨by dsimp only; omega, by dsimp only; omega⟩ rfl rfl rfl hl.1 rfl (Nat.le_of_ble_eq_true rfl) dX12_likelyFrom_50 ⟨Nat.zero_le _, Nat.zero_le _⟩ (fun r62 σ61 τ61 H locs h61 hP hS => ?_)
         obtain ⟨⟨rfl, rfl⟩, h61⟩ := h61
         have h63 := h61
         obtain ⟨q65, k64⟩ := h63
         have g66 := jrg (rfl : r62.toInt = r62.toInt)
         refine lv_isub hx hb dX12_likelyFrom_53 ?_
         refine lv_topi (fun x67 ex67 => ?_)
         have gx67 := jrg (rfl : x67.toInt = x67.toInt)
         refine lv_istore (lv' := [(6, .int x67), (5, .int r50), (4, .int x43), (3, .int r32), (0, .ref (ad 55)), (1, .int a1), (2, .int a2)]) hx hb dX12_likelyFrom_54 hl (of_decide_eq_true rfl) rfl (fun ls hl => ?_)
         refine lv_aload_n hx hb dX12_likelyFrom_56 rfl (lv_at hl 4 rfl) ?_
         refine lv_iload_n hx hb dX12_likelyFrom_57 rfl (lv_at hl 3 rfl) ?_
         refine lv_iconst (v := 1) hx hb dX12_likelyFrom_58 (of_decide_eq_true rfl) ?_
         have z68 : (σ49 55 6).toInt = (σ 55 6).toInt := (congrArg Int32.toInt (show σ49 55 6 = (σ 55 6) from ((f52 6 (of_decide_eq_true rfl)).trans (f34 6 (of_decide_eq_true rfl)))))
         have z69 : (σ49 55 27).toInt = (σ 55 27).toInt := (congrArg Int32.toInt (show σ49 55 27 = (σ 55 27) from ((f52 27 (of_decide_eq_true rfl)).trans (f34 27 (of_decide_eq_true rfl)))))
         have z70 : (σ49 55 25).toInt = (σ 55 25).toInt := (congrArg Int32.toInt (show σ49 55 25 = (σ 55 25) from ((f52 25 (of_decide_eq_true rfl)).trans m40)))
         have z71 : (σ49 55 26).toInt = (σ 55 26).toInt := (congrArg Int32.toInt (show σ49 55 26 = (σ 55 26) from ((f52 26 (of_decide_eq_true rfl)).trans (f34 26 (of_decide_eq_true rfl)))))
         have z72 : (σ49 68 0).toInt = (σ 68 0).toInt := (congrArg Int32.toInt (show σ49 68 0 = (σ 68 0) from ((congrFun (f51 68 (of_decide_eq_true rfl)) 0).trans (congrFun (f33 68 (of_decide_eq_true rfl)) 0))))
         have z73 : (σ49 68 1).toInt = (σ 68 1).toInt := (congrArg Int32.toInt (show σ49 68 1 = (σ 68 1) from ((congrFun (f51 68 (of_decide_eq_true rfl)) 1).trans (congrFun (f33 68 (of_decide_eq_true rfl)) 1))))
         have z74 : (σ49 68 2).toInt = (σ 68 2).toInt := (congrArg Int32.toInt (show σ49 68 2 = (σ 68 2) from ((congrFun (f51 68 (of_decide_eq_true rfl)) 2).trans (congrFun (f33 68 (of_decide_eq_true rfl)) 2))))
         have z75 : (σ49 68 3).toInt = (σ 68 3).toInt := (congrArg Int32.toInt (show σ49 68 3 = (σ 68 3) from ((congrFun (f51 68 (of_decide_eq_true rfl)) 3).trans (congrFun (f33 68 (of_decide_eq_true rfl)) 3))))
         exact by
          refine jcallV (As := [.int r32, .int 1]) (rest := []) ⟨hx, hb, hml, hown, hts⟩ hK hP hA hS hZ (c_X12_goes_1 l D cI cL ad zz hJ σ49 τ r32 (r32.toInt) rfl w60 (by omega) (by omega) (by omega) (by omega) (by omega)) cw_RX12_296 (jc_55 cI cL ad σ49 τ) rfl ⟨by dsimp only; omega, by dsimp only; omega⟩ rfl rfl rfl hl.1 rfl (Nat.le_of_ble_eq_true rfl) dX12_likelyFrom_59 ⟨Nat.zero_le _, Nat.zero_le _⟩ (fun r77 σ76 τ76 H locs h76 hP hS => ?_)
          obtain ⟨rfl, f78, f79, w80, w81, w82, h76⟩ := h76
          obtain ⟨k84, k85, k86, h76⟩ := h76
          have h87 := h76
          obtain ⟨q93, k88, k89, k90, k91, k92⟩ := h87
          refine lv_istore (lv' := [(7, .int r77), (6, .int x67), (5, .int r50), (4, .int x43), (3, .int r32), (0, .ref (ad 55)), (1, .int a1), (2, .int a2)]) hx hb dX12_likelyFrom_62 hl (of_decide_eq_true rfl) rfl (fun ls hl => ?_)
          refine lv_aload_n hx hb dX12_likelyFrom_64 rfl (lv_at hl 5 rfl) ?_
          refine lv_iload_n hx hb dX12_likelyFrom_65 rfl (lv_at hl 6 rfl) ?_
          refine lv_iload hx hb dX12_likelyFrom_66 (lv_at hl 1 rfl) ?_
          have I94 : jI101 σ76 := jI101_fr (f79 4 (of_decide_eq_true rfl)) (f79 5 (of_decide_eq_true rfl)) (f78 56 (of_decide_eq_true rfl)) (f78 57 (of_decide_eq_true rfl)) (f78 58 (of_decide_eq_true rfl)) (f78 59 (of_decide_eq_true rfl)) I57
          have I95 : jI102 σ76 := jI102_fr (f79 6 (of_decide_eq_true rfl)) (f78 60 (of_decide_eq_true rfl)) (f78 61 (of_decide_eq_true rfl)) I58
          have I96 : jI103 σ76 := jI103_fr (f79 9 (of_decide_eq_true rfl)) I59
          have I97 : jI104 σ76 := jI104_fr ((f79 10 (of_decide_eq_true rfl)).trans ((f52 10 (of_decide_eq_true rfl)).trans (f34 10 (of_decide_eq_true rfl)))) ((f79 12 (of_decide_eq_true rfl)).trans ((f52 12 (of_decide_eq_true rfl)).trans (f34 12 (of_decide_eq_true rfl)))) ((f79 13 (of_decide_eq_true rfl)).trans ((f52 13 (of_decide_eq_true rfl)).trans (f34 13 (of_decide_eq_true rfl)))) ((f78 62 (of_decide_eq_true rfl)).trans ((f51 62 (of_decide_eq_true rfl)).trans (f33 62 (of_decide_eq_true rfl)))) ((f78 67 (of_decide_eq_true rfl)).trans ((f51 67 (of_decide_eq_true rfl)).trans (f33 67 (of_decide_eq_true rfl)))) hI104
          have I98 : jI105 σ76 := jI105_fr ((f79 15 (of_decide_eq_true rfl)).trans (f52 15 (of_decide_eq_true rfl))) ((f78 65 (of_decide_eq_true rfl)).trans (f51 65 (of_decide_eq_true rfl))) I47
          have I99 : jI106 σ76 := jI106_fr ((f79 32 (of_decide_eq_true rfl)).trans ((f52 32 (of_decide_eq_true rfl)).trans (f34 32 (of_decide_eq_true rfl)))) ((f78 70 (of_decide_eq_true rfl)).trans ((f51 70 (of_decide_eq_true rfl)).trans (f33 70 (of_decide_eq_true rfl)))) ((f78 71 (of_decide_eq_true rfl)).trans ((f51 71 (of_decide_eq_true rfl)).trans (f33 71 (of_decide_eq_true rfl)))) ((f78 72 (of_decide_eq_true rfl)).trans ((f51 72 (of_decide_eq_true rfl)).trans (f33 72 (of_decide_eq_true rfl)))) hI106
          have z100 : (σ76 55 10).toInt = (σ 55 10).toInt := (congrArg Int32.toInt (show σ76 55 10 = (σ 55 10) from ((f79 10 (of_decide_eq_true rfl)).trans ((f52 10 (of_decide_eq_true rfl)).trans (f34 10 (of_decide_eq_true rfl))))))
          have z101 : (σ76 55 12).toInt = (σ 55 12).toInt := (congrArg Int32.toInt (show σ76 55 12 = (σ 55 12) from ((f79 12 (of_decide_eq_true rfl)).trans ((f52 12 (of_decide_eq_true rfl)).trans (f34 12 (of_decide_eq_true rfl))))))
          exact by
           have I102 : jI120 σ76 := ⟨(by omega), (by omega), (by omega), (by omega), (by omega), w80⟩
           have p103 : jKept σ76 := jKept.fr ((f78 75 (of_decide_eq_true rfl)).trans (f51 75 (of_decide_eq_true rfl))) ((f78 76 (of_decide_eq_true rfl)).trans (f51 76 (of_decide_eq_true rfl))) ((f78 77 (of_decide_eq_true rfl)).trans (f51 77 (of_decide_eq_true rfl))) p35
           refine jcallV (As := [.int a1, .int x67]) (rest := []) ⟨hx, hb, hml, hown, hts⟩ hK hP hA hS hZ (h_lf σ76 τ a1 (A1) t1 x67 (x67.toInt) rfl I94 I95 I96 I97 I98 I99 I102 p103 (by omega) (by omega) (by omega)) cw_RX12_328 (jc_55 cI cL ad σ76 τ) rfl ⟨by dsimp only; omega, by dsimp only; omega⟩ rfl rfl rfl hl.1 rfl (Nat.le_of_ble_eq_true rfl) dX12_likelyFrom_68 ⟨Nat.zero_le _, Nat.zero_le _⟩ (fun r105 σ104 τ104 H locs h104 hP hS => ?_)
           obtain ⟨rfl, f106, f107, p108, h104⟩ := h104
           refine lv_istore (lv' := [(8, .int r105), (7, .int r77), (6, .int x67), (5, .int r50), (4, .int x43), (3, .int r32), (0, .ref (ad 55)), (1, .int a1), (2, .int a2)]) hx hb dX12_likelyFrom_71 hl (of_decide_eq_true rfl) rfl (fun ls hl => ?_)
           refine lv_aload_n hx hb dX12_likelyFrom_73 rfl (lv_at hl 6 rfl) ?_
           refine lv_iload_n hx hb dX12_likelyFrom_74 rfl (lv_at hl 5 rfl) ?_
           refine lv_iconst (v := 1) hx hb dX12_likelyFrom_75 (of_decide_eq_true rfl) ?_
           refine lv_iload hx hb dX12_likelyFrom_76 (lv_at hl 1 rfl) ?_
           exact by
            have w110 : ∀ k : Nat, k < 4 → 0 ≤ (σ104 68 k).toInt ∧ (σ104 68 k).toInt ≤ 3 := (jrr_fr (f106 68 (of_decide_eq_true rfl)) w80)
            have z111 : (σ104 55 25).toInt = (σ76 55 25).toInt := (congrArg Int32.toInt (show σ104 55 25 = (σ76 55 25) from (f107 25 (of_decide_eq_true rfl))))
            have z112 : (σ104 55 26).toInt = (σ76 55 26).toInt := (congrArg Int32.toInt (show σ104 55 26 = (σ76 55 26) from (f107 26 (of_decide_eq_true rfl))))
            have z113 : (σ104 55 6).toInt = (σ 55 6).toInt := (congrArg Int32.toInt (show σ104 55 6 = (σ 55 6) from ((f107 6 (of_decide_eq_true rfl)).trans ((f79 6 (of_decide_eq_true rfl)).trans ((f52 6 (of_decide_eq_true rfl)).trans (f34 6 (of_decide_eq_true rfl)))))))
            have w114 : ∀ k : Nat, k < 4 → 0 ≤ (σ49 68 k).toInt ∧ (σ49 68 k).toInt ≤ 3 := w60
            have z116 : (σ49 55 27).toInt = (σ 55 27).toInt := (congrArg Int32.toInt (show σ49 55 27 = (σ 55 27) from ((f52 27 (of_decide_eq_true rfl)).trans (f34 27 (of_decide_eq_true rfl)))))
            have k115 := jwas (by omega) (w114 0 (of_decide_eq_true rfl)) (w114 1 (of_decide_eq_true rfl)) (w114 2 (of_decide_eq_true rfl)) (w114 3 (of_decide_eq_true rfl)) k88
            rw [← (show σ104 55 6 = σ49 55 6 from ((f107 6 (of_decide_eq_true rfl)).trans (f79 6 (of_decide_eq_true rfl))))] at k115
            refine jcallVv (As := [.int r32, .int 1, .int r77]) (rest := []) ⟨hx, hb, hml, hown, hts⟩ hK hP hA hS hZ (c_X12_goesBack_1 l D cI cL ad zz hJ σ104 τ r32 (r32.toInt) rfl r77 (r77.toInt) rfl w110 (by omega) (by omega) (by omega) k115) cw_RX12_300 (jc_55 cI cL ad σ104 τ) rfl ⟨by dsimp only; omega, by dsimp only; omega⟩ rfl rfl rfl hl.1 rfl (Nat.le_of_ble_eq_true rfl) dX12_likelyFrom_78 ⟨Nat.zero_le _, Nat.zero_le _⟩ (fun σ117 τ117 H locs h117 hP hS => ?_)
            exact by
             obtain ⟨rfl, f119, f120, w121, w122, w123, h117⟩ := h117
             obtain ⟨k125, k126, k127, k128, h117⟩ := h117
             have p129 : jKept σ117 := jKept.fr (f119 75 (of_decide_eq_true rfl)) (f119 76 (of_decide_eq_true rfl)) (f119 77 (of_decide_eq_true rfl)) p108
             have e130 : σ104 69 = σ76 69 := (f106 69 (of_decide_eq_true rfl))
             have e131 : σ117 69 = σ49 69 := jback69 w81 e130 w122
             have e132 : σ104 68 = σ76 68 := (f106 68 (of_decide_eq_true rfl))
             have e133 : σ104 55 6 = σ49 55 6 := ((f107 6 (of_decide_eq_true rfl)).trans (f79 6 (of_decide_eq_true rfl)))
             have w141 : ∀ k : Nat, k < 4 → 0 ≤ (σ49 68 k).toInt ∧ (σ49 68 k).toInt ≤ 3 := w60
             have w142 : ∀ k : Nat, k < 4 → 0 ≤ (σ117 68 k).toInt ∧ (σ117 68 k).toInt ≤ 3 := w121
             have k143 := k128
             rw [e133] at k143
             have D134 := jdig (w141 0 (of_decide_eq_true rfl)) (w141 1 (of_decide_eq_true rfl)) (w141 2 (of_decide_eq_true rfl)) (w141 3 (of_decide_eq_true rfl)) (w142 0 (of_decide_eq_true rfl)) (w142 1 (of_decide_eq_true rfl)) (w142 2 (of_decide_eq_true rfl)) (w142 3 (of_decide_eq_true rfl)) k88 k143
             exact by
              have e135 : σ117 55 27 = σ49 55 27 := Int32.toInt_inj.mp (by have h9 := D134.1; omega)
              have z144 : (σ104 55 26).toInt = (σ76 55 26).toInt := (congrArg Int32.toInt (show σ104 55 26 = (σ76 55 26) from (f107 26 (of_decide_eq_true rfl))))
              have z145 : (σ49 55 26).toInt = (σ 55 26).toInt := (congrArg Int32.toInt (show σ49 55 26 = (σ 55 26) from ((f52 26 (of_decide_eq_true rfl)).trans (f34 26 (of_decide_eq_true rfl)))))
              have z146 : (σ104 55 25).toInt = (σ76 55 25).toInt := (congrArg Int32.toInt (show σ104 55 25 = (σ76 55 25) from (f107 25 (of_decide_eq_true rfl))))
              have z147 : (σ49 55 25).toInt = (σ 55 25).toInt := (congrArg Int32.toInt (show σ49 55 25 = (σ 55 25) from ((f52 25 (of_decide_eq_true rfl)).trans (f34 25 (of_decide_eq_true rfl)))))
              have e136 : σ117 55 26 = σ49 55 26 := Int32.toInt_inj.mp (by omega)
              have e137 : σ117 55 25 = σ49 55 25 := Int32.toInt_inj.mp (by omega)
              have z148 : (σ49 55 6).toInt = (σ 55 6).toInt := (congrArg Int32.toInt (show σ49 55 6 = (σ 55 6) from ((f52 6 (of_decide_eq_true rfl)).trans (f34 6 (of_decide_eq_true rfl)))))
              have e138 : σ117 68 = σ49 68 := jback68 (nb := (σ49 55 6).toInt) (by omega) w82 e132 (fun k hk => w123 k (by rw [e133]; exact hk)) D134.2
              exact by
               have f139 : (∀ i : Nat, (i < 55 ∨ 55 < i) ∧ (i < 66 ∨ 66 < i) ∧ (i < 74 ∨ 78 < i) → σ117 i = σ49 i) := fun i hi0 => by
                 by_cases h8 : i = 68
                 · rw [h8]; exact e138
                 by_cases h9 : i = 69
                 · rw [h9]; exact e131
                 have hi : ((i < 55 ∨ 55 < i) ∧ (i < 66 ∨ 66 < i) ∧ (i < 74 ∨ 78 < i)) ∧ i ≠ 68 ∧ i ≠ 69 := ⟨hi0, h8, h9⟩
                 exact ((f119 i (imp_200 i hi)).trans ((f106 i (imp_201 i hi)).trans (f78 i (imp_200 i hi))))
               have f140 : ∀ i : Nat, (i < 18 ∨ 18 < i) ∧ (i < 19 ∨ 19 < i) ∧ (i < 20 ∨ 20 < i) ∧ (i < 21 ∨ 21 < i) ∧ (i < 22 ∨ 22 < i) ∧ (i < 37 ∨ 37 < i) → σ117 55 i = σ49 55 i := fun i hi0 => by
                 by_cases h25 : i = 25
                 · rw [h25]; exact e137
                 by_cases h26 : i = 26
                 · rw [h26]; exact e136
                 by_cases h27 : i = 27
                 · rw [h27]; exact e135
                 have hi : ((i < 18 ∨ 18 < i) ∧ (i < 19 ∨ 19 < i) ∧ (i < 20 ∨ 20 < i) ∧ (i < 21 ∨ 21 < i) ∧ (i < 22 ∨ 22 < i) ∧ (i < 37 ∨ 37 < i)) ∧ i ≠ 25 ∧ i ≠ 26 ∧ i ≠ 27 := ⟨hi0, h25, h26, h27⟩
                 exact ((f120 i (imp_202 i hi)).trans ((f107 i (imp_203 i hi)).trans (f79 i (imp_202 i hi))))
               clear k143 k128 k88
               refine lv_aload_n hx hb dX12_likelyFrom_81 rfl (lv_at hl 6 rfl) ?_
               refine lv_iload_n hx hb dX12_likelyFrom_82 rfl (lv_at hl 5 rfl) ?_
               refine lv_iconst (v := 0) hx hb dX12_likelyFrom_83 (of_decide_eq_true rfl) ?_
               have w149 : ∀ k : Nat, k < 4 → 0 ≤ (σ117 68 k).toInt ∧ (σ117 68 k).toInt ≤ 3 := (jrr_fr (f139 68 (of_decide_eq_true rfl)) w60)
               have z150 : (σ117 55 6).toInt = (σ 55 6).toInt := (congrArg Int32.toInt (show σ117 55 6 = (σ 55 6) from ((f140 6 (of_decide_eq_true rfl)).trans ((f52 6 (of_decide_eq_true rfl)).trans (f34 6 (of_decide_eq_true rfl))))))
               have z151 : (σ117 55 27).toInt = (σ 55 27).toInt := (congrArg Int32.toInt (show σ117 55 27 = (σ 55 27) from ((f140 27 (of_decide_eq_true rfl)).trans ((f52 27 (of_decide_eq_true rfl)).trans (f34 27 (of_decide_eq_true rfl))))))
               have z152 : (σ117 55 25).toInt = (σ 55 25).toInt := (congrArg Int32.toInt (show σ117 55 25 = (σ 55 25) from ((f140 25 (of_decide_eq_true rfl)).trans ((f52 25 (of_decide_eq_true rfl)).trans m40))))
               have z153 : (σ117 55 26).toInt = (σ 55 26).toInt := (congrArg Int32.toInt (show σ117 55 26 = (σ 55 26) from ((f140 26 (of_decide_eq_true rfl)).trans ((f52 26 (of_decide_eq_true rfl)).trans (f34 26 (of_decide_eq_true rfl))))))
               have z154 : (σ117 68 0).toInt = (σ 68 0).toInt := (congrArg Int32.toInt (show σ117 68 0 = (σ 68 0) from ((congrFun (f139 68 (of_decide_eq_true rfl)) 0).trans ((congrFun (f51 68 (of_decide_eq_true rfl)) 0).trans (congrFun (f33 68 (of_decide_eq_true rfl)) 0)))))
               have z155 : (σ117 68 1).toInt = (σ 68 1).toInt := (congrArg Int32.toInt (show σ117 68 1 = (σ 68 1) from ((congrFun (f139 68 (of_decide_eq_true rfl)) 1).trans ((congrFun (f51 68 (of_decide_eq_true rfl)) 1).trans (congrFun (f33 68 (of_decide_eq_true rfl)) 1)))))
               have z156 : (σ117 68 2).toInt = (σ 68 2).toInt := (congrArg Int32.toInt (show σ117 68 2 = (σ 68 2) from ((congrFun (f139 68 (of_decide_eq_true rfl)) 2).trans ((congrFun (f51 68 (of_decide_eq_true rfl)) 2).trans (congrFun (f33 68 (of_decide_eq_true rfl)) 2)))))
               have z157 : (σ117 68 3).toInt = (σ 68 3).toInt := (congrArg Int32.toInt (show σ117 68 3 = (σ 68 3) from ((congrFun (f139 68 (of_decide_eq_true rfl)) 3).trans ((congrFun (f51 68 (of_decide_eq_true rfl)) 3).trans (congrFun (f33 68 (of_decide_eq_true rfl)) 3)))))
               exact by
                refine jcallV (As := [.int r32, .int 0]) (rest := []) ⟨hx, hb, hml, hown, hts⟩ hK hP hA hS hZ (c_X12_goes_0 l D cI cL ad zz hJ σ117 τ r32 (r32.toInt) rfl w149 (by omega) (by omega) (by omega) (by omega) (by omega)) cw_RX12_296 (jc_55 cI cL ad σ117 τ) rfl ⟨by dsimp only; omega, by dsimp only; omega⟩ rfl rfl rfl hl.1 rfl (Nat.le_of_ble_eq_true rfl) dX12_likelyFrom_84 ⟨Nat.zero_le _, Nat.zero_le _⟩ (fun r159 σ158 τ158 H locs h158 hP hS => ?_)
                obtain ⟨rfl, f160, f161, w162, w163, w164, h158⟩ := h158
                obtain ⟨k166, k167, k168, h158⟩ := h158
                have h169 := h158
                obtain ⟨q175, k170, k171, k172, k173, k174⟩ := h169
                refine lv_istore (lv' := [(7, .int r159), (8, .int r105), (6, .int x67), (5, .int r50), (4, .int x43), (3, .int r32), (0, .ref (ad 55)), (1, .int a1), (2, .int a2)]) hx hb dX12_likelyFrom_87 hl (of_decide_eq_true rfl) rfl (fun ls hl => ?_)
                refine lv_aload_n hx hb dX12_likelyFrom_89 rfl (lv_at hl 6 rfl) ?_
                refine lv_iload_n hx hb dX12_likelyFrom_90 rfl (lv_at hl 7 rfl) ?_
                refine lv_iload hx hb dX12_likelyFrom_91 (lv_at hl 2 rfl) ?_
                have I176 : jI101 σ158 := jI101_fr ((f161 4 (of_decide_eq_true rfl)).trans (f140 4 (of_decide_eq_true rfl))) ((f161 5 (of_decide_eq_true rfl)).trans (f140 5 (of_decide_eq_true rfl))) ((f160 56 (of_decide_eq_true rfl)).trans (f139 56 (of_decide_eq_true rfl))) ((f160 57 (of_decide_eq_true rfl)).trans (f139 57 (of_decide_eq_true rfl))) ((f160 58 (of_decide_eq_true rfl)).trans (f139 58 (of_decide_eq_true rfl))) ((f160 59 (of_decide_eq_true rfl)).trans (f139 59 (of_decide_eq_true rfl))) I57
                have I177 : jI102 σ158 := jI102_fr ((f161 6 (of_decide_eq_true rfl)).trans (f140 6 (of_decide_eq_true rfl))) ((f160 60 (of_decide_eq_true rfl)).trans (f139 60 (of_decide_eq_true rfl))) ((f160 61 (of_decide_eq_true rfl)).trans (f139 61 (of_decide_eq_true rfl))) I58
                have I178 : jI103 σ158 := jI103_fr ((f161 9 (of_decide_eq_true rfl)).trans (f140 9 (of_decide_eq_true rfl))) I59
                have I179 : jI104 σ158 := jI104_fr ((f161 10 (of_decide_eq_true rfl)).trans ((f140 10 (of_decide_eq_true rfl)).trans ((f52 10 (of_decide_eq_true rfl)).trans (f34 10 (of_decide_eq_true rfl))))) ((f161 12 (of_decide_eq_true rfl)).trans ((f140 12 (of_decide_eq_true rfl)).trans ((f52 12 (of_decide_eq_true rfl)).trans (f34 12 (of_decide_eq_true rfl))))) ((f161 13 (of_decide_eq_true rfl)).trans ((f140 13 (of_decide_eq_true rfl)).trans ((f52 13 (of_decide_eq_true rfl)).trans (f34 13 (of_decide_eq_true rfl))))) ((f160 62 (of_decide_eq_true rfl)).trans ((f139 62 (of_decide_eq_true rfl)).trans ((f51 62 (of_decide_eq_true rfl)).trans (f33 62 (of_decide_eq_true rfl))))) ((f160 67 (of_decide_eq_true rfl)).trans ((f139 67 (of_decide_eq_true rfl)).trans ((f51 67 (of_decide_eq_true rfl)).trans (f33 67 (of_decide_eq_true rfl))))) hI104
                have I180 : jI105 σ158 := jI105_fr ((f161 15 (of_decide_eq_true rfl)).trans ((f140 15 (of_decide_eq_true rfl)).trans (f52 15 (of_decide_eq_true rfl)))) ((f160 65 (of_decide_eq_true rfl)).trans ((f139 65 (of_decide_eq_true rfl)).trans (f51 65 (of_decide_eq_true rfl)))) I47
                have I181 : jI106 σ158 := jI106_fr ((f161 32 (of_decide_eq_true rfl)).trans ((f140 32 (of_decide_eq_true rfl)).trans ((f52 32 (of_decide_eq_true rfl)).trans (f34 32 (of_decide_eq_true rfl))))) ((f160 70 (of_decide_eq_true rfl)).trans ((f139 70 (of_decide_eq_true rfl)).trans ((f51 70 (of_decide_eq_true rfl)).trans (f33 70 (of_decide_eq_true rfl))))) ((f160 71 (of_decide_eq_true rfl)).trans ((f139 71 (of_decide_eq_true rfl)).trans ((f51 71 (of_decide_eq_true rfl)).trans (f33 71 (of_decide_eq_true rfl))))) ((f160 72 (of_decide_eq_true rfl)).trans ((f139 72 (of_decide_eq_true rfl)).trans ((f51 72 (of_decide_eq_true rfl)).trans (f33 72 (of_decide_eq_true rfl))))) hI106
                have z182 : (σ158 55 10).toInt = (σ 55 10).toInt := (congrArg Int32.toInt (show σ158 55 10 = (σ 55 10) from ((f161 10 (of_decide_eq_true rfl)).trans ((f140 10 (of_decide_eq_true rfl)).trans ((f52 10 (of_decide_eq_true rfl)).trans (f34 10 (of_decide_eq_true rfl)))))))
                have z183 : (σ158 55 12).toInt = (σ 55 12).toInt := (congrArg Int32.toInt (show σ158 55 12 = (σ 55 12) from ((f161 12 (of_decide_eq_true rfl)).trans ((f140 12 (of_decide_eq_true rfl)).trans ((f52 12 (of_decide_eq_true rfl)).trans (f34 12 (of_decide_eq_true rfl)))))))
                exact by
                 have I184 : jI120 σ158 := ⟨(by omega), (by omega), (by omega), (by omega), (by omega), w162⟩
                 have p185 : jKept σ158 := jKept.fr (f160 75 (of_decide_eq_true rfl)) (f160 76 (of_decide_eq_true rfl)) (f160 77 (of_decide_eq_true rfl)) p129
                 refine jcallV (As := [.int a1, .int x67]) (rest := []) ⟨hx, hb, hml, hown, hts⟩ hK hP hA hS hZ (h_lf σ158 τ a1 (A1) t1 x67 (x67.toInt) rfl I176 I177 I178 I179 I180 I181 I184 p185 (by omega) (by omega) (by omega)) cw_RX12_328 (jc_55 cI cL ad σ158 τ) rfl ⟨by dsimp only; omega, by dsimp only; omega⟩ rfl rfl rfl hl.1 rfl (Nat.le_of_ble_eq_true rfl) dX12_likelyFrom_93 ⟨Nat.zero_le _, Nat.zero_le _⟩ (fun r187 σ186 τ186 H locs h186 hP hS => ?_)
                 obtain ⟨rfl, f188, f189, p190, h186⟩ := h186
                 refine lv_istore (lv' := [(9, .int r187), (7, .int r159), (8, .int r105), (6, .int x67), (5, .int r50), (4, .int x43), (3, .int r32), (0, .ref (ad 55)), (1, .int a1), (2, .int a2)]) hx hb dX12_likelyFrom_96 hl (of_decide_eq_true rfl) rfl (fun ls hl => ?_)
                 refine lv_aload_n hx hb dX12_likelyFrom_98 rfl (lv_at hl 7 rfl) ?_
                 refine lv_iload_n hx hb dX12_likelyFrom_99 rfl (lv_at hl 6 rfl) ?_
                 refine lv_iconst (v := 0) hx hb dX12_likelyFrom_100 (of_decide_eq_true rfl) ?_
                 refine lv_iload hx hb dX12_likelyFrom_101 (lv_at hl 1 rfl) ?_
                 exact by
                  have w192 : ∀ k : Nat, k < 4 → 0 ≤ (σ186 68 k).toInt ∧ (σ186 68 k).toInt ≤ 3 := (jrr_fr (f188 68 (of_decide_eq_true rfl)) w162)
                  have z193 : (σ186 55 25).toInt = (σ158 55 25).toInt := (congrArg Int32.toInt (show σ186 55 25 = (σ158 55 25) from (f189 25 (of_decide_eq_true rfl))))
                  have z194 : (σ186 55 26).toInt = (σ158 55 26).toInt := (congrArg Int32.toInt (show σ186 55 26 = (σ158 55 26) from (f189 26 (of_decide_eq_true rfl))))
                  have z195 : (σ186 55 6).toInt = (σ 55 6).toInt := (congrArg Int32.toInt (show σ186 55 6 = (σ 55 6) from ((f189 6 (of_decide_eq_true rfl)).trans ((f161 6 (of_decide_eq_true rfl)).trans ((f140 6 (of_decide_eq_true rfl)).trans ((f52 6 (of_decide_eq_true rfl)).trans (f34 6 (of_decide_eq_true rfl))))))))
                  have w196 : ∀ k : Nat, k < 4 → 0 ≤ (σ117 68 k).toInt ∧ (σ117 68 k).toInt ≤ 3 := w149
                  have z198 : (σ117 55 27).toInt = (σ 55 27).toInt := (congrArg Int32.toInt (show σ117 55 27 = (σ 55 27) from ((f140 27 (of_decide_eq_true rfl)).trans ((f52 27 (of_decide_eq_true rfl)).trans (f34 27 (of_decide_eq_true rfl))))))
                  have k197 := jwas (by omega) (w196 0 (of_decide_eq_true rfl)) (w196 1 (of_decide_eq_true rfl)) (w196 2 (of_decide_eq_true rfl)) (w196 3 (of_decide_eq_true rfl)) k170
                  rw [← (show σ186 55 6 = σ117 55 6 from ((f189 6 (of_decide_eq_true rfl)).trans (f161 6 (of_decide_eq_true rfl))))] at k197
                  refine jcallVv (As := [.int r32, .int 0, .int r159]) (rest := []) ⟨hx, hb, hml, hown, hts⟩ hK hP hA hS hZ (c_X12_goesBack_0 l D cI cL ad zz hJ σ186 τ r32 (r32.toInt) rfl r159 (r159.toInt) rfl w192 (by omega) (by omega) (by omega) k197) cw_RX12_300 (jc_55 cI cL ad σ186 τ) rfl ⟨by dsimp only; omega, by dsimp only; omega⟩ rfl rfl rfl hl.1 rfl (Nat.le_of_ble_eq_true rfl) dX12_likelyFrom_103 ⟨Nat.zero_le _, Nat.zero_le _⟩ (fun σ199 τ199 H locs h199 hP hS => ?_)
                  exact by
                   obtain ⟨rfl, f201, f202, w203, w204, w205, h199⟩ := h199
                   obtain ⟨k207, k208, k209, k210, h199⟩ := h199
                   have p211 : jKept σ199 := jKept.fr (f201 75 (of_decide_eq_true rfl)) (f201 76 (of_decide_eq_true rfl)) (f201 77 (of_decide_eq_true rfl)) p190
                   have e212 : σ186 69 = σ158 69 := (f188 69 (of_decide_eq_true rfl))
                   have e213 : σ199 69 = σ117 69 := jback69 w163 e212 w204
                   have e214 : σ186 68 = σ158 68 := (f188 68 (of_decide_eq_true rfl))
                   have e215 : σ186 55 6 = σ117 55 6 := ((f189 6 (of_decide_eq_true rfl)).trans (f161 6 (of_decide_eq_true rfl)))
                   have w223 : ∀ k : Nat, k < 4 → 0 ≤ (σ117 68 k).toInt ∧ (σ117 68 k).toInt ≤ 3 := w149
                   have w224 : ∀ k : Nat, k < 4 → 0 ≤ (σ199 68 k).toInt ∧ (σ199 68 k).toInt ≤ 3 := w203
                   have k225 := k210
                   rw [e215] at k225
                   have D216 := jdig (w223 0 (of_decide_eq_true rfl)) (w223 1 (of_decide_eq_true rfl)) (w223 2 (of_decide_eq_true rfl)) (w223 3 (of_decide_eq_true rfl)) (w224 0 (of_decide_eq_true rfl)) (w224 1 (of_decide_eq_true rfl)) (w224 2 (of_decide_eq_true rfl)) (w224 3 (of_decide_eq_true rfl)) k170 k225
                   exact by
                    have e217 : σ199 55 27 = σ117 55 27 := Int32.toInt_inj.mp (by have h9 := D216.1; omega)
                    have z226 : (σ186 55 26).toInt = (σ158 55 26).toInt := (congrArg Int32.toInt (show σ186 55 26 = (σ158 55 26) from (f189 26 (of_decide_eq_true rfl))))
                    have z227 : (σ117 55 26).toInt = (σ 55 26).toInt := (congrArg Int32.toInt (show σ117 55 26 = (σ 55 26) from ((f140 26 (of_decide_eq_true rfl)).trans ((f52 26 (of_decide_eq_true rfl)).trans (f34 26 (of_decide_eq_true rfl))))))
                    have z228 : (σ186 55 25).toInt = (σ158 55 25).toInt := (congrArg Int32.toInt (show σ186 55 25 = (σ158 55 25) from (f189 25 (of_decide_eq_true rfl))))
                    have z229 : (σ117 55 25).toInt = (σ 55 25).toInt := (congrArg Int32.toInt (show σ117 55 25 = (σ 55 25) from ((f140 25 (of_decide_eq_true rfl)).trans ((f52 25 (of_decide_eq_true rfl)).trans (f34 25 (of_decide_eq_true rfl))))))
                    have e218 : σ199 55 26 = σ117 55 26 := Int32.toInt_inj.mp (by omega)
                    have e219 : σ199 55 25 = σ117 55 25 := Int32.toInt_inj.mp (by omega)
                    have z230 : (σ117 55 6).toInt = (σ 55 6).toInt := (congrArg Int32.toInt (show σ117 55 6 = (σ 55 6) from ((f140 6 (of_decide_eq_true rfl)).trans ((f52 6 (of_decide_eq_true rfl)).trans (f34 6 (of_decide_eq_true rfl))))))
                    have e220 : σ199 68 = σ117 68 := jback68 (nb := (σ117 55 6).toInt) (by omega) w164 e214 (fun k hk => w205 k (by rw [e215]; exact hk)) D216.2
                    exact by
                     have f221 : (∀ i : Nat, (i < 55 ∨ 55 < i) ∧ (i < 66 ∨ 66 < i) ∧ (i < 74 ∨ 78 < i) → σ199 i = σ117 i) := fun i hi0 => by
                       by_cases h8 : i = 68
                       · rw [h8]; exact e220
                       by_cases h9 : i = 69
                       · rw [h9]; exact e213
                       have hi : ((i < 55 ∨ 55 < i) ∧ (i < 66 ∨ 66 < i) ∧ (i < 74 ∨ 78 < i)) ∧ i ≠ 68 ∧ i ≠ 69 := ⟨hi0, h8, h9⟩
                       exact ((f201 i (imp_200 i hi)).trans ((f188 i (imp_201 i hi)).trans (f160 i (imp_200 i hi))))
                     have f222 : ∀ i : Nat, (i < 18 ∨ 18 < i) ∧ (i < 19 ∨ 19 < i) ∧ (i < 20 ∨ 20 < i) ∧ (i < 21 ∨ 21 < i) ∧ (i < 22 ∨ 22 < i) ∧ (i < 37 ∨ 37 < i) → σ199 55 i = σ117 55 i := fun i hi0 => by
                       by_cases h25 : i = 25
                       · rw [h25]; exact e219
                       by_cases h26 : i = 26
                       · rw [h26]; exact e218
                       by_cases h27 : i = 27
                       · rw [h27]; exact e217
                       have hi : ((i < 18 ∨ 18 < i) ∧ (i < 19 ∨ 19 < i) ∧ (i < 20 ∨ 20 < i) ∧ (i < 21 ∨ 21 < i) ∧ (i < 22 ∨ 22 < i) ∧ (i < 37 ∨ 37 < i)) ∧ i ≠ 25 ∧ i ≠ 26 ∧ i ≠ 27 := ⟨hi0, h25, h26, h27⟩
                       exact ((f202 i (imp_202 i hi)).trans ((f189 i (imp_203 i hi)).trans (f161 i (imp_202 i hi))))
                     clear k225 k210 k170
                     refine lv_iload hx hb dX12_likelyFrom_106 (lv_at hl 3 rfl) ?_
                     refine lv_if_le (tgt := 117) hx hb dX12_likelyFrom_108 (of_decide_eq_true rfl) (fun c231 => ?_) (fun c231 => ?_)
                     · have kc231 := jle c231 rfl jz_0
                       refine lv_iconst (v := 0) hx hb dX12_likelyFrom_117 (of_decide_eq_true rfl) ?_
                       refine lv_iload hx hb dX12_likelyFrom_118 (lv_at hl 2 rfl) ?_
                       refine lv_iload hx hb dX12_likelyFrom_120 (lv_at hl 0 rfl) ?_
                       refine lv_iload hx hb dX12_likelyFrom_122 (lv_at hl 4 rfl) ?_
                       refine jcallS (As := [.int r105, .int r187, .int r50]) (rest := [.int 0]) ⟨hx, hb, hml, hown, hts⟩ hK hP hA hS hZ (c_X12_mixed l D cI cL ad zz hJ σ199 τ r105 (r105.toInt) rfl r187 (r187.toInt) rfl r50 (r50.toInt) rfl) cw_RX12_304 ⟨by dsimp only; omega, by dsimp only; omega⟩ rfl rfl rfl hl.1 rfl (Nat.le_of_ble_eq_true rfl) dX12_likelyFrom_124 ⟨Nat.zero_le _, Nat.zero_le _⟩ (fun r233 σ232 τ232 H locs h232 hP hS => ?_)
                       obtain ⟨⟨rfl, rfl⟩, h232⟩ := h232
                       refine lv_aload_n hx hb dX12_likelyFrom_127 rfl (lv_at hl 7 rfl) ?_
                       refine va_get (D := D) hx hb hts inlX12 hown hK hP 55 (jc_55 cI cL ad σ199 τ) rfl 13 (of_decide_eq_true rfl) (hts _ kw_15_14) (fun _ h9 => h9) rfl dX12_likelyFrom_128 ?_
                       have m234 : σ199 55 13 = (σ 55 13) := ((f222 13 (of_decide_eq_true rfl)).trans ((f140 13 (of_decide_eq_true rfl)).trans ((f52 13 (of_decide_eq_true rfl)).trans (f34 13 (of_decide_eq_true rfl)))))
                       refine jtopr m234 ?_
                       refine jcallS (As := [.int 0, .int r233, .int (σ 55 13)]) (rest := []) ⟨hx, hb, hml, hown, hts⟩ hK hP hA hS hZ (c_X12_mixed l D cI cL ad zz hJ σ199 τ 0 (0) jz_0 r233 (r233.toInt) rfl (σ 55 13) ((σ 55 13).toInt) rfl) cw_RX12_304 ⟨by dsimp only; omega, by dsimp only; omega⟩ rfl rfl rfl hl.1 rfl (Nat.le_of_ble_eq_true rfl) dX12_likelyFrom_131 ⟨Nat.zero_le _, Nat.zero_le _⟩ (fun r236 σ235 τ235 H locs h235 hP hS => ?_)
                       obtain ⟨⟨rfl, rfl⟩, h235⟩ := h235
                       exact hret r236 σ199 τ _ _ _ _ rfl ⟨rfl, (fun i hi => ((f221 i hi).trans ((f139 i hi).trans ((f51 i (imp_204 i hi)).trans (f33 i hi))))), (fun i hi => ((f222 i hi).trans ((f140 i hi).trans ((f52 i (imp_205 i hi)).trans (f34 i hi))))), p211, trivial⟩ hP hS dX12_likelyFrom_134
                     · have kc231 := jnle c231 rfl jz_0
                       refine lv_ldcw (v := 1000000) hx hb hown (hts _ kw_37_13) dX12_likelyFrom_111 ?_
                       refine lv_goto (tgt := 118) hx hb dX12_likelyFrom_114 (of_decide_eq_true rfl) ?_
                       refine lv_iload hx hb dX12_likelyFrom_118 (lv_at hl 2 rfl) ?_
                       refine lv_iload hx hb dX12_likelyFrom_120 (lv_at hl 0 rfl) ?_
                       refine lv_iload hx hb dX12_likelyFrom_122 (lv_at hl 4 rfl) ?_
                       refine jcallS (As := [.int r105, .int r187, .int r50]) (rest := [.int 1000000]) ⟨hx, hb, hml, hown, hts⟩ hK hP hA hS hZ (c_X12_mixed l D cI cL ad zz hJ σ199 τ r105 (r105.toInt) rfl r187 (r187.toInt) rfl r50 (r50.toInt) rfl) cw_RX12_304 ⟨by dsimp only; omega, by dsimp only; omega⟩ rfl rfl rfl hl.1 rfl (Nat.le_of_ble_eq_true rfl) dX12_likelyFrom_124 ⟨Nat.zero_le _, Nat.zero_le _⟩ (fun r238 σ237 τ237 H locs h237 hP hS => ?_)
                       obtain ⟨⟨rfl, rfl⟩, h237⟩ := h237
                       refine lv_aload_n hx hb dX12_likelyFrom_127 rfl (lv_at hl 7 rfl) ?_
                       refine va_get (D := D) hx hb hts inlX12 hown hK hP 55 (jc_55 cI cL ad σ199 τ) rfl 13 (of_decide_eq_true rfl) (hts _ kw_15_14) (fun _ h9 => h9) rfl dX12_likelyFrom_128 ?_
                       have m239 : σ199 55 13 = (σ 55 13) := ((f222 13 (of_decide_eq_true rfl)).trans ((f140 13 (of_decide_eq_true rfl)).trans ((f52 13 (of_decide_eq_true rfl)).trans (f34 13 (of_decide_eq_true rfl)))))
                       refine jtopr m239 ?_
                       refine jcallS (As := [.int 1000000, .int r238, .int (σ 55 13)]) (rest := []) ⟨hx, hb, hml, hown, hts⟩ hK hP hA hS hZ (c_X12_mixed l D cI cL ad zz hJ σ199 τ 1000000 (1000000) jz_1000000 r238 (r238.toInt) rfl (σ 55 13) ((σ 55 13).toInt) rfl) cw_RX12_304 ⟨by dsimp only; omega, by dsimp only; omega⟩ rfl rfl rfl hl.1 rfl (Nat.le_of_ble_eq_true rfl) dX12_likelyFrom_131 ⟨Nat.zero_le _, Nat.zero_le _⟩ (fun r241 σ240 τ240 H locs h240 hP hS => ?_)
                       obtain ⟨⟨rfl, rfl⟩, h240⟩ := h240
                       exact hret r241 σ199 τ _ _ _ _ rfl ⟨rfl, (fun i hi => ((f221 i hi).trans ((f139 i hi).trans ((f51 i (imp_204 i hi)).trans (f33 i hi))))), (fun i hi => ((f222 i hi).trans ((f140 i hi).trans ((f52 i (imp_205 i hi)).trans (f34 i hi))))), p211, trivial⟩ hP hS dX12_likelyFrom_134
set_option maxHeartbeats 4000000 in
set_option maxRecDepth 100000 in
theorem c_X12_likelies_lf_z (l : Launch) (D : va_G) (cI cL : ClassId) (ad zz : Nat → Nat) (hJ : jD ad) (σ : Nat → Nat → Int32) (τ : Nat → Nat → Int64) (a1 : Int32) (A1 : Int) (t1 : a1.toInt = A1) (a2 : Int32) (A2 : Int) (t2 : a2.toInt = A2) (hI101 : jI101 σ) (hI102 : jI102 σ) (hI103 : jI103 σ) (hI104 : jI104 σ) (hI105 : jI105 σ) (hI106 : jI106 σ) (hI120 : jI120 σ) (hs_jKept : jKept σ) (hp0 : 0 ≤ A1 ∧ A1 ≤ 19) (hp1 : (σ 55 12).toInt - (σ 55 26).toInt ≤ 8) (hp2 : (σ 55 12).toInt - (σ 55 26).toInt ≤ (((0) : Nat) : Int)) : jM l yX12_likelyFrom cX12_likelyFrom 10 (some .int) ({ frames := (106 + 4 * (0)), cells := 0, slots := 0, locals := (5261 + 240 * (0)) }) D cI cL ad zz [.ref (ad 55), .int a1, .int a2] σ τ (fun r σ' τ' => τ = τ' ∧ (∀ i : Nat, (i < 55 ∨ 55 < i) ∧ (i < 66 ∨ 66 < i) ∧ (i < 74 ∨ 78 < i) → σ' i = σ i) ∧ (∀ k : Nat, (k < 18 ∨ 18 < k) ∧ (k < 19 ∨ 19 < k) ∧ (k < 20 ∨ 20 < k) ∧ (k < 21 ∨ 21 < k) ∧ (k < 22 ∨ 22 < k) ∧ (k < 37 ∨ 37 < k) → σ' 55 k = σ 55 k) ∧ (jKept σ') ∧ True) := by
  refine jM.of hJ (by decide +kernel) (nt := .int) rfl (Nat.le_of_ble_eq_true rfl) ?_
  intro p e s m args below meth c Q ls hC hret hl hP
  obtain ⟨hx, hb, hr, hml, hown, hts, hK, -, hlocks, hZ⟩ := hC
  have hown : s.vm.findClass RX12 = some m.cls := hown
  have hS : va_S (jA ad) s.heap s.heap [] := va_S.rf
  have hA : ∀ q, jA ad q → jA ad q := fun _ h => h
  have hl : lv_has ls 10 [(0, .ref (ad 55)), (1, .int a1), (2, .int a2)] := hl
  have g1 := jrg t1
  have g2 := jrg t2
  obtain ⟨i1, w2, w3⟩ : (0 ≤ (σ 55 6).toInt ∧ (σ 55 6).toInt ≤ 4) ∧ (∀ k : Nat, k < 4 → 0 ≤ (σ 60 k).toInt ∧ (σ 60 k).toInt ≤ 50) ∧ (∀ k : Nat, k < 4 → 0 ≤ (σ 61 k).toInt ∧ (σ 61 k).toInt ≤ 20) := id hI102
  obtain ⟨i4, i5, i6, w7, w8⟩ : (1 ≤ (σ 55 10).toInt ∧ (σ 55 10).toInt ≤ 8) ∧ (1 ≤ (σ 55 12).toInt ∧ (σ 55 12).toInt ≤ 12) ∧ (0 ≤ (σ 55 13).toInt ∧ (σ 55 13).toInt ≤ 999) ∧ (∀ k : Nat, k < 8 → 0 ≤ (σ 62 k).toInt ∧ (σ 62 k).toInt ≤ 3) ∧ (∀ k : Nat, k < 8 → 0 ≤ (σ 67 k).toInt ∧ (σ 67 k).toInt ≤ 3) := id hI104
  obtain ⟨i9, i10, i11, i12, i13, w14⟩ : (0 ≤ (σ 55 25).toInt) ∧ ((σ 55 25).toInt ≤ (σ 55 10).toInt) ∧ (0 ≤ (σ 55 26).toInt) ∧ ((σ 55 26).toInt ≤ (σ 55 12).toInt) ∧ ((-1) ≤ (σ 55 27).toInt ∧ (σ 55 27).toInt ≤ 3) ∧ (∀ k : Nat, k < 4 → 0 ≤ (σ 68 k).toInt ∧ (σ 68 k).toInt ≤ 3) := id hI120
  refine lv_aload_n hx hb dX12_likelyFrom_0 rfl (lv_at hl 0 rfl) ?_
  refine jcallV (As := []) (rest := []) ⟨hx, hb, hml, hown, hts⟩ hK hP hA hS hZ (c_X12_isEnded l D cI cL ad zz hJ σ τ hI102 hI104 hI120) cw_RX12_307 (jc_55 cI cL ad σ τ) rfl ⟨by dsimp only; omega, by dsimp only; omega⟩ rfl rfl rfl hl.1 rfl (Nat.le_of_ble_eq_true rfl) dX12_likelyFrom_1 ⟨Nat.zero_le _, Nat.zero_le _⟩ (fun r16 σ15 τ15 H locs h15 hP hS => ?_)
  obtain ⟨⟨rfl, rfl⟩, h15⟩ := h15
  rcases h15 with h17 | h18
  · obtain ⟨q20, k19⟩ := h17
    have q20 := q20.symm
    subst q20
    refine lv_if_eq (tgt := 19) hx hb dX12_likelyFrom_4 (of_decide_eq_true rfl) (fun c => absurd c (of_decide_eq_true rfl)) (fun _ => ?_)
    refine lv_iload_n hx hb dX12_likelyFrom_7 rfl (lv_at hl 2 rfl) ?_
    refine lv_if_le (tgt := 17) hx hb dX12_likelyFrom_8 (of_decide_eq_true rfl) (fun c21 => ?_) (fun c21 => ?_)
    · have kc21 := jle c21 t2 jz_0
      refine lv_iconst (v := 0) hx hb dX12_likelyFrom_17 (of_decide_eq_true rfl) ?_
      exact hret 0 σ τ _ _ _ _ rfl ⟨rfl, (fun _ _ => rfl), (fun _ _ => rfl), hs_jKept, trivial⟩ hP hS dX12_likelyFrom_18
    · have kc21 := jnle c21 t2 jz_0
      refine lv_ldcw (v := 1000000) hx hb hown (hts _ kw_37_13) dX12_likelyFrom_11 ?_
      refine lv_goto (tgt := 18) hx hb dX12_likelyFrom_14 (of_decide_eq_true rfl) ?_
      exact hret 1000000 σ τ _ _ _ _ rfl ⟨rfl, (fun _ _ => rfl), (fun _ _ => rfl), hs_jKept, trivial⟩ hP hS dX12_likelyFrom_18
  · obtain ⟨q25, k22, k23, k24⟩ := h18
    exact absurd (by omega : False) id
set_option maxHeartbeats 4000000 in
set_option maxRecDepth 100000 in
theorem c_X12_likelies (l : Launch) (D : va_G) (cI cL : ClassId) (ad zz : Nat → Nat) (hJ : jD ad) (n : Nat) : (∀ (σ : Nat → Nat → Int32) (τ : Nat → Nat → Int64) (a1 : Int32) (A1 : Int) (t1 : a1.toInt = A1) (a2 : Int32) (A2 : Int) (t2 : a2.toInt = A2) (hI101 : jI101 σ) (hI102 : jI102 σ) (hI103 : jI103 σ) (hI104 : jI104 σ) (hI105 : jI105 σ) (hI106 : jI106 σ) (hI120 : jI120 σ) (hs_jKept : jKept σ) (hp0 : 0 ≤ A1 ∧ A1 ≤ 19) (hp1 : (σ 55 12).toInt - (σ 55 26).toInt ≤ 8) (hp2 : (σ 55 12).toInt - (σ 55 26).toInt ≤ (((n) : Nat) : Int)), jM l yX12_likelyFrom cX12_likelyFrom 10 (some .int) ({ frames := (106 + 4 * (n)), cells := 0, slots := 0, locals := (5261 + 240 * (n)) }) D cI cL ad zz [.ref (ad 55), .int a1, .int a2] σ τ (fun r σ' τ' => τ = τ' ∧ (∀ i : Nat, (i < 55 ∨ 55 < i) ∧ (i < 66 ∨ 66 < i) ∧ (i < 74 ∨ 78 < i) → σ' i = σ i) ∧ (∀ k : Nat, (k < 18 ∨ 18 < k) ∧ (k < 19 ∨ 19 < k) ∧ (k < 20 ∨ 20 < k) ∧ (k < 21 ∨ 21 < k) ∧ (k < 22 ∨ 22 < k) ∧ (k < 37 ∨ 37 < k) → σ' 55 k = σ 55 k) ∧ (jKept σ') ∧ True)) := by
  induction n with
  | zero =>
    have h_lf := c_X12_likelies_lf_z l D cI cL ad zz hJ
    exact h_lf
  | succ n ih =>
    have g_lf := ih
    have h_lf := c_X12_likelies_lf_g l D cI cL ad zz hJ n g_lf
    exact h_lf
