set_option maxHeartbeats 4000000 in
set_option maxRecDepth 100000 in
theorem c_X12_putsOn (l : Launch) (D : va_G) (cI cL : ClassId) (ad zz : Nat → Nat) (hJ : jD ad) (σ : Nat → Nat → Int32) (τ : Nat → Nat → Int64) (B0 : Int32) (hB0 : jmb σ B0 = 1) (a1 : Int32) (A1 : Int) (t1 : a1.toInt = A1) (hI101 : jI101 σ) (hI102 : jI102 σ) (hI103 : jI103 σ) (hI104 : jI104 σ) (hI105 : jI105 σ) (hI106 : jI106 σ) (hI120 : jI120 σ) (hs_jKept : jKept σ) (hs_jTR : jTR σ) (hs_jqSt : jqSt σ) (hp0 : 0 ≤ B0.toInt ∧ B0.toInt < (σ 55 6).toInt) (hp1 : 0 ≤ A1 ∧ A1 ≤ 19) (hp2 : (σ 55 25).toInt < (σ 55 10).toInt) (hp3 : (σ 55 26).toInt < (σ 55 12).toInt) (hp4 : ((σ 70 a1.toNatClampNeg).toInt ≠ 2) ∨ ((σ 55 12).toInt - (σ 55 26).toInt ≤ 8)) : jM l yX12_putsOn cX12_putsOn 7 (some .int) ({ frames := 103, cells := 0, slots := 0, locals := 5061 }) D cI cL ad zz [.ref (ad 55), .int a1] σ τ (fun r σ' τ' => τ = τ' ∧ (∀ i : Nat, (i < 55 ∨ 55 < i) ∧ (i < 66 ∨ 66 < i) ∧ (i < 74 ∨ 78 < i) → σ' i = σ i) ∧ (∀ k : Nat, (k < 18 ∨ 18 < k) ∧ (k < 19 ∨ 19 < k) ∧ (k < 20 ∨ 20 < k) ∧ (k < 21 ∨ 21 < k) ∧ (k < 22 ∨ 22 < k) ∧ (k < 37 ∨ 37 < k) → σ' 55 k = σ 55 k) ∧ (jKept σ') ∧ (jTR σ') ∧ (jqSt σ') ∧ ((jrP σ → jrM σ → (r : Int32).toInt = jrPv σ (A1) ∧ jrM σ')) ∧ ((True ∧ (0 ≤ r.toInt ∧ r.toInt ≤ 3)))) := by
  refine jM.of hJ (by decide +kernel) (nt := .int) rfl (Nat.le_of_ble_eq_true rfl) ?_
  intro p e s m args below meth c Q ls hC hret hl hP
  obtain ⟨hx, hb, hr, hml, hown, hts, hK, -, hlocks, hZ⟩ := hC
  have hown : s.vm.findClass RX12 = some m.cls := hown
  have hS : va_S (jA ad) s.heap s.heap [] := va_S.rf
  have hA : ∀ q, jA ad q → jA ad q := fun _ h => h
  have hl : lv_has ls 7 [(0, .ref (ad 55)), (1, .int a1)] := hl
  have g1 := jrg t1
  obtain ⟨i1, w2, w3⟩ : (0 ≤ (σ 55 6).toInt ∧ (σ 55 6).toInt ≤ 4) ∧ (∀ k : Nat, k < 4 → 0 ≤ (σ 60 k).toInt ∧ (σ 60 k).toInt ≤ 50) ∧ (∀ k : Nat, k < 4 → 0 ≤ (σ 61 k).toInt ∧ (σ 61 k).toInt ≤ 20) := id hI102
  obtain ⟨i4, i5, i6, w7, w8⟩ : (1 ≤ (σ 55 10).toInt ∧ (σ 55 10).toInt ≤ 8) ∧ (1 ≤ (σ 55 12).toInt ∧ (σ 55 12).toInt ≤ 12) ∧ (0 ≤ (σ 55 13).toInt ∧ (σ 55 13).toInt ≤ 999) ∧ (∀ k : Nat, k < 8 → 0 ≤ (σ 62 k).toInt ∧ (σ 62 k).toInt ≤ 3) ∧ (∀ k : Nat, k < 8 → 0 ≤ (σ 67 k).toInt ∧ (σ 67 k).toInt ≤ 3) := id hI104
  obtain ⟨i9, w10⟩ : (0 ≤ (σ 55 15).toInt ∧ (σ 55 15).toInt ≤ 80) ∧ (∀ k : Nat, k < 2 → (-1) ≤ (σ 65 k).toInt ∧ (σ 65 k).toInt ≤ 80) := id hI105
  obtain ⟨i11, w12, w13, w14⟩ : (0 ≤ (σ 55 32).toInt ∧ (σ 55 32).toInt ≤ 20) ∧ (∀ k : Nat, k < 20 → 0 ≤ (σ 70 k).toInt ∧ (σ 70 k).toInt ≤ 6) ∧ (∀ k : Nat, k < 20 → 0 ≤ (σ 71 k).toInt ∧ (σ 71 k).toInt ≤ 8) ∧ (∀ k : Nat, k < 160 → 0 ≤ (σ 72 k).toInt ∧ (σ 72 k).toInt ≤ 3) := id hI106
  obtain ⟨i15, i16, i17, i18, i19, w20⟩ : (0 ≤ (σ 55 25).toInt) ∧ ((σ 55 25).toInt ≤ (σ 55 10).toInt) ∧ (0 ≤ (σ 55 26).toInt) ∧ ((σ 55 26).toInt ≤ (σ 55 12).toInt) ∧ ((-1) ≤ (σ 55 27).toInt ∧ (σ 55 27).toInt ≤ 3) ∧ (∀ k : Nat, k < 4 → 0 ≤ (σ 68 k).toInt ∧ (σ 68 k).toInt ≤ 3) := id hI120
  refine lv_aload_n hx hb dX12_putsOn_0 rfl (lv_at hl 0 rfl) ?_
  refine va_get (D := D) hx hb hts inlX12 hown hK hP 55 (jc_55 cI cL ad σ τ) rfl 33 (of_decide_eq_true rfl) (hts _ kw_7_18) (fun _ h9 => h9) rfl dX12_putsOn_1 ?_
  refine lv_iload_n hx hb dX12_putsOn_4 rfl (lv_at hl 1 rfl) ?_
  exact by
   refine jald hx hb hK hP (jc_70 cI cL ad σ τ) (jin t1 (by omega) (by omega)) dX12_putsOn_5 ?_
   have g21 := w12 _ (jnat (x := a1) t1 (n := 20) (by omega) (of_decide_eq_true rfl))
   refine jtopr (y := (σ 70 a1.toNatClampNeg)) rfl ?_
   refine lv_iconst (v := 1) hx hb dX12_putsOn_6 (of_decide_eq_true rfl) ?_
   refine lv_icmp_ne (tgt := 17) hx hb dX12_putsOn_7 (of_decide_eq_true rfl) (fun c22 => ?_) (fun c22 => ?_)
   · have kc22 := jne c22 rfl jz_1
     refine lv_aload_n hx hb dX12_putsOn_17 rfl (lv_at hl 0 rfl) ?_
     refine va_get (D := D) hx hb hts inlX12 hown hK hP 55 (jc_55 cI cL ad σ τ) rfl 33 (of_decide_eq_true rfl) (hts _ kw_7_18) (fun _ h9 => h9) rfl dX12_putsOn_18 ?_
     refine lv_iload_n hx hb dX12_putsOn_21 rfl (lv_at hl 1 rfl) ?_
     exact by
      refine jald hx hb hK hP (jc_70 cI cL ad σ τ) (jin t1 (by omega) (by omega)) dX12_putsOn_22 ?_
      have g23 := w12 _ (jnat (x := a1) t1 (n := 20) (by omega) (of_decide_eq_true rfl))
      refine jtopr (y := (σ 70 a1.toNatClampNeg)) rfl ?_
      refine lv_iconst (v := 4) hx hb dX12_putsOn_23 (of_decide_eq_true rfl) ?_
      refine lv_icmp_ne (tgt := 86) hx hb dX12_putsOn_24 (of_decide_eq_true rfl) (fun c24 => ?_) (fun c24 => ?_)
      · have kc24 := jne c24 rfl jz_4
        refine lv_aload_n hx hb dX12_putsOn_86 rfl (lv_at hl 0 rfl) ?_
        refine va_get (D := D) hx hb hts inlX12 hown hK hP 55 (jc_55 cI cL ad σ τ) rfl 33 (of_decide_eq_true rfl) (hts _ kw_7_18) (fun _ h9 => h9) rfl dX12_putsOn_87 ?_
        refine lv_iload_n hx hb dX12_putsOn_90 rfl (lv_at hl 1 rfl) ?_
        exact by
         refine jald hx hb hK hP (jc_70 cI cL ad σ τ) (jin t1 (by omega) (by omega)) dX12_putsOn_91 ?_
         refine jtopr (y := (σ 70 a1.toNatClampNeg)) rfl ?_
         refine lv_iconst (v := 2) hx hb dX12_putsOn_92 (of_decide_eq_true rfl) ?_
         refine lv_icmp_ne (tgt := 106) hx hb dX12_putsOn_93 (of_decide_eq_true rfl) (fun c25 => ?_) (fun c25 => ?_)
         · have kc25 := jne c25 rfl jz_2
           refine lv_iconst (v := (-1)) hx hb dX12_putsOn_106 (of_decide_eq_true rfl) ?_
           refine lv_istore_n (lv' := [(2, .int (-1)), (0, .ref (ad 55)), (1, .int a1)]) hx hb dX12_putsOn_107 rfl hl (of_decide_eq_true rfl) rfl (fun ls hl => ?_)
           refine lv_iconst (v := 0) hx hb dX12_putsOn_108 (of_decide_eq_true rfl) ?_
           refine lv_istore_n (lv' := [(3, .int 0), (2, .int (-1)), (0, .ref (ad 55)), (1, .int a1)]) hx hb dX12_putsOn_109 rfl hl (of_decide_eq_true rfl) rfl (fun ls hl => ?_)
           refine lv_iconst (v := 0) hx hb dX12_putsOn_110 (of_decide_eq_true rfl) ?_
           refine lv_istore (lv' := [(4, .int 0), (3, .int 0), (2, .int (-1)), (0, .ref (ad 55)), (1, .int a1)]) hx hb dX12_putsOn_111 hl (of_decide_eq_true rfl) rfl (fun ls hl => ?_)
           have lp26 : ∀ (n27 : Nat) (x28 : Int32) (x29 : Int32) (x30 : Int32) (σ33 : Nat → Nat → Int32) (H : Heap) (locs : List Loc) (ls : Array Slot), (-x30.toInt + 4 : Int) < n27 → (-1) ≤ x28.toInt → x28.toInt ≤ 3 → 0 ≤ x30.toInt → x30.toInt ≤ 4 → ((0 ≤ x28.toInt) ∨ (x28.toInt = (-1) ∧ x30.toInt ≤ B0.toInt)) → (∀ i : Nat, (i < 55 ∨ 55 < i) ∧ (i < 66 ∨ 66 < i) → σ33 i = σ i) → (∀ k : Nat, (k < 18 ∨ 18 < k) ∧ (k < 19 ∨ 19 < k) ∧ (k < 20 ∨ 20 < k) ∧ (k < 21 ∨ 21 < k) ∧ (k < 22 ∨ 22 < k) → σ33 55 k = σ 55 k) → ((jrP σ → jrM σ → jrGt σ (A1) (x30 : Int32).toInt (x28 : Int32).toInt (x29 : Int32).toInt ∧ jrM σ33)) → jH D cI cL ad σ33 τ H → va_S (jA ad) s.heap H locs → lv_has ls 7 [(4, .int x30), (3, .int x29), (2, .int x28), (0, .ref (ad 55)), (1, .int a1)] → W p l e ({ frames := 103, cells := 0, slots := 0, locals := 5061 }) s m args below meth c H locs 0 0 Q (F0 m 113 ls []) := by
             intro n27
             induction n27 with
             | zero => intro x28 x29 x30 σ33 H locs ls h35 h36 h37 h38 h39 h40; have gx29 := jrg (rfl : x29.toInt = x29.toInt); exact absurd h35 (by omega)
             | succ n27 ihlp26 =>
               intro x28 x29 x30 σ33 H locs ls h35 h36 h37 h38 h39 h40 f41 f42 q43 hP hS hl
               exact by
                have gx29 := jrg (rfl : x29.toInt = x29.toInt)
                have H47 : σ33 55 27 = σ 55 27 := (f42 27 (of_decide_eq_true rfl))
                have H44 : jrP σ → jrP σ33 := fun pr => ((jrEq.v (σ := σ) (σ' := σ33) ⟨⟨(f41 56 (of_decide_eq_true rfl)), (f41 60 (of_decide_eq_true rfl)), (f41 61 (of_decide_eq_true rfl)), (f41 62 (of_decide_eq_true rfl)), (f41 64 (of_decide_eq_true rfl)), (f41 65 (of_decide_eq_true rfl))⟩, (f42 6 (of_decide_eq_true rfl)), (f42 9 (of_decide_eq_true rfl)), (f42 10 (of_decide_eq_true rfl)), (f42 12 (of_decide_eq_true rfl)), (f42 13 (of_decide_eq_true rfl)), (f42 30 (of_decide_eq_true rfl)), (f42 31 (of_decide_eq_true rfl)), (f42 42 (of_decide_eq_true rfl))⟩ (f41 68 (of_decide_eq_true rfl)) (f41 69 (of_decide_eq_true rfl)) (f42 25 (of_decide_eq_true rfl)) (f42 26 (of_decide_eq_true rfl)) (f42 27 (of_decide_eq_true rfl))).2 pr)
                have H45 : jrLf σ33 = jrLf σ := by unfold jrLf; rw [(show jrEq σ σ33 from ⟨⟨(f41 56 (of_decide_eq_true rfl)), (f41 60 (of_decide_eq_true rfl)), (f41 61 (of_decide_eq_true rfl)), (f41 62 (of_decide_eq_true rfl)), (f41 64 (of_decide_eq_true rfl)), (f41 65 (of_decide_eq_true rfl))⟩, (f42 6 (of_decide_eq_true rfl)), (f42 9 (of_decide_eq_true rfl)), (f42 10 (of_decide_eq_true rfl)), (f42 12 (of_decide_eq_true rfl)), (f42 13 (of_decide_eq_true rfl)), (f42 30 (of_decide_eq_true rfl)), (f42 31 (of_decide_eq_true rfl)), (f42 42 (of_decide_eq_true rfl))⟩).ov, show σ33 55 6 = σ 55 6 from (f42 6 (of_decide_eq_true rfl)), show jrW σ33 = jrW σ from by funext c; unfold jrW; rw [show σ33 69 = σ 69 from (f41 69 (of_decide_eq_true rfl))]]
                have H46 : jrRg σ33 = jrRg σ := jrEq.rg (σ := σ) (σ' := σ33) ⟨⟨(f41 56 (of_decide_eq_true rfl)), (f41 60 (of_decide_eq_true rfl)), (f41 61 (of_decide_eq_true rfl)), (f41 62 (of_decide_eq_true rfl)), (f41 64 (of_decide_eq_true rfl)), (f41 65 (of_decide_eq_true rfl))⟩, (f42 6 (of_decide_eq_true rfl)), (f42 9 (of_decide_eq_true rfl)), (f42 10 (of_decide_eq_true rfl)), (f42 12 (of_decide_eq_true rfl)), (f42 13 (of_decide_eq_true rfl)), (f42 30 (of_decide_eq_true rfl)), (f42 31 (of_decide_eq_true rfl)), (f42 42 (of_decide_eq_true rfl))⟩ (f41 68 (of_decide_eq_true rfl)) (f41 69 (of_decide_eq_true rfl)) (f42 25 (of_decide_eq_true rfl)) (f42 26 (of_decide_eq_true rfl)) (f41 70 (of_decide_eq_true rfl)) (f41 73 (of_decide_eq_true rfl))
                have z48 : (σ33 55 25).toInt = (σ 55 25).toInt := (congrArg Int32.toInt (show σ33 55 25 = (σ 55 25) from (f42 25 (of_decide_eq_true rfl))))
                have z49 : (σ33 55 26).toInt = (σ 55 26).toInt := (congrArg Int32.toInt (show σ33 55 26 = (σ 55 26) from (f42 26 (of_decide_eq_true rfl))))
                have z50 : (σ33 55 27).toInt = (σ 55 27).toInt := (congrArg Int32.toInt (show σ33 55 27 = (σ 55 27) from (f42 27 (of_decide_eq_true rfl))))
                have z51 : (σ33 55 6).toInt = (σ 55 6).toInt := (congrArg Int32.toInt (show σ33 55 6 = (σ 55 6) from (f42 6 (of_decide_eq_true rfl))))
                refine lv_iload hx hb dX12_putsOn_113 (lv_at hl 0 rfl) ?_
                refine lv_aload_n hx hb dX12_putsOn_115 rfl (lv_at hl 3 rfl) ?_
                refine va_get (D := D) hx hb hts inlX12 hown hK hP 55 (jc_55 cI cL ad σ33 τ) rfl 6 (of_decide_eq_true rfl) (hts _ kw_9_13) (fun _ h9 => h9) rfl dX12_putsOn_116 ?_
                have m52 : σ33 55 6 = (σ 55 6) := (f42 6 (of_decide_eq_true rfl))
                refine jtopr m52 ?_
                refine lv_icmp_ge (tgt := 255) hx hb dX12_putsOn_119 (of_decide_eq_true rfl) (fun c53 => ?_) (fun c53 => ?_)
                · have kc53 := jle c53 rfl rfl
                  refine lv_iload_n hx hb dX12_putsOn_255 rfl (lv_at hl 2 rfl) ?_
                  have p54 : jKept σ33 := jKept.fr (f41 75 (of_decide_eq_true rfl)) (f41 76 (of_decide_eq_true rfl)) (f41 77 (of_decide_eq_true rfl)) hs_jKept
                  have p55 : jTR σ33 := jTR.fr (f41 64 (of_decide_eq_true rfl)) (f41 65 (of_decide_eq_true rfl)) hs_jTR
                  have p56 : jqSt σ33 := jqSt.fr (f41 78 (of_decide_eq_true rfl)) (f42 42 (of_decide_eq_true rfl)) hs_jqSt
                  have z57 : (σ33 55 37).toInt = (σ 55 37).toInt := (congrArg Int32.toInt (show σ33 55 37 = (σ 55 37) from (f42 37 (of_decide_eq_true rfl))))
                  exact by exact hret x28 σ33 τ _ _ _ _ rfl ⟨rfl, (fun i hi => (f41 i (imp_204 i hi))), (fun i hi => (f42 i (imp_205 i hi))), p54, p55, p56, (fun pr mm => ⟨(q43 pr mm).1.fin (by omega) (by omega) (by omega) (by rw [(show (σ 70 (A1).toNat).toInt = (σ 70 a1.toNatClampNeg).toInt from by rw [jnc (show a1.toInt = A1 from t1)])]; omega), (q43 pr mm).2⟩), ⟨trivial, (by omega)⟩⟩ hP hS dX12_putsOn_256
                · have kc53 := jnle c53 rfl rfl
                  refine lv_aload_n hx hb dX12_putsOn_122 rfl (lv_at hl 3 rfl) ?_
                  refine lv_iload hx hb dX12_putsOn_123 (lv_at hl 0 rfl) ?_
                  exact by
                   refine jcallV (As := [.int x30]) (rest := []) ⟨hx, hb, hml, hown, hts⟩ hK hP hA hS hZ (c_X12_mayBowl l D cI cL ad zz hJ σ33 τ x30 (x30.toInt) rfl (by omega)) cw_RX12_249 (jc_55 cI cL ad σ33 τ) rfl ⟨Nat.le_of_ble_eq_true rfl, Nat.le_of_ble_eq_true rfl⟩ rfl rfl rfl hl.1 rfl (Nat.le_of_ble_eq_true rfl) dX12_putsOn_125 ⟨Nat.zero_le _, Nat.zero_le _⟩ (fun r59 σ58 τ58 H locs h58 hP hS => ?_)
                   obtain ⟨⟨rfl, rfl⟩, h58⟩ := h58
                   rcases h58 with h60 | h61
                   · obtain ⟨q63, k62⟩ := h60
                     have q63 := q63.symm
                     subst q63
                     refine lv_if_ne (tgt := 134) hx hb dX12_putsOn_128 (of_decide_eq_true rfl) (fun _ => ?_) (fun c => absurd c (of_decide_eq_true rfl))
                     refine lv_aload_n hx hb dX12_putsOn_134 rfl (lv_at hl 3 rfl) ?_
                     refine va_get (D := D) hx hb hts inlX12 hown hK hP 55 (jc_55 cI cL ad σ33 τ) rfl 33 (of_decide_eq_true rfl) (hts _ kw_7_18) (fun _ h9 => h9) rfl dX12_putsOn_135 ?_
                     refine lv_iload_n hx hb dX12_putsOn_138 rfl (lv_at hl 4 rfl) ?_
                     exact by
                      refine jald hx hb hK hP (jc_70 cI cL ad σ33 τ) (jin t1 (by omega) (by omega)) dX12_putsOn_139 ?_
                      refine jtopr (y := (σ 70 a1.toNatClampNeg)) (by rw [f41 70 (of_decide_eq_true rfl)]) ?_
                      refine lv_bipush (v := 6) hx hb dX12_putsOn_140 (of_decide_eq_true rfl) ?_
                      refine lv_icmp_ne (tgt := 149) hx hb dX12_putsOn_142 (of_decide_eq_true rfl) (fun c64 => ?_) (fun c64 => ?_)
                      · have kc64 := jne c64 rfl jz_6
                        refine lv_iconst (v := 0) hx hb dX12_putsOn_149 (of_decide_eq_true rfl) ?_
                        refine lv_istore (lv' := [(5, .int 0), (4, .int x30), (3, .int x29), (2, .int x28), (0, .ref (ad 55)), (1, .int a1)]) hx hb dX12_putsOn_150 hl (of_decide_eq_true rfl) rfl (fun ls hl => ?_)
                        refine lv_iload hx hb dX12_putsOn_152 (lv_at hl 0 rfl) ?_
                        refine lv_if_ne (tgt := 167) hx hb dX12_putsOn_154 (of_decide_eq_true rfl) (fun c => absurd (of_decide_eq_true rfl) c) (fun _ => ?_)
                        exact by
                         refine lv_aload_n hx hb dX12_putsOn_157 rfl (lv_at hl 4 rfl) ?_
                         refine lv_iload_n hx hb dX12_putsOn_158 rfl (lv_at hl 5 rfl) ?_
                         refine lv_iload hx hb dX12_putsOn_159 (lv_at hl 1 rfl) ?_
                         have I65 : jI101 σ33 := jI101_fr (f42 4 (of_decide_eq_true rfl)) (f42 5 (of_decide_eq_true rfl)) (f41 56 (of_decide_eq_true rfl)) (f41 57 (of_decide_eq_true rfl)) (f41 58 (of_decide_eq_true rfl)) (f41 59 (of_decide_eq_true rfl)) hI101
                         have I66 : jI102 σ33 := jI102_fr (f42 6 (of_decide_eq_true rfl)) (f41 60 (of_decide_eq_true rfl)) (f41 61 (of_decide_eq_true rfl)) hI102
                         have I67 : jI103 σ33 := jI103_fr (f42 9 (of_decide_eq_true rfl)) hI103
                         have I68 : jI104 σ33 := jI104_fr (f42 10 (of_decide_eq_true rfl)) (f42 12 (of_decide_eq_true rfl)) (f42 13 (of_decide_eq_true rfl)) (f41 62 (of_decide_eq_true rfl)) (f41 67 (of_decide_eq_true rfl)) hI104
                         have I69 : jI105 σ33 := jI105_fr (f42 15 (of_decide_eq_true rfl)) (f41 65 (of_decide_eq_true rfl)) hI105
                         have I70 : jI106 σ33 := jI106_fr (f42 32 (of_decide_eq_true rfl)) (f41 70 (of_decide_eq_true rfl)) (f41 71 (of_decide_eq_true rfl)) (f41 72 (of_decide_eq_true rfl)) hI106
                         have w71 : ∀ k : Nat, k < 4 → 0 ≤ (σ33 68 k).toInt ∧ (σ33 68 k).toInt ≤ 3 := (jrr_fr (f41 68 (of_decide_eq_true rfl)) w20)
                         have p72 : jTR σ33 := jTR.fr (f41 64 (of_decide_eq_true rfl)) (f41 65 (of_decide_eq_true rfl)) hs_jTR
                         exact by
                          refine jcallV (As := [.int a1, .int x30]) (rest := []) ⟨hx, hb, hml, hown, hts⟩ hK hP hA hS hZ (c_X12_worthBy l D cI cL ad zz hJ σ33 τ a1 (A1) t1 x30 (x30.toInt) rfl I65 I66 I67 I68 I69 I70 w71 p72 (by omega) (by omega) (by omega) (by omega)) cw_RX12_286 (jc_55 cI cL ad σ33 τ) rfl ⟨Nat.le_of_ble_eq_true rfl, Nat.le_of_ble_eq_true rfl⟩ rfl rfl rfl hl.1 rfl (Nat.le_of_ble_eq_true rfl) dX12_putsOn_161 ⟨Nat.zero_le _, Nat.zero_le _⟩ (fun r74 σ73 τ73 H locs h73 hP hS => ?_)
                          obtain ⟨rfl, f75, f76, p77, w78, h73⟩ := h73
                          have G80 : jrP σ → (r74 : Int32).toInt = -(jrRg σ (A1) (x30 : Int32).toInt.toNat) := fun pr => by have ge := w78 (H44 pr) k62 (by omega) (by rw [show σ33 70 = σ 70 from (f41 70 (of_decide_eq_true rfl)), (show (σ 70 (A1).toNat).toInt = (σ 70 a1.toNatClampNeg).toInt from by rw [jnc (show a1.toInt = A1 from t1)])]; omega); rw [H46] at ge; exact ge
                          refine lv_goto (tgt := 217) hx hb dX12_putsOn_164 (of_decide_eq_true rfl) ?_
                          refine lv_istore (lv' := [(6, .int r74), (5, .int 0), (4, .int x30), (3, .int x29), (2, .int x28), (0, .ref (ad 55)), (1, .int a1)]) hx hb dX12_putsOn_217 hl (of_decide_eq_true rfl) rfl (fun ls hl => ?_)
                          refine lv_iload_n hx hb dX12_putsOn_219 rfl (lv_at hl 4 rfl) ?_
                          refine lv_if_lt (tgt := 243) hx hb dX12_putsOn_220 (of_decide_eq_true rfl) (fun c81 => ?_) (fun c81 => ?_)
                          · have kc81 := jlt c81 rfl jz_0
                            refine lv_iload hx hb dX12_putsOn_243 (lv_at hl 2 rfl) ?_
                            exact by
                             refine lv_istore_n (lv' := [(2, .int x30), (6, .int r74), (5, .int 0), (4, .int x30), (3, .int x29), (0, .ref (ad 55)), (1, .int a1)]) hx hb dX12_putsOn_245 rfl hl (of_decide_eq_true rfl) rfl (fun ls hl => ?_)
                             refine lv_iload hx hb dX12_putsOn_246 (lv_at hl 1 rfl) ?_
                             refine lv_istore_n (lv' := [(3, .int r74), (2, .int x30), (6, .int r74), (5, .int 0), (4, .int x30), (0, .ref (ad 55)), (1, .int a1)]) hx hb dX12_putsOn_248 rfl hl (of_decide_eq_true rfl) rfl (fun ls hl => ?_)
                             obtain ⟨x82, ex82⟩ : ∃ y : Int32, y = x30 + 1 := ⟨_, rfl⟩
                             have tx82 : x82.toInt = x30.toInt + 1 := (jadd ex82 rfl jz_1 (by omega) (by omega)).trans (by omega)
                             refine lv_iinc (v := x82) (lv' := [(4, .int x82), (3, .int r74), (2, .int x30), (6, .int r74), (5, .int 0), (0, .ref (ad 55)), (1, .int a1)]) hx hb dX12_putsOn_249 hl (k := 4) rfl (by rw [ex82]; rfl) (of_decide_eq_true rfl) rfl (fun ls hl => ?_)
                             refine lv_goto (tgt := 113) hx hb dX12_putsOn_252 (of_decide_eq_true rfl) ?_
                             exact by exact ihlp26 x30 r74 x82 σ73 _ _ ls (by have h92 := tx82; omega) (by have h92 := tx82; omega) (by have h92 := tx82; omega) (by have h92 := tx82; omega) (by have h92 := tx82; omega) (by have h92 := tx82; omega) (fun i hi => ((f75 i hi).trans (f41 i hi))) (fun i hi => ((f76 i hi).trans (f42 i hi)))  (fun pr mm => by have prh := H44 pr; have q := q43 pr mm; have my := (prh.my (by omega) (by omega) (by omega)).mp k62; rw [H47, H45] at my; have ge := G80 pr; exact ⟨q.1.take (v := (r74 : Int32).toInt) (by omega) my (Or.inr ⟨by rw [(show (σ 70 (A1).toNat).toInt = (σ 70 a1.toNatClampNeg).toInt from by rw [jnc (show a1.toInt = A1 from t1)])]; omega, ge, (by omega)⟩) (by omega) (by omega) (by have h9 := tx82; omega), (jrEq.m (σ := σ33) (σ' := σ73) ⟨⟨(f75 56 (of_decide_eq_true rfl)), (f75 60 (of_decide_eq_true rfl)), (f75 61 (of_decide_eq_true rfl)), (f75 62 (of_decide_eq_true rfl)), (f75 64 (of_decide_eq_true rfl)), (f75 65 (of_decide_eq_true rfl))⟩, (f76 6 (of_decide_eq_true rfl)), (f76 9 (of_decide_eq_true rfl)), (f76 10 (of_decide_eq_true rfl)), (f76 12 (of_decide_eq_true rfl)), (f76 13 (of_decide_eq_true rfl)), (f76 30 (of_decide_eq_true rfl)), (f76 31 (of_decide_eq_true rfl)), (f76 42 (of_decide_eq_true rfl))⟩ (f75 78 (of_decide_eq_true rfl)) (f75 74 (of_decide_eq_true rfl)) (f75 75 (of_decide_eq_true rfl)) (f75 76 (of_decide_eq_true rfl)) (f75 77 (of_decide_eq_true rfl)) q.2)⟩) hP hS (lv_sub hl [0, 1, 2, 5, 6] rfl)
                          · have kc81 := jnlt c81 rfl jz_0
                            exact by
                             refine lv_iload hx hb dX12_putsOn_223 (lv_at hl 1 rfl) ?_
                             refine lv_if_eq (tgt := 237) hx hb dX12_putsOn_225 (of_decide_eq_true rfl) (fun _ => ?_) (fun c => absurd (of_decide_eq_true rfl) c)
                             refine lv_iload hx hb dX12_putsOn_237 (lv_at hl 0 rfl) ?_
                             refine lv_iload_n hx hb dX12_putsOn_239 rfl (lv_at hl 3 rfl) ?_
                             refine lv_icmp_ge (tgt := 249) hx hb dX12_putsOn_240 (of_decide_eq_true rfl) (fun c83 => ?_) (fun c83 => ?_)
                             · have kc83 := jle c83 rfl rfl
                               obtain ⟨x84, ex84⟩ : ∃ y : Int32, y = x30 + 1 := ⟨_, rfl⟩
                               have tx84 : x84.toInt = x30.toInt + 1 := (jadd ex84 rfl jz_1 (by omega) (by omega)).trans (by omega)
                               refine lv_iinc (v := x84) (lv' := [(4, .int x84), (6, .int r74), (5, .int 0), (3, .int x29), (2, .int x28), (0, .ref (ad 55)), (1, .int a1)]) hx hb dX12_putsOn_249 hl (k := 2) rfl (by rw [ex84]; rfl) (of_decide_eq_true rfl) rfl (fun ls hl => ?_)
                               exact by
                                refine lv_goto (tgt := 113) hx hb dX12_putsOn_252 (of_decide_eq_true rfl) ?_
                                exact by exact ihlp26 x28 x29 x84 σ73 _ _ ls (by have h92 := tx84; omega) (by have h92 := tx84; omega) (by have h92 := tx84; omega) (by have h92 := tx84; omega) (by have h92 := tx84; omega) (by have h92 := tx84; omega) (fun i hi => ((f75 i hi).trans (f41 i hi))) (fun i hi => ((f76 i hi).trans (f42 i hi)))  (fun pr mm => by have prh := H44 pr; have q := q43 pr mm; have ge := G80 pr; exact ⟨q.1.keep (v := (r74 : Int32).toInt) (by omega) (Or.inr ⟨by rw [(show (σ 70 (A1).toNat).toInt = (σ 70 a1.toNatClampNeg).toInt from by rw [jnc (show a1.toInt = A1 from t1)])]; omega, ge, (by omega)⟩) (by have h9 := tx84; omega), (jrEq.m (σ := σ33) (σ' := σ73) ⟨⟨(f75 56 (of_decide_eq_true rfl)), (f75 60 (of_decide_eq_true rfl)), (f75 61 (of_decide_eq_true rfl)), (f75 62 (of_decide_eq_true rfl)), (f75 64 (of_decide_eq_true rfl)), (f75 65 (of_decide_eq_true rfl))⟩, (f76 6 (of_decide_eq_true rfl)), (f76 9 (of_decide_eq_true rfl)), (f76 10 (of_decide_eq_true rfl)), (f76 12 (of_decide_eq_true rfl)), (f76 13 (of_decide_eq_true rfl)), (f76 30 (of_decide_eq_true rfl)), (f76 31 (of_decide_eq_true rfl)), (f76 42 (of_decide_eq_true rfl))⟩ (f75 78 (of_decide_eq_true rfl)) (f75 74 (of_decide_eq_true rfl)) (f75 75 (of_decide_eq_true rfl)) (f75 76 (of_decide_eq_true rfl)) (f75 77 (of_decide_eq_true rfl)) q.2)⟩) hP hS (lv_sub hl [0, 3, 4, 5, 6] rfl)
                             · have kc83 := jnle c83 rfl rfl
                               refine lv_iload hx hb dX12_putsOn_243 (lv_at hl 2 rfl) ?_
                               refine lv_istore_n (lv' := [(2, .int x30), (6, .int r74), (5, .int 0), (4, .int x30), (3, .int x29), (0, .ref (ad 55)), (1, .int a1)]) hx hb dX12_putsOn_245 rfl hl (of_decide_eq_true rfl) rfl (fun ls hl => ?_)
                               refine lv_iload hx hb dX12_putsOn_246 (lv_at hl 1 rfl) ?_
                               refine lv_istore_n (lv' := [(3, .int r74), (2, .int x30), (6, .int r74), (5, .int 0), (4, .int x30), (0, .ref (ad 55)), (1, .int a1)]) hx hb dX12_putsOn_248 rfl hl (of_decide_eq_true rfl) rfl (fun ls hl => ?_)
                               obtain ⟨x85, ex85⟩ : ∃ y : Int32, y = x30 + 1 := ⟨_, rfl⟩
                               have tx85 : x85.toInt = x30.toInt + 1 := (jadd ex85 rfl jz_1 (by omega) (by omega)).trans (by omega)
                               exact by
                                refine lv_iinc (v := x85) (lv' := [(4, .int x85), (3, .int r74), (2, .int x30), (6, .int r74), (5, .int 0), (0, .ref (ad 55)), (1, .int a1)]) hx hb dX12_putsOn_249 hl (k := 4) rfl (by rw [ex85]; rfl) (of_decide_eq_true rfl) rfl (fun ls hl => ?_)
                                refine lv_goto (tgt := 113) hx hb dX12_putsOn_252 (of_decide_eq_true rfl) ?_
                                exact by exact ihlp26 x30 r74 x85 σ73 _ _ ls (by have h92 := tx85; omega) (by have h92 := tx85; omega) (by have h92 := tx85; omega) (by have h92 := tx85; omega) (by have h92 := tx85; omega) (by have h92 := tx85; omega) (fun i hi => ((f75 i hi).trans (f41 i hi))) (fun i hi => ((f76 i hi).trans (f42 i hi)))  (fun pr mm => by have prh := H44 pr; have q := q43 pr mm; have my := (prh.my (by omega) (by omega) (by omega)).mp k62; rw [H47, H45] at my; have ge := G80 pr; exact ⟨q.1.take (v := (r74 : Int32).toInt) (by omega) my (Or.inr ⟨by rw [(show (σ 70 (A1).toNat).toInt = (σ 70 a1.toNatClampNeg).toInt from by rw [jnc (show a1.toInt = A1 from t1)])]; omega, ge, (by omega)⟩) (by omega) (by omega) (by have h9 := tx85; omega), (jrEq.m (σ := σ33) (σ' := σ73) ⟨⟨(f75 56 (of_decide_eq_true rfl)), (f75 60 (of_decide_eq_true rfl)), (f75 61 (of_decide_eq_true rfl)), (f75 62 (of_decide_eq_true rfl)), (f75 64 (of_decide_eq_true rfl)), (f75 65 (of_decide_eq_true rfl))⟩, (f76 6 (of_decide_eq_true rfl)), (f76 9 (of_decide_eq_true rfl)), (f76 10 (of_decide_eq_true rfl)), (f76 12 (of_decide_eq_true rfl)), (f76 13 (of_decide_eq_true rfl)), (f76 30 (of_decide_eq_true rfl)), (f76 31 (of_decide_eq_true rfl)), (f76 42 (of_decide_eq_true rfl))⟩ (f75 78 (of_decide_eq_true rfl)) (f75 74 (of_decide_eq_true rfl)) (f75 75 (of_decide_eq_true rfl)) (f75 76 (of_decide_eq_true rfl)) (f75 77 (of_decide_eq_true rfl)) q.2)⟩) hP hS (lv_sub hl [0, 1, 2, 5, 6] rfl)
                      · have kc64 := jeq c64 rfl jz_6
                        refine lv_iconst (v := 1) hx hb dX12_putsOn_145 (of_decide_eq_true rfl) ?_
                        refine lv_goto (tgt := 150) hx hb dX12_putsOn_146 (of_decide_eq_true rfl) ?_
                        refine lv_istore (lv' := [(5, .int 1), (4, .int x30), (3, .int x29), (2, .int x28), (0, .ref (ad 55)), (1, .int a1)]) hx hb dX12_putsOn_150 hl (of_decide_eq_true rfl) rfl (fun ls hl => ?_)
                        refine lv_iload hx hb dX12_putsOn_152 (lv_at hl 0 rfl) ?_
                        refine lv_if_ne (tgt := 167) hx hb dX12_putsOn_154 (of_decide_eq_true rfl) (fun _ => ?_) (fun c => absurd c (of_decide_eq_true rfl))
                        refine lv_aload_n hx hb dX12_putsOn_167 rfl (lv_at hl 4 rfl) ?_
                        refine va_get (D := D) hx hb hts inlX12 hown hK hP 55 (jc_55 cI cL ad σ33 τ) rfl 17 (of_decide_eq_true rfl) (hts _ kw_7_11) (fun _ h9 => h9) rfl dX12_putsOn_168 ?_
                        refine lv_iconst (v := 0) hx hb dX12_putsOn_171 (of_decide_eq_true rfl) ?_
                        exact by
                         refine jald hx hb hK hP (jc_65 cI cL ad σ33 τ) (jin jz_0 (by omega) (by omega)) dX12_putsOn_172 ?_
                         refine jtopr (y := σ33 65 0) rfl ?_
                         have m86 : σ33 65 0 = (σ 65 0) := (congrFun (f41 65 (of_decide_eq_true rfl)) 0)
                         refine jtopr m86 ?_
                         have w87 : ∀ k : Nat, k < 2 → (-1) ≤ (σ33 65 k).toInt ∧ (σ33 65 k).toInt ≤ 80 := (jrr_fr (f41 65 (of_decide_eq_true rfl)) w10)
                         have g88 := w87 0 (of_decide_eq_true rfl)
                         rw [m86] at g88
                         refine lv_if_ge (tgt := 180) hx hb dX12_putsOn_173 (of_decide_eq_true rfl) (fun c89 => ?_) (fun c89 => ?_)
                         · have kc89 := jle c89 jz_0 rfl
                           refine lv_aload_n hx hb dX12_putsOn_180 rfl (lv_at hl 4 rfl) ?_
                           refine lv_iconst (v := 0) hx hb dX12_putsOn_181 (of_decide_eq_true rfl) ?_
                           refine lv_iload hx hb dX12_putsOn_182 (lv_at hl 1 rfl) ?_
                           refine lv_aload_n hx hb dX12_putsOn_184 rfl (lv_at hl 4 rfl) ?_
                           refine va_get (D := D) hx hb hts inlX12 hown hK hP 55 (jc_55 cI cL ad σ33 τ) rfl 11 (of_decide_eq_true rfl) (hts _ kw_7_8) (fun _ h9 => h9) rfl dX12_putsOn_185 ?_
                           refine lv_aload_n hx hb dX12_putsOn_188 rfl (lv_at hl 4 rfl) ?_
                           refine va_get (D := D) hx hb hts inlX12 hown hK hP 55 (jc_55 cI cL ad σ33 τ) rfl 25 (of_decide_eq_true rfl) (hts _ kw_23_6) (fun _ h9 => h9) rfl dX12_putsOn_189 ?_
                           have m90 : σ33 55 25 = (σ 55 25) := (f42 25 (of_decide_eq_true rfl))
                           refine jtopr m90 ?_
                           exact by
                            refine jald hx hb hK hP (jc_62 cI cL ad σ33 τ) (jin rfl (by omega) (by omega)) dX12_putsOn_192 ?_
                            have w91 : ∀ k : Nat, k < 8 → 0 ≤ (σ33 62 k).toInt ∧ (σ33 62 k).toInt ≤ 3 := (jrr_fr (f41 62 (of_decide_eq_true rfl)) w7)
                            have g92 := w91 _ (jnat (x := (σ 55 25)) rfl (n := 8) (by omega) (of_decide_eq_true rfl))
                            refine jtopr (y := (σ 62 (σ 55 25).toNatClampNeg)) (by rw [f41 62 (of_decide_eq_true rfl)]) ?_
                            rw [f41 62 (of_decide_eq_true rfl)] at g92
                            refine lv_aload_n hx hb dX12_putsOn_193 rfl (lv_at hl 4 rfl) ?_
                            refine lv_iload hx hb dX12_putsOn_194 (lv_at hl 1 rfl) ?_
                            refine lv_aload_n hx hb dX12_putsOn_196 rfl (lv_at hl 4 rfl) ?_
                            refine va_get (D := D) hx hb hts inlX12 hown hK hP 55 (jc_55 cI cL ad σ33 τ) rfl 11 (of_decide_eq_true rfl) (hts _ kw_7_8) (fun _ h9 => h9) rfl dX12_putsOn_197 ?_
                            exact by
                             refine lv_aload_n hx hb dX12_putsOn_200 rfl (lv_at hl 4 rfl) ?_
                             refine va_get (D := D) hx hb hts inlX12 hown hK hP 55 (jc_55 cI cL ad σ33 τ) rfl 25 (of_decide_eq_true rfl) (hts _ kw_23_6) (fun _ h9 => h9) rfl dX12_putsOn_201 ?_
                             refine jtopr m90 ?_
                             refine jald hx hb hK hP (jc_62 cI cL ad σ33 τ) (jin rfl (by omega) (by omega)) dX12_putsOn_204 ?_
                             refine jtopr (y := (σ 62 (σ 55 25).toNatClampNeg)) (by rw [f41 62 (of_decide_eq_true rfl)]) ?_
                             have I93 : jI101 σ33 := jI101_fr (f42 4 (of_decide_eq_true rfl)) (f42 5 (of_decide_eq_true rfl)) (f41 56 (of_decide_eq_true rfl)) (f41 57 (of_decide_eq_true rfl)) (f41 58 (of_decide_eq_true rfl)) (f41 59 (of_decide_eq_true rfl)) hI101
                             have I94 : jI102 σ33 := jI102_fr (f42 6 (of_decide_eq_true rfl)) (f41 60 (of_decide_eq_true rfl)) (f41 61 (of_decide_eq_true rfl)) hI102
                             have I95 : jI103 σ33 := jI103_fr (f42 9 (of_decide_eq_true rfl)) hI103
                             have I96 : jI105 σ33 := jI105_fr (f42 15 (of_decide_eq_true rfl)) (f41 65 (of_decide_eq_true rfl)) hI105
                             exact by
                              have w97 : ∀ k : Nat, k < 4 → 0 ≤ (σ33 68 k).toInt ∧ (σ33 68 k).toInt ≤ 3 := (jrr_fr (f41 68 (of_decide_eq_true rfl)) w20)
                              have p98 : jTR σ33 := jTR.fr (f41 64 (of_decide_eq_true rfl)) (f41 65 (of_decide_eq_true rfl)) hs_jTR
                              refine jcallV (As := [.int x30, .int (σ 62 (σ 55 25).toNatClampNeg)]) (rest := [.int (σ 62 (σ 55 25).toNatClampNeg), .int x30, .int 0, .ref (ad 55)]) ⟨hx, hb, hml, hown, hts⟩ hK hP hA hS hZ (c_X12_outBy l D cI cL ad zz hJ σ33 τ x30 (x30.toInt) rfl (σ 62 (σ 55 25).toNatClampNeg) ((σ 62 (σ 55 25).toNatClampNeg).toInt) rfl I93 I94 I95 I96 w97 p98 (by omega) (by omega)) cw_RX12_259 (jc_55 cI cL ad σ33 τ) rfl ⟨Nat.le_of_ble_eq_true rfl, Nat.le_of_ble_eq_true rfl⟩ rfl rfl rfl hl.1 rfl (Nat.le_of_ble_eq_true rfl) dX12_putsOn_205 ⟨Nat.zero_le _, Nat.zero_le _⟩ (fun r100 σ99 τ99 H locs h99 hP hS => ?_)
                              obtain ⟨rfl, f101, f102, p103, w104, h99⟩ := h99
                              have h106 := h99
                              obtain ⟨q108, k107⟩ := h106
                              refine lv_aload_n hx hb dX12_putsOn_208 rfl (lv_at hl 4 rfl) ?_
                              refine va_get (D := D) hx hb hts inlX12 hown hK hP 55 (jc_55 cI cL ad σ99 τ) rfl 36 (of_decide_eq_true rfl) (hts _ kw_7_21) (fun _ h9 => h9) rfl dX12_putsOn_209 ?_
                              refine lv_iload_n hx hb dX12_putsOn_212 rfl (lv_at hl 5 rfl) ?_
                              exact by
                               refine jald hx hb hK hP (jc_73 cI cL ad σ99 τ) (jin t1 (by omega) (by omega)) dX12_putsOn_213 ?_
                               refine jtopr (y := (σ 73 a1.toNatClampNeg)) (by rw [f101 73 (of_decide_eq_true rfl), f41 73 (of_decide_eq_true rfl)]) ?_
                               have I109 : jI105 σ99 := jI105_fr (f102 15 (of_decide_eq_true rfl)) (f101 65 (of_decide_eq_true rfl)) I96
                               have z110 : (σ99 65 0).toInt = (σ 65 0).toInt := (congrArg Int32.toInt (show σ99 65 0 = (σ 65 0) from ((congrFun (f101 65 (of_decide_eq_true rfl)) 0).trans m86)))
                               refine jcallV (As := [.int 0, .int x30, .int (σ 62 (σ 55 25).toNatClampNeg), .int r100, .int (σ 73 a1.toNatClampNeg)]) (rest := []) ⟨hx, hb, hml, hown, hts⟩ hK hP hA hS hZ (c_X12_textGives_0 l D cI cL ad zz hJ σ99 τ x30 (x30.toInt) rfl (σ 62 (σ 55 25).toNatClampNeg) ((σ 62 (σ 55 25).toNatClampNeg).toInt) rfl r100 (r100.toInt) rfl (σ 73 a1.toNatClampNeg) ((σ 73 a1.toNatClampNeg).toInt) rfl I109 p103 (by omega) (by omega)) cw_RX12_252 (jc_55 cI cL ad σ99 τ) rfl ⟨Nat.le_of_ble_eq_true rfl, Nat.le_of_ble_eq_true rfl⟩ rfl rfl rfl hl.1 rfl (Nat.le_of_ble_eq_true rfl) dX12_putsOn_214 ⟨Nat.zero_le _, Nat.zero_le _⟩ (fun r112 σ111 τ111 H locs h111 hP hS => ?_)
                               obtain ⟨rfl, f113, f114, p115, w116, h111⟩ := h111
                               have z118 : (σ99 55 25).toInt = (σ 55 25).toInt := (congrArg Int32.toInt (show σ99 55 25 = (σ 55 25) from ((f102 25 (of_decide_eq_true rfl)).trans m90)))
                               have z119 : (σ99 55 26).toInt = (σ 55 26).toInt := (congrArg Int32.toInt (show σ99 55 26 = (σ 55 26) from ((f102 26 (of_decide_eq_true rfl)).trans (f42 26 (of_decide_eq_true rfl)))))
                               have z120 : (σ99 55 6).toInt = (σ 55 6).toInt := (congrArg Int32.toInt (show σ99 55 6 = (σ 55 6) from ((f102 6 (of_decide_eq_true rfl)).trans m52)))
                               exact by
                                have G121 : jrP σ → (r112 : Int32).toInt = jrRg σ (A1) (x30 : Int32).toInt.toNat := fun pr => by have c := jrCh_of (c := (x30 : Int32).toInt.toNat) (X := (σ 62 (σ 55 25).toInt.toNat).toInt) w104 ((jrEq.v (σ := σ) (σ' := σ33) ⟨⟨(f41 56 (of_decide_eq_true rfl)), (f41 60 (of_decide_eq_true rfl)), (f41 61 (of_decide_eq_true rfl)), (f41 62 (of_decide_eq_true rfl)), (f41 64 (of_decide_eq_true rfl)), (f41 65 (of_decide_eq_true rfl))⟩, (f42 6 (of_decide_eq_true rfl)), (f42 9 (of_decide_eq_true rfl)), (f42 10 (of_decide_eq_true rfl)), (f42 12 (of_decide_eq_true rfl)), (f42 13 (of_decide_eq_true rfl)), (f42 30 (of_decide_eq_true rfl)), (f42 31 (of_decide_eq_true rfl)), (f42 42 (of_decide_eq_true rfl))⟩ (f41 68 (of_decide_eq_true rfl)) (f41 69 (of_decide_eq_true rfl)) (f42 25 (of_decide_eq_true rfl)) (f42 26 (of_decide_eq_true rfl)) (f42 27 (of_decide_eq_true rfl))).2 pr) (by omega) (by omega) (by omega) rfl (w7 _ (by omega)) (by omega) (by omega) ((jmb_fr rfl rfl rfl rfl rfl x30).trans k62); rw [(jrEq.ch (σ := σ) (σ' := σ33) ⟨⟨(f41 56 (of_decide_eq_true rfl)), (f41 60 (of_decide_eq_true rfl)), (f41 61 (of_decide_eq_true rfl)), (f41 62 (of_decide_eq_true rfl)), (f41 64 (of_decide_eq_true rfl)), (f41 65 (of_decide_eq_true rfl))⟩, (f42 6 (of_decide_eq_true rfl)), (f42 9 (of_decide_eq_true rfl)), (f42 10 (of_decide_eq_true rfl)), (f42 12 (of_decide_eq_true rfl)), (f42 13 (of_decide_eq_true rfl)), (f42 30 (of_decide_eq_true rfl)), (f42 31 (of_decide_eq_true rfl)), (f42 42 (of_decide_eq_true rfl))⟩ (f41 68 (of_decide_eq_true rfl)) (f41 69 (of_decide_eq_true rfl)) (f42 25 (of_decide_eq_true rfl)) (f42 26 (of_decide_eq_true rfl))).1, (jrEq.ch (σ := σ) (σ' := σ33) ⟨⟨(f41 56 (of_decide_eq_true rfl)), (f41 60 (of_decide_eq_true rfl)), (f41 61 (of_decide_eq_true rfl)), (f41 62 (of_decide_eq_true rfl)), (f41 64 (of_decide_eq_true rfl)), (f41 65 (of_decide_eq_true rfl))⟩, (f42 6 (of_decide_eq_true rfl)), (f42 9 (of_decide_eq_true rfl)), (f42 10 (of_decide_eq_true rfl)), (f42 12 (of_decide_eq_true rfl)), (f42 13 (of_decide_eq_true rfl)), (f42 30 (of_decide_eq_true rfl)), (f42 31 (of_decide_eq_true rfl)), (f42 42 (of_decide_eq_true rfl))⟩ (f41 68 (of_decide_eq_true rfl)) (f41 69 (of_decide_eq_true rfl)) (f42 25 (of_decide_eq_true rfl)) (f42 26 (of_decide_eq_true rfl))).2.2.1, (jrEq.ch (σ := σ) (σ' := σ33) ⟨⟨(f41 56 (of_decide_eq_true rfl)), (f41 60 (of_decide_eq_true rfl)), (f41 61 (of_decide_eq_true rfl)), (f41 62 (of_decide_eq_true rfl)), (f41 64 (of_decide_eq_true rfl)), (f41 65 (of_decide_eq_true rfl))⟩, (f42 6 (of_decide_eq_true rfl)), (f42 9 (of_decide_eq_true rfl)), (f42 10 (of_decide_eq_true rfl)), (f42 12 (of_decide_eq_true rfl)), (f42 13 (of_decide_eq_true rfl)), (f42 30 (of_decide_eq_true rfl)), (f42 31 (of_decide_eq_true rfl)), (f42 42 (of_decide_eq_true rfl))⟩ (f41 68 (of_decide_eq_true rfl)) (f41 69 (of_decide_eq_true rfl)) (f42 25 (of_decide_eq_true rfl)) (f42 26 (of_decide_eq_true rfl))).2.2.2, show σ33 55 25 = σ 55 25 from (f42 25 (of_decide_eq_true rfl)), show σ33 55 26 = σ 55 26 from (f42 26 (of_decide_eq_true rfl))] at c; have tt := jrTx_of (c := (x30 : Int32).toInt.toNat) (X := (σ 62 (σ 55 25).toInt.toNat).toInt) (ρ := A1) w116 ((jrEq.v (σ := σ) (σ' := σ99) ⟨⟨((f101 56 (of_decide_eq_true rfl)).trans (f41 56 (of_decide_eq_true rfl))), ((f101 60 (of_decide_eq_true rfl)).trans (f41 60 (of_decide_eq_true rfl))), ((f101 61 (of_decide_eq_true rfl)).trans (f41 61 (of_decide_eq_true rfl))), ((f101 62 (of_decide_eq_true rfl)).trans (f41 62 (of_decide_eq_true rfl))), ((f101 64 (of_decide_eq_true rfl)).trans (f41 64 (of_decide_eq_true rfl))), ((f101 65 (of_decide_eq_true rfl)).trans (f41 65 (of_decide_eq_true rfl)))⟩, ((f102 6 (of_decide_eq_true rfl)).trans (f42 6 (of_decide_eq_true rfl))), ((f102 9 (of_decide_eq_true rfl)).trans (f42 9 (of_decide_eq_true rfl))), ((f102 10 (of_decide_eq_true rfl)).trans (f42 10 (of_decide_eq_true rfl))), ((f102 12 (of_decide_eq_true rfl)).trans (f42 12 (of_decide_eq_true rfl))), ((f102 13 (of_decide_eq_true rfl)).trans (f42 13 (of_decide_eq_true rfl))), ((f102 30 (of_decide_eq_true rfl)).trans (f42 30 (of_decide_eq_true rfl))), ((f102 31 (of_decide_eq_true rfl)).trans (f42 31 (of_decide_eq_true rfl))), ((f102 42 (of_decide_eq_true rfl)).trans (f42 42 (of_decide_eq_true rfl)))⟩ ((f101 68 (of_decide_eq_true rfl)).trans (f41 68 (of_decide_eq_true rfl))) ((f101 69 (of_decide_eq_true rfl)).trans (f41 69 (of_decide_eq_true rfl))) ((f102 25 (of_decide_eq_true rfl)).trans (f42 25 (of_decide_eq_true rfl))) ((f102 26 (of_decide_eq_true rfl)).trans (f42 26 (of_decide_eq_true rfl))) ((f102 27 (of_decide_eq_true rfl)).trans (f42 27 (of_decide_eq_true rfl)))).2 pr) (by omega) (by omega) (by omega) (by first | rfl | (rw [show σ99 62 = σ 62 from ((f101 62 (of_decide_eq_true rfl)).trans (f41 62 (of_decide_eq_true rfl)))]; rfl)) (w7 _ (by omega)) (by omega) (by omega) ((jmb_fr (f102 27 (of_decide_eq_true rfl)) (f102 30 (of_decide_eq_true rfl)) (f102 31 (of_decide_eq_true rfl)) (f101 56 (of_decide_eq_true rfl)) (f101 69 (of_decide_eq_true rfl)) x30).trans k62) (by omega) (by omega) (by rw [show σ99 73 = σ 73 from ((f101 73 (of_decide_eq_true rfl)).trans (f41 73 (of_decide_eq_true rfl)))]; rw [← jnc (show a1.toInt = A1 from t1)]); rw [(show jrEq σ σ99 from ⟨⟨((f101 56 (of_decide_eq_true rfl)).trans (f41 56 (of_decide_eq_true rfl))), ((f101 60 (of_decide_eq_true rfl)).trans (f41 60 (of_decide_eq_true rfl))), ((f101 61 (of_decide_eq_true rfl)).trans (f41 61 (of_decide_eq_true rfl))), ((f101 62 (of_decide_eq_true rfl)).trans (f41 62 (of_decide_eq_true rfl))), ((f101 64 (of_decide_eq_true rfl)).trans (f41 64 (of_decide_eq_true rfl))), ((f101 65 (of_decide_eq_true rfl)).trans (f41 65 (of_decide_eq_true rfl)))⟩, ((f102 6 (of_decide_eq_true rfl)).trans (f42 6 (of_decide_eq_true rfl))), ((f102 9 (of_decide_eq_true rfl)).trans (f42 9 (of_decide_eq_true rfl))), ((f102 10 (of_decide_eq_true rfl)).trans (f42 10 (of_decide_eq_true rfl))), ((f102 12 (of_decide_eq_true rfl)).trans (f42 12 (of_decide_eq_true rfl))), ((f102 13 (of_decide_eq_true rfl)).trans (f42 13 (of_decide_eq_true rfl))), ((f102 30 (of_decide_eq_true rfl)).trans (f42 30 (of_decide_eq_true rfl))), ((f102 31 (of_decide_eq_true rfl)).trans (f42 31 (of_decide_eq_true rfl))), ((f102 42 (of_decide_eq_true rfl)).trans (f42 42 (of_decide_eq_true rfl)))⟩).tx ((f101 73 (of_decide_eq_true rfl)).trans (f41 73 (of_decide_eq_true rfl))), ((show jrEq σ σ99 from ⟨⟨((f101 56 (of_decide_eq_true rfl)).trans (f41 56 (of_decide_eq_true rfl))), ((f101 60 (of_decide_eq_true rfl)).trans (f41 60 (of_decide_eq_true rfl))), ((f101 61 (of_decide_eq_true rfl)).trans (f41 61 (of_decide_eq_true rfl))), ((f101 62 (of_decide_eq_true rfl)).trans (f41 62 (of_decide_eq_true rfl))), ((f101 64 (of_decide_eq_true rfl)).trans (f41 64 (of_decide_eq_true rfl))), ((f101 65 (of_decide_eq_true rfl)).trans (f41 65 (of_decide_eq_true rfl)))⟩, ((f102 6 (of_decide_eq_true rfl)).trans (f42 6 (of_decide_eq_true rfl))), ((f102 9 (of_decide_eq_true rfl)).trans (f42 9 (of_decide_eq_true rfl))), ((f102 10 (of_decide_eq_true rfl)).trans (f42 10 (of_decide_eq_true rfl))), ((f102 12 (of_decide_eq_true rfl)).trans (f42 12 (of_decide_eq_true rfl))), ((f102 13 (of_decide_eq_true rfl)).trans (f42 13 (of_decide_eq_true rfl))), ((f102 30 (of_decide_eq_true rfl)).trans (f42 30 (of_decide_eq_true rfl))), ((f102 31 (of_decide_eq_true rfl)).trans (f42 31 (of_decide_eq_true rfl))), ((f102 42 (of_decide_eq_true rfl)).trans (f42 42 (of_decide_eq_true rfl)))⟩).ch ((f101 68 (of_decide_eq_true rfl)).trans (f41 68 (of_decide_eq_true rfl))) ((f101 69 (of_decide_eq_true rfl)).trans (f41 69 (of_decide_eq_true rfl))) ((f102 25 (of_decide_eq_true rfl)).trans (f42 25 (of_decide_eq_true rfl))) ((f102 26 (of_decide_eq_true rfl)).trans (f42 26 (of_decide_eq_true rfl)))).2.2.1, ((show jrEq σ σ99 from ⟨⟨((f101 56 (of_decide_eq_true rfl)).trans (f41 56 (of_decide_eq_true rfl))), ((f101 60 (of_decide_eq_true rfl)).trans (f41 60 (of_decide_eq_true rfl))), ((f101 61 (of_decide_eq_true rfl)).trans (f41 61 (of_decide_eq_true rfl))), ((f101 62 (of_decide_eq_true rfl)).trans (f41 62 (of_decide_eq_true rfl))), ((f101 64 (of_decide_eq_true rfl)).trans (f41 64 (of_decide_eq_true rfl))), ((f101 65 (of_decide_eq_true rfl)).trans (f41 65 (of_decide_eq_true rfl)))⟩, ((f102 6 (of_decide_eq_true rfl)).trans (f42 6 (of_decide_eq_true rfl))), ((f102 9 (of_decide_eq_true rfl)).trans (f42 9 (of_decide_eq_true rfl))), ((f102 10 (of_decide_eq_true rfl)).trans (f42 10 (of_decide_eq_true rfl))), ((f102 12 (of_decide_eq_true rfl)).trans (f42 12 (of_decide_eq_true rfl))), ((f102 13 (of_decide_eq_true rfl)).trans (f42 13 (of_decide_eq_true rfl))), ((f102 30 (of_decide_eq_true rfl)).trans (f42 30 (of_decide_eq_true rfl))), ((f102 31 (of_decide_eq_true rfl)).trans (f42 31 (of_decide_eq_true rfl))), ((f102 42 (of_decide_eq_true rfl)).trans (f42 42 (of_decide_eq_true rfl)))⟩).ch ((f101 68 (of_decide_eq_true rfl)).trans (f41 68 (of_decide_eq_true rfl))) ((f101 69 (of_decide_eq_true rfl)).trans (f41 69 (of_decide_eq_true rfl))) ((f102 25 (of_decide_eq_true rfl)).trans (f42 25 (of_decide_eq_true rfl))) ((f102 26 (of_decide_eq_true rfl)).trans (f42 26 (of_decide_eq_true rfl)))).2.2.2, show σ99 55 25 = σ 55 25 from ((f102 25 (of_decide_eq_true rfl)).trans (f42 25 (of_decide_eq_true rfl))), show σ99 55 26 = σ 55 26 from ((f102 26 (of_decide_eq_true rfl)).trans (f42 26 (of_decide_eq_true rfl))), c] at tt; rw [jrRg_6 (by rw [(show (σ 70 (A1).toNat).toInt = (σ 70 a1.toNatClampNeg).toInt from by rw [jnc (show a1.toInt = A1 from t1)])]; omega)]; exact tt
                                refine lv_istore (lv' := [(6, .int r112), (5, .int 1), (4, .int x30), (3, .int x29), (2, .int x28), (0, .ref (ad 55)), (1, .int a1)]) hx hb dX12_putsOn_217 hl (of_decide_eq_true rfl) rfl (fun ls hl => ?_)
                                refine lv_iload_n hx hb dX12_putsOn_219 rfl (lv_at hl 4 rfl) ?_
                                refine lv_if_lt (tgt := 243) hx hb dX12_putsOn_220 (of_decide_eq_true rfl) (fun c122 => ?_) (fun c122 => ?_)
                                · have kc122 := jlt c122 rfl jz_0
                                  refine lv_iload hx hb dX12_putsOn_243 (lv_at hl 2 rfl) ?_
                                  refine lv_istore_n (lv' := [(2, .int x30), (6, .int r112), (5, .int 1), (4, .int x30), (3, .int x29), (0, .ref (ad 55)), (1, .int a1)]) hx hb dX12_putsOn_245 rfl hl (of_decide_eq_true rfl) rfl (fun ls hl => ?_)
                                  refine lv_iload hx hb dX12_putsOn_246 (lv_at hl 1 rfl) ?_
                                  refine lv_istore_n (lv' := [(3, .int r112), (2, .int x30), (6, .int r112), (5, .int 1), (4, .int x30), (0, .ref (ad 55)), (1, .int a1)]) hx hb dX12_putsOn_248 rfl hl (of_decide_eq_true rfl) rfl (fun ls hl => ?_)
                                  obtain ⟨x123, ex123⟩ : ∃ y : Int32, y = x30 + 1 := ⟨_, rfl⟩
                                  exact by
                                   have tx123 : x123.toInt = x30.toInt + 1 := (jadd ex123 rfl jz_1 (by omega) (by omega)).trans (by omega)
                                   refine lv_iinc (v := x123) (lv' := [(4, .int x123), (3, .int r112), (2, .int x30), (6, .int r112), (5, .int 1), (0, .ref (ad 55)), (1, .int a1)]) hx hb dX12_putsOn_249 hl (k := 4) rfl (by rw [ex123]; rfl) (of_decide_eq_true rfl) rfl (fun ls hl => ?_)
                                   refine lv_goto (tgt := 113) hx hb dX12_putsOn_252 (of_decide_eq_true rfl) ?_
                                   exact by exact ihlp26 x30 r112 x123 σ111 _ _ ls (by have h92 := tx123; omega) (by have h92 := tx123; omega) (by have h92 := tx123; omega) (by have h92 := tx123; omega) (by have h92 := tx123; omega) (by have h92 := tx123; omega) (fun i hi => ((f113 i hi).trans ((f101 i hi).trans (f41 i hi)))) (fun i hi => ((f114 i hi).trans ((f102 i hi).trans (f42 i hi))))  (fun pr mm => by have prh := H44 pr; have q := q43 pr mm; have my := (prh.my (by omega) (by omega) (by omega)).mp k62; rw [H47, H45] at my; have ge := G121 pr; exact ⟨q.1.take (v := (r112 : Int32).toInt) (by omega) my (Or.inl ⟨by rw [(show (σ 70 (A1).toNat).toInt = (σ 70 a1.toNatClampNeg).toInt from by rw [jnc (show a1.toInt = A1 from t1)])]; omega, ge, (by omega)⟩) (by omega) (by omega) (by have h9 := tx123; omega), (jrEq.m (σ := σ33) (σ' := σ111) ⟨⟨((f113 56 (of_decide_eq_true rfl)).trans (f101 56 (of_decide_eq_true rfl))), ((f113 60 (of_decide_eq_true rfl)).trans (f101 60 (of_decide_eq_true rfl))), ((f113 61 (of_decide_eq_true rfl)).trans (f101 61 (of_decide_eq_true rfl))), ((f113 62 (of_decide_eq_true rfl)).trans (f101 62 (of_decide_eq_true rfl))), ((f113 64 (of_decide_eq_true rfl)).trans (f101 64 (of_decide_eq_true rfl))), ((f113 65 (of_decide_eq_true rfl)).trans (f101 65 (of_decide_eq_true rfl)))⟩, ((f114 6 (of_decide_eq_true rfl)).trans (f102 6 (of_decide_eq_true rfl))), ((f114 9 (of_decide_eq_true rfl)).trans (f102 9 (of_decide_eq_true rfl))), ((f114 10 (of_decide_eq_true rfl)).trans (f102 10 (of_decide_eq_true rfl))), ((f114 12 (of_decide_eq_true rfl)).trans (f102 12 (of_decide_eq_true rfl))), ((f114 13 (of_decide_eq_true rfl)).trans (f102 13 (of_decide_eq_true rfl))), ((f114 30 (of_decide_eq_true rfl)).trans (f102 30 (of_decide_eq_true rfl))), ((f114 31 (of_decide_eq_true rfl)).trans (f102 31 (of_decide_eq_true rfl))), ((f114 42 (of_decide_eq_true rfl)).trans (f102 42 (of_decide_eq_true rfl)))⟩ ((f113 78 (of_decide_eq_true rfl)).trans (f101 78 (of_decide_eq_true rfl))) ((f113 74 (of_decide_eq_true rfl)).trans (f101 74 (of_decide_eq_true rfl))) ((f113 75 (of_decide_eq_true rfl)).trans (f101 75 (of_decide_eq_true rfl))) ((f113 76 (of_decide_eq_true rfl)).trans (f101 76 (of_decide_eq_true rfl))) ((f113 77 (of_decide_eq_true rfl)).trans (f101 77 (of_decide_eq_true rfl))) q.2)⟩) hP hS (lv_sub hl [0, 1, 2, 5, 6] rfl)
                                · have kc122 := jnlt c122 rfl jz_0
                                  refine lv_iload hx hb dX12_putsOn_223 (lv_at hl 1 rfl) ?_
                                  refine lv_if_eq (tgt := 237) hx hb dX12_putsOn_225 (of_decide_eq_true rfl) (fun c => absurd c (of_decide_eq_true rfl)) (fun _ => ?_)
                                  refine lv_iload hx hb dX12_putsOn_228 (lv_at hl 0 rfl) ?_
                                  refine lv_iload_n hx hb dX12_putsOn_230 rfl (lv_at hl 3 rfl) ?_
                                  exact by
                                   refine lv_icmp_le (tgt := 249) hx hb dX12_putsOn_231 (of_decide_eq_true rfl) (fun c124 => ?_) (fun c124 => ?_)
                                   · have kc124 := jle c124 rfl rfl
                                     obtain ⟨x125, ex125⟩ : ∃ y : Int32, y = x30 + 1 := ⟨_, rfl⟩
                                     have tx125 : x125.toInt = x30.toInt + 1 := (jadd ex125 rfl jz_1 (by omega) (by omega)).trans (by omega)
                                     refine lv_iinc (v := x125) (lv' := [(4, .int x125), (6, .int r112), (5, .int 1), (3, .int x29), (2, .int x28), (0, .ref (ad 55)), (1, .int a1)]) hx hb dX12_putsOn_249 hl (k := 2) rfl (by rw [ex125]; rfl) (of_decide_eq_true rfl) rfl (fun ls hl => ?_)
                                     refine lv_goto (tgt := 113) hx hb dX12_putsOn_252 (of_decide_eq_true rfl) ?_
                                     exact by exact ihlp26 x28 x29 x125 σ111 _ _ ls (by have h92 := tx125; omega) (by have h92 := tx125; omega) (by have h92 := tx125; omega) (by have h92 := tx125; omega) (by have h92 := tx125; omega) (by have h92 := tx125; omega) (fun i hi => ((f113 i hi).trans ((f101 i hi).trans (f41 i hi)))) (fun i hi => ((f114 i hi).trans ((f102 i hi).trans (f42 i hi))))  (fun pr mm => by have prh := H44 pr; have q := q43 pr mm; have ge := G121 pr; exact ⟨q.1.keep (v := (r112 : Int32).toInt) (by omega) (Or.inl ⟨by rw [(show (σ 70 (A1).toNat).toInt = (σ 70 a1.toNatClampNeg).toInt from by rw [jnc (show a1.toInt = A1 from t1)])]; omega, ge, (by omega)⟩) (by have h9 := tx125; omega), (jrEq.m (σ := σ33) (σ' := σ111) ⟨⟨((f113 56 (of_decide_eq_true rfl)).trans (f101 56 (of_decide_eq_true rfl))), ((f113 60 (of_decide_eq_true rfl)).trans (f101 60 (of_decide_eq_true rfl))), ((f113 61 (of_decide_eq_true rfl)).trans (f101 61 (of_decide_eq_true rfl))), ((f113 62 (of_decide_eq_true rfl)).trans (f101 62 (of_decide_eq_true rfl))), ((f113 64 (of_decide_eq_true rfl)).trans (f101 64 (of_decide_eq_true rfl))), ((f113 65 (of_decide_eq_true rfl)).trans (f101 65 (of_decide_eq_true rfl)))⟩, ((f114 6 (of_decide_eq_true rfl)).trans (f102 6 (of_decide_eq_true rfl))), ((f114 9 (of_decide_eq_true rfl)).trans (f102 9 (of_decide_eq_true rfl))), ((f114 10 (of_decide_eq_true rfl)).trans (f102 10 (of_decide_eq_true rfl))), ((f114 12 (of_decide_eq_true rfl)).trans (f102 12 (of_decide_eq_true rfl))), ((f114 13 (of_decide_eq_true rfl)).trans (f102 13 (of_decide_eq_true rfl))), ((f114 30 (of_decide_eq_true rfl)).trans (f102 30 (of_decide_eq_true rfl))), ((f114 31 (of_decide_eq_true rfl)).trans (f102 31 (of_decide_eq_true rfl))), ((f114 42 (of_decide_eq_true rfl)).trans (f102 42 (of_decide_eq_true rfl)))⟩ ((f113 78 (of_decide_eq_true rfl)).trans (f101 78 (of_decide_eq_true rfl))) ((f113 74 (of_decide_eq_true rfl)).trans (f101 74 (of_decide_eq_true rfl))) ((f113 75 (of_decide_eq_true rfl)).trans (f101 75 (of_decide_eq_true rfl))) ((f113 76 (of_decide_eq_true rfl)).trans (f101 76 (of_decide_eq_true rfl))) ((f113 77 (of_decide_eq_true rfl)).trans (f101 77 (of_decide_eq_true rfl))) q.2)⟩) hP hS (lv_sub hl [0, 3, 4, 5, 6] rfl)
                                   · have kc124 := jnle c124 rfl rfl
                                     refine lv_goto (tgt := 243) hx hb dX12_putsOn_234 (of_decide_eq_true rfl) ?_
                                     exact by
                                      refine lv_iload hx hb dX12_putsOn_243 (lv_at hl 2 rfl) ?_
                                      refine lv_istore_n (lv' := [(2, .int x30), (6, .int r112), (5, .int 1), (4, .int x30), (3, .int x29), (0, .ref (ad 55)), (1, .int a1)]) hx hb dX12_putsOn_245 rfl hl (of_decide_eq_true rfl) rfl (fun ls hl => ?_)
                                      refine lv_iload hx hb dX12_putsOn_246 (lv_at hl 1 rfl) ?_
                                      refine lv_istore_n (lv' := [(3, .int r112), (2, .int x30), (6, .int r112), (5, .int 1), (4, .int x30), (0, .ref (ad 55)), (1, .int a1)]) hx hb dX12_putsOn_248 rfl hl (of_decide_eq_true rfl) rfl (fun ls hl => ?_)
                                      obtain ⟨x126, ex126⟩ : ∃ y : Int32, y = x30 + 1 := ⟨_, rfl⟩
                                      have tx126 : x126.toInt = x30.toInt + 1 := (jadd ex126 rfl jz_1 (by omega) (by omega)).trans (by omega)
                                      refine lv_iinc (v := x126) (lv' := [(4, .int x126), (3, .int r112), (2, .int x30), (6, .int r112), (5, .int 1), (0, .ref (ad 55)), (1, .int a1)]) hx hb dX12_putsOn_249 hl (k := 4) rfl (by rw [ex126]; rfl) (of_decide_eq_true rfl) rfl (fun ls hl => ?_)
                                      refine lv_goto (tgt := 113) hx hb dX12_putsOn_252 (of_decide_eq_true rfl) ?_
                                      exact by exact ihlp26 x30 r112 x126 σ111 _ _ ls (by have h92 := tx126; omega) (by have h92 := tx126; omega) (by have h92 := tx126; omega) (by have h92 := tx126; omega) (by have h92 := tx126; omega) (by have h92 := tx126; omega) (fun i hi => ((f113 i hi).trans ((f101 i hi).trans (f41 i hi)))) (fun i hi => ((f114 i hi).trans ((f102 i hi).trans (f42 i hi))))  (fun pr mm => by have prh := H44 pr; have q := q43 pr mm; have my := (prh.my (by omega) (by omega) (by omega)).mp k62; rw [H47, H45] at my; have ge := G121 pr; exact ⟨q.1.take (v := (r112 : Int32).toInt) (by omega) my (Or.inl ⟨by rw [(show (σ 70 (A1).toNat).toInt = (σ 70 a1.toNatClampNeg).toInt from by rw [jnc (show a1.toInt = A1 from t1)])]; omega, ge, (by omega)⟩) (by omega) (by omega) (by have h9 := tx126; omega), (jrEq.m (σ := σ33) (σ' := σ111) ⟨⟨((f113 56 (of_decide_eq_true rfl)).trans (f101 56 (of_decide_eq_true rfl))), ((f113 60 (of_decide_eq_true rfl)).trans (f101 60 (of_decide_eq_true rfl))), ((f113 61 (of_decide_eq_true rfl)).trans (f101 61 (of_decide_eq_true rfl))), ((f113 62 (of_decide_eq_true rfl)).trans (f101 62 (of_decide_eq_true rfl))), ((f113 64 (of_decide_eq_true rfl)).trans (f101 64 (of_decide_eq_true rfl))), ((f113 65 (of_decide_eq_true rfl)).trans (f101 65 (of_decide_eq_true rfl)))⟩, ((f114 6 (of_decide_eq_true rfl)).trans (f102 6 (of_decide_eq_true rfl))), ((f114 9 (of_decide_eq_true rfl)).trans (f102 9 (of_decide_eq_true rfl))), ((f114 10 (of_decide_eq_true rfl)).trans (f102 10 (of_decide_eq_true rfl))), ((f114 12 (of_decide_eq_true rfl)).trans (f102 12 (of_decide_eq_true rfl))), ((f114 13 (of_decide_eq_true rfl)).trans (f102 13 (of_decide_eq_true rfl))), ((f114 30 (of_decide_eq_true rfl)).trans (f102 30 (of_decide_eq_true rfl))), ((f114 31 (of_decide_eq_true rfl)).trans (f102 31 (of_decide_eq_true rfl))), ((f114 42 (of_decide_eq_true rfl)).trans (f102 42 (of_decide_eq_true rfl)))⟩ ((f113 78 (of_decide_eq_true rfl)).trans (f101 78 (of_decide_eq_true rfl))) ((f113 74 (of_decide_eq_true rfl)).trans (f101 74 (of_decide_eq_true rfl))) ((f113 75 (of_decide_eq_true rfl)).trans (f101 75 (of_decide_eq_true rfl))) ((f113 76 (of_decide_eq_true rfl)).trans (f101 76 (of_decide_eq_true rfl))) ((f113 77 (of_decide_eq_true rfl)).trans (f101 77 (of_decide_eq_true rfl))) q.2)⟩) hP hS (lv_sub hl [0, 1, 2, 5, 6] rfl)
                         · exact by
                            have kc89 := jnle c89 jz_0 rfl
                            refine lv_iconst (v := 0) hx hb dX12_putsOn_176 (of_decide_eq_true rfl) ?_
                            refine lv_goto (tgt := 217) hx hb dX12_putsOn_177 (of_decide_eq_true rfl) ?_
                            refine lv_istore (lv' := [(6, .int 0), (5, .int 1), (4, .int x30), (3, .int x29), (2, .int x28), (0, .ref (ad 55)), (1, .int a1)]) hx hb dX12_putsOn_217 hl (of_decide_eq_true rfl) rfl (fun ls hl => ?_)
                            refine lv_iload_n hx hb dX12_putsOn_219 rfl (lv_at hl 4 rfl) ?_
                            refine lv_if_lt (tgt := 243) hx hb dX12_putsOn_220 (of_decide_eq_true rfl) (fun c127 => ?_) (fun c127 => ?_)
                            · have kc127 := jlt c127 rfl jz_0
                              refine lv_iload hx hb dX12_putsOn_243 (lv_at hl 2 rfl) ?_
                              refine lv_istore_n (lv' := [(2, .int x30), (6, .int 0), (5, .int 1), (4, .int x30), (3, .int x29), (0, .ref (ad 55)), (1, .int a1)]) hx hb dX12_putsOn_245 rfl hl (of_decide_eq_true rfl) rfl (fun ls hl => ?_)
                              refine lv_iload hx hb dX12_putsOn_246 (lv_at hl 1 rfl) ?_
                              refine lv_istore_n (lv' := [(3, .int 0), (2, .int x30), (6, .int 0), (5, .int 1), (4, .int x30), (0, .ref (ad 55)), (1, .int a1)]) hx hb dX12_putsOn_248 rfl hl (of_decide_eq_true rfl) rfl (fun ls hl => ?_)
                              obtain ⟨x128, ex128⟩ : ∃ y : Int32, y = x30 + 1 := ⟨_, rfl⟩
                              exact by
                               have tx128 : x128.toInt = x30.toInt + 1 := (jadd ex128 rfl jz_1 (by omega) (by omega)).trans (by omega)
                               refine lv_iinc (v := x128) (lv' := [(4, .int x128), (3, .int 0), (2, .int x30), (6, .int 0), (5, .int 1), (0, .ref (ad 55)), (1, .int a1)]) hx hb dX12_putsOn_249 hl (k := 4) rfl (by rw [ex128]; rfl) (of_decide_eq_true rfl) rfl (fun ls hl => ?_)
                               refine lv_goto (tgt := 113) hx hb dX12_putsOn_252 (of_decide_eq_true rfl) ?_
                               exact by exact ihlp26 x30 0 x128 σ33 _ _ ls (by have h91 := jz_0; have h92 := tx128; omega) (by have h91 := jz_0; have h92 := tx128; omega) (by have h91 := jz_0; have h92 := tx128; omega) (by have h91 := jz_0; have h92 := tx128; omega) (by have h91 := jz_0; have h92 := tx128; omega) (by have h91 := jz_0; have h92 := tx128; omega) (fun i hi => (f41 i hi)) (fun i hi => (f42 i hi))  (fun pr mm => by have prh := H44 pr; have q := q43 pr mm; have my := (prh.my (by omega) (by omega) (by omega)).mp k62; rw [H47, H45] at my; have ge : (0 : Int) = jrRg σ (A1) (x30 : Int32).toInt.toNat := (by rw [jrRg_6 (by rw [(show (σ 70 (A1).toNat).toInt = (σ 70 a1.toNatClampNeg).toInt from by rw [jnc (show a1.toInt = A1 from t1)])]; omega), jrTx_no (by omega)]); exact ⟨q.1.take (v := 0) (by omega) my (Or.inl ⟨by rw [(show (σ 70 (A1).toNat).toInt = (σ 70 a1.toNatClampNeg).toInt from by rw [jnc (show a1.toInt = A1 from t1)])]; omega, ge, (by omega)⟩) (by omega) (by have h9 := jz_0; omega) (by have h9 := tx128; omega), q.2⟩) hP hS (lv_sub hl [0, 1, 2, 5, 6] rfl)
                            · have kc127 := jnlt c127 rfl jz_0
                              refine lv_iload hx hb dX12_putsOn_223 (lv_at hl 1 rfl) ?_
                              refine lv_if_eq (tgt := 237) hx hb dX12_putsOn_225 (of_decide_eq_true rfl) (fun c => absurd c (of_decide_eq_true rfl)) (fun _ => ?_)
                              refine lv_iload hx hb dX12_putsOn_228 (lv_at hl 0 rfl) ?_
                              refine lv_iload_n hx hb dX12_putsOn_230 rfl (lv_at hl 3 rfl) ?_
                              exact by
                               refine lv_icmp_le (tgt := 249) hx hb dX12_putsOn_231 (of_decide_eq_true rfl) (fun c129 => ?_) (fun c129 => ?_)
                               · have kc129 := jle c129 jz_0 rfl
                                 obtain ⟨x130, ex130⟩ : ∃ y : Int32, y = x30 + 1 := ⟨_, rfl⟩
                                 have tx130 : x130.toInt = x30.toInt + 1 := (jadd ex130 rfl jz_1 (by omega) (by omega)).trans (by omega)
                                 refine lv_iinc (v := x130) (lv' := [(4, .int x130), (6, .int 0), (5, .int 1), (3, .int x29), (2, .int x28), (0, .ref (ad 55)), (1, .int a1)]) hx hb dX12_putsOn_249 hl (k := 2) rfl (by rw [ex130]; rfl) (of_decide_eq_true rfl) rfl (fun ls hl => ?_)
                                 refine lv_goto (tgt := 113) hx hb dX12_putsOn_252 (of_decide_eq_true rfl) ?_
                                 exact by exact ihlp26 x28 x29 x130 σ33 _ _ ls (by have h92 := tx130; omega) (by have h92 := tx130; omega) (by have h92 := tx130; omega) (by have h92 := tx130; omega) (by have h92 := tx130; omega) (by have h92 := tx130; omega) (fun i hi => (f41 i hi)) (fun i hi => (f42 i hi))  (fun pr mm => by have prh := H44 pr; have q := q43 pr mm; have ge : (0 : Int) = jrRg σ (A1) (x30 : Int32).toInt.toNat := (by rw [jrRg_6 (by rw [(show (σ 70 (A1).toNat).toInt = (σ 70 a1.toNatClampNeg).toInt from by rw [jnc (show a1.toInt = A1 from t1)])]; omega), jrTx_no (by omega)]); exact ⟨q.1.keep (v := 0) (by omega) (Or.inl ⟨by rw [(show (σ 70 (A1).toNat).toInt = (σ 70 a1.toNatClampNeg).toInt from by rw [jnc (show a1.toInt = A1 from t1)])]; omega, ge, (by omega)⟩) (by have h9 := tx130; omega), q.2⟩) hP hS (lv_sub hl [0, 3, 4, 5, 6] rfl)
                               · have kc129 := jnle c129 jz_0 rfl
                                 refine lv_goto (tgt := 243) hx hb dX12_putsOn_234 (of_decide_eq_true rfl) ?_
                                 exact by
                                  refine lv_iload hx hb dX12_putsOn_243 (lv_at hl 2 rfl) ?_
                                  refine lv_istore_n (lv' := [(2, .int x30), (6, .int 0), (5, .int 1), (4, .int x30), (3, .int x29), (0, .ref (ad 55)), (1, .int a1)]) hx hb dX12_putsOn_245 rfl hl (of_decide_eq_true rfl) rfl (fun ls hl => ?_)
                                  refine lv_iload hx hb dX12_putsOn_246 (lv_at hl 1 rfl) ?_
                                  refine lv_istore_n (lv' := [(3, .int 0), (2, .int x30), (6, .int 0), (5, .int 1), (4, .int x30), (0, .ref (ad 55)), (1, .int a1)]) hx hb dX12_putsOn_248 rfl hl (of_decide_eq_true rfl) rfl (fun ls hl => ?_)
                                  obtain ⟨x131, ex131⟩ : ∃ y : Int32, y = x30 + 1 := ⟨_, rfl⟩
                                  have tx131 : x131.toInt = x30.toInt + 1 := (jadd ex131 rfl jz_1 (by omega) (by omega)).trans (by omega)
                                  refine lv_iinc (v := x131) (lv' := [(4, .int x131), (3, .int 0), (2, .int x30), (6, .int 0), (5, .int 1), (0, .ref (ad 55)), (1, .int a1)]) hx hb dX12_putsOn_249 hl (k := 4) rfl (by rw [ex131]; rfl) (of_decide_eq_true rfl) rfl (fun ls hl => ?_)
                                  refine lv_goto (tgt := 113) hx hb dX12_putsOn_252 (of_decide_eq_true rfl) ?_
                                  exact by exact ihlp26 x30 0 x131 σ33 _ _ ls (by have h91 := jz_0; have h92 := tx131; omega) (by have h91 := jz_0; have h92 := tx131; omega) (by have h91 := jz_0; have h92 := tx131; omega) (by have h91 := jz_0; have h92 := tx131; omega) (by have h91 := jz_0; have h92 := tx131; omega) (by have h91 := jz_0; have h92 := tx131; omega) (fun i hi => (f41 i hi)) (fun i hi => (f42 i hi))  (fun pr mm => by have prh := H44 pr; have q := q43 pr mm; have my := (prh.my (by omega) (by omega) (by omega)).mp k62; rw [H47, H45] at my; have ge : (0 : Int) = jrRg σ (A1) (x30 : Int32).toInt.toNat := (by rw [jrRg_6 (by rw [(show (σ 70 (A1).toNat).toInt = (σ 70 a1.toNatClampNeg).toInt from by rw [jnc (show a1.toInt = A1 from t1)])]; omega), jrTx_no (by omega)]); exact ⟨q.1.take (v := 0) (by omega) my (Or.inl ⟨by rw [(show (σ 70 (A1).toNat).toInt = (σ 70 a1.toNatClampNeg).toInt from by rw [jnc (show a1.toInt = A1 from t1)])]; omega, ge, (by omega)⟩) (by omega) (by have h9 := jz_0; omega) (by have h9 := tx131; omega), q.2⟩) hP hS (lv_sub hl [0, 1, 2, 5, 6] rfl)
                   · exact by
                      obtain ⟨q133, k132⟩ := h61
                      have q133 := q133.symm
                      subst q133
                      have e134 : jmb σ33 x30 = jmb σ x30 := (jmb_fr (f42 27 (of_decide_eq_true rfl)) (f42 30 (of_decide_eq_true rfl)) (f42 31 (of_decide_eq_true rfl)) (f41 56 (of_decide_eq_true rfl)) (f41 69 (of_decide_eq_true rfl)) x30)
                      have n135 : ¬ x30 = B0 := fun h => absurd ((hB0).symm.trans (by rw [← h]; exact e134.symm.trans k132) : (1 : Int32) = 0) (of_decide_eq_true rfl)
                      have k136 := jne n135 rfl rfl
                      refine lv_if_ne (tgt := 134) hx hb dX12_putsOn_128 (of_decide_eq_true rfl) (fun c => absurd (of_decide_eq_true rfl) c) (fun _ => ?_)
                      refine lv_goto (tgt := 249) hx hb dX12_putsOn_131 (of_decide_eq_true rfl) ?_
                      obtain ⟨x137, ex137⟩ : ∃ y : Int32, y = x30 + 1 := ⟨_, rfl⟩
                      exact by
                       have tx137 : x137.toInt = x30.toInt + 1 := (jadd ex137 rfl jz_1 (by omega) (by omega)).trans (by omega)
                       refine lv_iinc (v := x137) (lv' := [(4, .int x137), (3, .int x29), (2, .int x28), (0, .ref (ad 55)), (1, .int a1)]) hx hb dX12_putsOn_249 hl (k := 0) rfl (by rw [ex137]; rfl) (of_decide_eq_true rfl) rfl (fun ls hl => ?_)
                       refine lv_goto (tgt := 113) hx hb dX12_putsOn_252 (of_decide_eq_true rfl) ?_
                       exact by exact ihlp26 x28 x29 x137 σ33 _ _ ls (by have h92 := tx137; omega) (by have h92 := tx137; omega) (by have h92 := tx137; omega) (by have h92 := tx137; omega) (by have h92 := tx137; omega) (by have h92 := tx137; omega) (fun i hi => (f41 i hi)) (fun i hi => (f42 i hi))  (fun pr mm => by have prh := H44 pr; have q := q43 pr mm; have my : ¬ jMy4 (σ33 55 27).toInt (jrLf σ33) (x30 : Int32).toInt.toNat = true := fun z => absurd ((prh.my (by omega) (by omega) (by omega)).mpr z) (by rw [k132]; decide); rw [H47, H45] at my; exact ⟨q.1.skip (by omega) my (by have h9 := tx137; omega), q.2⟩) hP hS (lv_sub hl [0, 1, 2, 3, 4] rfl)
           exact by exact lp26 1000000 (-1) 0 0 σ _ _ ls (by have h90 := jz_m1; have h91 := jz_0; have h92 := jz_0; omega) (by have h90 := jz_m1; have h91 := jz_0; have h92 := jz_0; omega) (by have h90 := jz_m1; have h91 := jz_0; have h92 := jz_0; omega) (by have h90 := jz_m1; have h91 := jz_0; have h92 := jz_0; omega) (by have h90 := jz_m1; have h91 := jz_0; have h92 := jz_0; omega) (by have h90 := jz_m1; have h91 := jz_0; have h92 := jz_0; omega) (fun _ _ => rfl) (fun _ _ => rfl)  (fun pr mm => ⟨jrGt.first (by have h9 := jz_0; omega) (by have h9 := jz_m1; omega) (by have h9 := jz_0; omega), mm⟩) hP hS hl
         · have kc25 := jeq c25 rfl jz_2
           refine lv_aload_n hx hb dX12_putsOn_96 rfl (lv_at hl 0 rfl) ?_
           have p138 : jmb σ B0 = 1 := (jmb_fr rfl rfl rfl rfl rfl B0).trans hB0
           refine jcallV (As := []) (rest := []) ⟨hx, hb, hml, hown, hts⟩ hK hP hA hS hZ ((c_X12_bests l D cI cL ad zz hJ 8).2.2 σ τ B0 p138 hI101 hI102 hI103 hI104 hI105 hI106 hI120 hs_jKept hs_jTR hs_jqSt (by omega) (by omega) (by omega) (by omega)) cw_RX12_280 (jc_55 cI cL ad σ τ) rfl ⟨Nat.le_of_ble_eq_true rfl, Nat.le_of_ble_eq_true rfl⟩ rfl rfl rfl hl.1 rfl (Nat.le_of_ble_eq_true rfl) dX12_putsOn_97 ⟨Nat.zero_le _, Nat.zero_le _⟩ (fun r140 σ139 τ139 H locs h139 hP hS => ?_)
           exact by
            obtain ⟨rfl, f141, f142, p143, p144, p145, w146, h139⟩ := h139
            obtain ⟨k148, h139⟩ := h139
            have h149 := h139
            obtain ⟨q151, k150⟩ := h149
            refine lv_istore_n (lv' := [(2, .int r140), (0, .ref (ad 55)), (1, .int a1)]) hx hb dX12_putsOn_100 rfl hl (of_decide_eq_true rfl) rfl (fun ls hl => ?_)
            refine lv_aload_n hx hb dX12_putsOn_101 rfl (lv_at hl 1 rfl) ?_
            refine va_get (D := D) hx hb hts inlX12 hown hK hP 55 (jc_55 cI cL ad σ139 τ) rfl 37 (of_decide_eq_true rfl) (hts _ kw_33_15) (fun _ h9 => h9) rfl dX12_putsOn_102 ?_
            have z152 : (σ139 55 25).toInt = (σ 55 25).toInt := (congrArg Int32.toInt (show σ139 55 25 = (σ 55 25) from (f142 25 (of_decide_eq_true rfl))))
            have z153 : (σ139 55 26).toInt = (σ 55 26).toInt := (congrArg Int32.toInt (show σ139 55 26 = (σ 55 26) from (f142 26 (of_decide_eq_true rfl))))
            have z154 : (σ139 55 27).toInt = (σ 55 27).toInt := (congrArg Int32.toInt (show σ139 55 27 = (σ 55 27) from (f142 27 (of_decide_eq_true rfl))))
            exact by exact hret (σ139 55 37) σ139 τ _ _ _ _ rfl ⟨rfl, (fun i hi => (f141 i hi)), (fun i hi => (f142 i hi)), p143, p144, p145, (fun pr mm => by have r9 := w146 pr mm; exact ⟨jrP.best (w := (σ139 55 37).toInt) (by rw [(show (σ 70 (A1).toNat).toInt = (σ 70 a1.toNatClampNeg).toInt from by rw [jnc (show a1.toInt = A1 from t1)])]; omega) r9.1.1 (by omega) (by omega), r9.2⟩), ⟨trivial, (by omega)⟩⟩ hP hS dX12_putsOn_105
      · have kc24 := jeq c24 rfl jz_4
        refine lv_aload_n hx hb dX12_putsOn_27 rfl (lv_at hl 0 rfl) ?_
        refine va_get (D := D) hx hb hts inlX12 hown hK hP 55 (jc_55 cI cL ad σ τ) rfl 34 (of_decide_eq_true rfl) (hts _ kw_7_19) (fun _ h9 => h9) rfl dX12_putsOn_28 ?_
        refine lv_iload_n hx hb dX12_putsOn_31 rfl (lv_at hl 1 rfl) ?_
        exact by
         refine jald hx hb hK hP (jc_71 cI cL ad σ τ) (jin t1 (by omega) (by omega)) dX12_putsOn_32 ?_
         have g155 := w13 _ (jnat (x := a1) t1 (n := 20) (by omega) (of_decide_eq_true rfl))
         refine jtopr (y := (σ 71 a1.toNatClampNeg)) rfl ?_
         refine lv_if_le (tgt := 61) hx hb dX12_putsOn_33 (of_decide_eq_true rfl) (fun c156 => ?_) (fun c156 => ?_)
         · have kc156 := jle c156 rfl jz_0
           refine lv_iconst (v := (-1)) hx hb dX12_putsOn_61 (of_decide_eq_true rfl) ?_
           refine lv_istore_n (lv' := [(2, .int (-1)), (0, .ref (ad 55)), (1, .int a1)]) hx hb dX12_putsOn_62 rfl hl (of_decide_eq_true rfl) rfl (fun ls hl => ?_)
           refine lv_aload_n hx hb dX12_putsOn_63 rfl (lv_at hl 1 rfl) ?_
           refine lv_iload_n hx hb dX12_putsOn_64 rfl (lv_at hl 2 rfl) ?_
           exact by
            refine lv_iload_n hx hb dX12_putsOn_65 rfl (lv_at hl 0 rfl) ?_
            refine lv_if_lt (tgt := 81) hx hb dX12_putsOn_66 (of_decide_eq_true rfl) (fun _ => ?_) (fun c => absurd (of_decide_eq_true rfl) c)
            refine lv_iconst (v := (-1)) hx hb dX12_putsOn_81 (of_decide_eq_true rfl) ?_
            have p157 : jmb σ B0 = 1 := (jmb_fr rfl rfl rfl rfl rfl B0).trans hB0
            refine jcallV (As := [.int a1, .int (-1)]) (rest := []) ⟨hx, hb, hml, hown, hts⟩ hK hP hA hS hZ (c_X12_turnOf l D cI cL ad zz hJ σ τ B0 p157 a1 (A1) t1 (-1) ((-1)) jz_m1 hI102 hI106 (by omega) (by omega) (by omega) (by omega)) cw_RX12_277 (jc_55 cI cL ad σ τ) rfl ⟨Nat.le_of_ble_eq_true rfl, Nat.le_of_ble_eq_true rfl⟩ rfl rfl rfl hl.1 rfl (Nat.le_of_ble_eq_true rfl) dX12_putsOn_82 ⟨Nat.zero_le _, Nat.zero_le _⟩ (fun r159 σ158 τ158 H locs h158 hP hS => ?_)
            obtain ⟨⟨rfl, rfl⟩, w160, h158⟩ := h158
            have h161 := h158
            obtain ⟨q163, k162⟩ := h161
            exact by exact hret r159 σ τ _ _ _ _ rfl ⟨rfl, (fun _ _ => rfl), (fun _ _ => rfl), hs_jKept, hs_jTR, hs_jqSt, (fun pr mm => ⟨pr.keep (x := (-1)) (b := (-1)) (by omega) (by omega) (by rw [(show (σ 70 (A1).toNat).toInt = (σ 70 a1.toNatClampNeg).toInt from by rw [jnc (show a1.toInt = A1 from t1)])]; omega) (Or.inl ⟨by omega, by rw [(show (σ 71 (A1).toNat) = (σ 71 a1.toNatClampNeg) from by rw [jnc (show a1.toInt = A1 from t1)]), (show (σ 73 (A1).toNat) = (σ 73 a1.toNatClampNeg) from by rw [jnc (show a1.toInt = A1 from t1)])]; omega⟩) (by rw [(show (σ 71 (A1).toNat) = (σ 71 a1.toNatClampNeg) from by rw [jnc (show a1.toInt = A1 from t1)])]; omega) (Or.inr ⟨by omega, Or.inl (by omega)⟩) w160, mm⟩), ⟨trivial, (by omega)⟩⟩ hP hS dX12_putsOn_85
         · exact by
            have kc156 := jnle c156 rfl jz_0
            refine lv_aload_n hx hb dX12_putsOn_36 rfl (lv_at hl 0 rfl) ?_
            refine va_get (D := D) hx hb hts inlX12 hown hK hP 55 (jc_55 cI cL ad σ τ) rfl 26 (of_decide_eq_true rfl) (hts _ kw_23_5) (fun _ h9 => h9) rfl dX12_putsOn_37 ?_
            refine lv_aload_n hx hb dX12_putsOn_40 rfl (lv_at hl 0 rfl) ?_
            refine va_get (D := D) hx hb hts inlX12 hown hK hP 55 (jc_55 cI cL ad σ τ) rfl 36 (of_decide_eq_true rfl) (hts _ kw_7_21) (fun _ h9 => h9) rfl dX12_putsOn_41 ?_
            refine lv_iload_n hx hb dX12_putsOn_44 rfl (lv_at hl 1 rfl) ?_
            refine jald hx hb hK hP (jc_73 cI cL ad σ τ) (jin t1 (by omega) (by omega)) dX12_putsOn_45 ?_
            refine jtopr (y := (σ 73 a1.toNatClampNeg)) rfl ?_
            refine lv_icmp_ge (tgt := 61) hx hb dX12_putsOn_46 (of_decide_eq_true rfl) (fun c164 => ?_) (fun c164 => ?_)
            · exact by
               have kc164 := jle c164 rfl rfl
               refine lv_iconst (v := (-1)) hx hb dX12_putsOn_61 (of_decide_eq_true rfl) ?_
               refine lv_istore_n (lv' := [(2, .int (-1)), (0, .ref (ad 55)), (1, .int a1)]) hx hb dX12_putsOn_62 rfl hl (of_decide_eq_true rfl) rfl (fun ls hl => ?_)
               refine lv_aload_n hx hb dX12_putsOn_63 rfl (lv_at hl 1 rfl) ?_
               refine lv_iload_n hx hb dX12_putsOn_64 rfl (lv_at hl 2 rfl) ?_
               refine lv_iload_n hx hb dX12_putsOn_65 rfl (lv_at hl 0 rfl) ?_
               refine lv_if_lt (tgt := 81) hx hb dX12_putsOn_66 (of_decide_eq_true rfl) (fun _ => ?_) (fun c => absurd (of_decide_eq_true rfl) c)
               refine lv_iconst (v := (-1)) hx hb dX12_putsOn_81 (of_decide_eq_true rfl) ?_
               have p165 : jmb σ B0 = 1 := (jmb_fr rfl rfl rfl rfl rfl B0).trans hB0
               exact by
                refine jcallV (As := [.int a1, .int (-1)]) (rest := []) ⟨hx, hb, hml, hown, hts⟩ hK hP hA hS hZ (c_X12_turnOf l D cI cL ad zz hJ σ τ B0 p165 a1 (A1) t1 (-1) ((-1)) jz_m1 hI102 hI106 (by omega) (by omega) (by omega) (by omega)) cw_RX12_277 (jc_55 cI cL ad σ τ) rfl ⟨Nat.le_of_ble_eq_true rfl, Nat.le_of_ble_eq_true rfl⟩ rfl rfl rfl hl.1 rfl (Nat.le_of_ble_eq_true rfl) dX12_putsOn_82 ⟨Nat.zero_le _, Nat.zero_le _⟩ (fun r167 σ166 τ166 H locs h166 hP hS => ?_)
                obtain ⟨⟨rfl, rfl⟩, w168, h166⟩ := h166
                have h169 := h166
                obtain ⟨q171, k170⟩ := h169
                exact by exact hret r167 σ τ _ _ _ _ rfl ⟨rfl, (fun _ _ => rfl), (fun _ _ => rfl), hs_jKept, hs_jTR, hs_jqSt, (fun pr mm => ⟨pr.keep (x := (-1)) (b := (-1)) (by omega) (by omega) (by rw [(show (σ 70 (A1).toNat).toInt = (σ 70 a1.toNatClampNeg).toInt from by rw [jnc (show a1.toInt = A1 from t1)])]; omega) (Or.inl ⟨by omega, by rw [(show (σ 71 (A1).toNat) = (σ 71 a1.toNatClampNeg) from by rw [jnc (show a1.toInt = A1 from t1)]), (show (σ 73 (A1).toNat) = (σ 73 a1.toNatClampNeg) from by rw [jnc (show a1.toInt = A1 from t1)])]; omega⟩) (by rw [(show (σ 71 (A1).toNat) = (σ 71 a1.toNatClampNeg) from by rw [jnc (show a1.toInt = A1 from t1)])]; omega) (Or.inr ⟨by omega, Or.inl (by omega)⟩) w168, mm⟩), ⟨trivial, (by omega)⟩⟩ hP hS dX12_putsOn_85
            · have kc164 := jnle c164 rfl rfl
              refine lv_aload_n hx hb dX12_putsOn_49 rfl (lv_at hl 0 rfl) ?_
              refine va_get (D := D) hx hb hts inlX12 hown hK hP 55 (jc_55 cI cL ad σ τ) rfl 35 (of_decide_eq_true rfl) (hts _ kw_7_20) (fun _ h9 => h9) rfl dX12_putsOn_50 ?_
              refine lv_bipush (v := 8) hx hb dX12_putsOn_53 (of_decide_eq_true rfl) ?_
              refine lv_iload_n hx hb dX12_putsOn_55 rfl (lv_at hl 1 rfl) ?_
              refine lv_imul hx hb dX12_putsOn_56 ?_
              refine lv_topi (fun x172 ex172 => ?_)
              exact by
               have tx172 : x172.toInt = 8 * A1 := (jmul ex172 jz_8 t1 (by omega) (by omega)).trans (by omega)
               refine jald hx hb hK hP (jc_72 cI cL ad σ τ) (jin tx172 (by omega) (by omega)) dX12_putsOn_57 ?_
               have g173 := w14 _ (jnat (x := x172) tx172 (n := 160) (by omega) (of_decide_eq_true rfl))
               refine jtopr (y := (σ 72 x172.toNatClampNeg)) rfl ?_
               refine lv_goto (tgt := 62) hx hb dX12_putsOn_58 (of_decide_eq_true rfl) ?_
               refine lv_istore_n (lv' := [(2, .int (σ 72 x172.toNatClampNeg)), (0, .ref (ad 55)), (1, .int a1)]) hx hb dX12_putsOn_62 rfl hl (of_decide_eq_true rfl) rfl (fun ls hl => ?_)
               refine lv_aload_n hx hb dX12_putsOn_63 rfl (lv_at hl 1 rfl) ?_
               refine lv_iload_n hx hb dX12_putsOn_64 rfl (lv_at hl 2 rfl) ?_
               refine lv_iload_n hx hb dX12_putsOn_65 rfl (lv_at hl 0 rfl) ?_
               exact by
                refine lv_if_lt (tgt := 81) hx hb dX12_putsOn_66 (of_decide_eq_true rfl) (fun c => absurd (jlt c rfl jz_0) (by omega)) (fun c174 => ?_)
                have kc174 := jnlt c174 rfl jz_0
                refine lv_aload_n hx hb dX12_putsOn_69 rfl (lv_at hl 1 rfl) ?_
                refine lv_iload_n hx hb dX12_putsOn_70 rfl (lv_at hl 0 rfl) ?_
                refine jcallV (As := [.int (σ 72 x172.toNatClampNeg)]) (rest := [.int a1, .ref (ad 55)]) ⟨hx, hb, hml, hown, hts⟩ hK hP hA hS hZ (c_X12_leastBut l D cI cL ad zz hJ σ τ (σ 72 x172.toNatClampNeg) ((σ 72 x172.toNatClampNeg).toInt) rfl hI102) cw_RX12_274 (jc_55 cI cL ad σ τ) rfl ⟨Nat.le_of_ble_eq_true rfl, Nat.le_of_ble_eq_true rfl⟩ rfl rfl rfl hl.1 rfl (Nat.le_of_ble_eq_true rfl) dX12_putsOn_71 ⟨Nat.zero_le _, Nat.zero_le _⟩ (fun r176 σ175 τ175 H locs h175 hP hS => ?_)
                obtain ⟨⟨rfl, rfl⟩, w177, h175⟩ := h175
                rcases h175 with h178 | h179
                · obtain ⟨q184, k180, k181, k182, k183⟩ := h178
                  refine lv_if_lt (tgt := 81) hx hb dX12_putsOn_74 (of_decide_eq_true rfl) (fun c => absurd (jlt c rfl jz_0) (by omega)) (fun c185 => ?_)
                  exact by
                   have kc185 := jnlt c185 rfl jz_0
                   refine lv_iload_n hx hb dX12_putsOn_77 rfl (lv_at hl 0 rfl) ?_
                   refine lv_goto (tgt := 82) hx hb dX12_putsOn_78 (of_decide_eq_true rfl) ?_
                   have p186 : jmb σ r176 = 1 := (jmb_fr rfl rfl rfl rfl rfl r176).trans k183
                   refine jcallV (As := [.int a1, .int (σ 72 x172.toNatClampNeg)]) (rest := []) ⟨hx, hb, hml, hown, hts⟩ hK hP hA hS hZ (c_X12_turnOf l D cI cL ad zz hJ σ τ r176 p186 a1 (A1) t1 (σ 72 x172.toNatClampNeg) ((σ 72 x172.toNatClampNeg).toInt) rfl hI102 hI106 (by omega) (by omega) (by omega) (by omega)) cw_RX12_277 (jc_55 cI cL ad σ τ) rfl ⟨Nat.le_of_ble_eq_true rfl, Nat.le_of_ble_eq_true rfl⟩ rfl rfl rfl hl.1 rfl (Nat.le_of_ble_eq_true rfl) dX12_putsOn_82 ⟨Nat.zero_le _, Nat.zero_le _⟩ (fun r188 σ187 τ187 H locs h187 hP hS => ?_)
                   obtain ⟨⟨rfl, rfl⟩, w189, h187⟩ := h187
                   have h190 := h187
                   obtain ⟨q192, k191⟩ := h190
                   exact by exact hret r188 σ τ _ _ _ _ rfl ⟨rfl, (fun _ _ => rfl), (fun _ _ => rfl), hs_jKept, hs_jTR, hs_jqSt, (fun pr mm => ⟨pr.keep (x := ((σ 72 x172.toNatClampNeg) : Int32).toInt) (b := (σ 72 x172.toNatClampNeg).toInt) (by omega) (by omega) (by rw [(show (σ 70 (A1).toNat).toInt = (σ 70 a1.toNatClampNeg).toInt from by rw [jnc (show a1.toInt = A1 from t1)])]; omega) (Or.inr ⟨by rw [(show (σ 71 (A1).toNat) = (σ 71 a1.toNatClampNeg) from by rw [jnc (show a1.toInt = A1 from t1)])]; omega, by rw [(show (σ 73 (A1).toNat) = (σ 73 a1.toNatClampNeg) from by rw [jnc (show a1.toInt = A1 from t1)])]; omega, (by rw [jnc (show x172.toInt = 8 * (A1) by omega)])⟩) (by rw [(show (σ 71 (A1).toNat) = (σ 71 a1.toNatClampNeg) from by rw [jnc (show a1.toInt = A1 from t1)])]; omega) (Or.inl ⟨rfl, by omega, (by rw [← w177]; omega)⟩) w189, mm⟩), ⟨trivial, (by omega)⟩⟩ hP hS dX12_putsOn_85
                · exact by
                   obtain ⟨q194, k193⟩ := h179
                   have q194 := q194.symm
                   subst q194
                   refine lv_if_lt (tgt := 81) hx hb dX12_putsOn_74 (of_decide_eq_true rfl) (fun _ => ?_) (fun c => absurd (of_decide_eq_true rfl) c)
                   refine lv_iconst (v := (-1)) hx hb dX12_putsOn_81 (of_decide_eq_true rfl) ?_
                   have p195 : jmb σ B0 = 1 := (jmb_fr rfl rfl rfl rfl rfl B0).trans hB0
                   refine jcallV (As := [.int a1, .int (-1)]) (rest := []) ⟨hx, hb, hml, hown, hts⟩ hK hP hA hS hZ (c_X12_turnOf l D cI cL ad zz hJ σ τ B0 p195 a1 (A1) t1 (-1) ((-1)) jz_m1 hI102 hI106 (by omega) (by omega) (by omega) (by omega)) cw_RX12_277 (jc_55 cI cL ad σ τ) rfl ⟨Nat.le_of_ble_eq_true rfl, Nat.le_of_ble_eq_true rfl⟩ rfl rfl rfl hl.1 rfl (Nat.le_of_ble_eq_true rfl) dX12_putsOn_82 ⟨Nat.zero_le _, Nat.zero_le _⟩ (fun r197 σ196 τ196 H locs h196 hP hS => ?_)
                   obtain ⟨⟨rfl, rfl⟩, w198, h196⟩ := h196
                   have h199 := h196
                   exact by
                    obtain ⟨q201, k200⟩ := h199
                    exact by exact hret r197 σ τ _ _ _ _ rfl ⟨rfl, (fun _ _ => rfl), (fun _ _ => rfl), hs_jKept, hs_jTR, hs_jqSt, (fun pr mm => ⟨pr.keep (x := ((σ 72 x172.toNatClampNeg) : Int32).toInt) (b := (-1)) (by omega) (by omega) (by rw [(show (σ 70 (A1).toNat).toInt = (σ 70 a1.toNatClampNeg).toInt from by rw [jnc (show a1.toInt = A1 from t1)])]; omega) (Or.inr ⟨by rw [(show (σ 71 (A1).toNat) = (σ 71 a1.toNatClampNeg) from by rw [jnc (show a1.toInt = A1 from t1)])]; omega, by rw [(show (σ 73 (A1).toNat) = (σ 73 a1.toNatClampNeg) from by rw [jnc (show a1.toInt = A1 from t1)])]; omega, (by rw [jnc (show x172.toInt = 8 * (A1) by omega)])⟩) (by rw [(show (σ 71 (A1).toNat) = (σ 71 a1.toNatClampNeg) from by rw [jnc (show a1.toInt = A1 from t1)])]; omega) (Or.inr ⟨by omega, Or.inr (by rw [← w177]; first | decide | omega)⟩) w198, mm⟩), ⟨trivial, (by omega)⟩⟩ hP hS dX12_putsOn_85
   · have kc22 := jeq c22 rfl jz_1
     refine lv_aload_n hx hb dX12_putsOn_10 rfl (lv_at hl 0 rfl) ?_
     refine lv_iload_n hx hb dX12_putsOn_11 rfl (lv_at hl 1 rfl) ?_
     refine lv_iconst (v := (-1)) hx hb dX12_putsOn_12 (of_decide_eq_true rfl) ?_
     have p202 : jmb σ B0 = 1 := (jmb_fr rfl rfl rfl rfl rfl B0).trans hB0
     refine jcallV (As := [.int a1, .int (-1)]) (rest := []) ⟨hx, hb, hml, hown, hts⟩ hK hP hA hS hZ (c_X12_turnOf l D cI cL ad zz hJ σ τ B0 p202 a1 (A1) t1 (-1) ((-1)) jz_m1 hI102 hI106 (by omega) (by omega) (by omega) (by omega)) cw_RX12_277 (jc_55 cI cL ad σ τ) rfl ⟨Nat.le_of_ble_eq_true rfl, Nat.le_of_ble_eq_true rfl⟩ rfl rfl rfl hl.1 rfl (Nat.le_of_ble_eq_true rfl) dX12_putsOn_13 ⟨Nat.zero_le _, Nat.zero_le _⟩ (fun r204 σ203 τ203 H locs h203 hP hS => ?_)
     obtain ⟨⟨rfl, rfl⟩, w205, h203⟩ := h203
     exact by
      have h206 := h203
      obtain ⟨q208, k207⟩ := h206
      exact by exact hret r204 σ τ _ _ _ _ rfl ⟨rfl, (fun _ _ => rfl), (fun _ _ => rfl), hs_jKept, hs_jTR, hs_jqSt, (fun pr mm => ⟨pr.turn (b := (-1)) (by omega) (by omega) (by rw [(show (σ 70 (A1).toNat).toInt = (σ 70 a1.toNatClampNeg).toInt from by rw [jnc (show a1.toInt = A1 from t1)])]; omega) w205, mm⟩), ⟨trivial, (by omega)⟩⟩ hP hS dX12_putsOn_16
set_option maxHeartbeats 4000000 in
set_option maxRecDepth 100000 in
theorem c_X12_means_mf_g (l : Launch) (D : va_G) (cI cL : ClassId) (ad zz : Nat → Nat) (hJ : jD ad) (n : Nat) (h_mf : ∀ (σ : Nat → Nat → Int32) (τ : Nat → Nat → Int64) (a1 : Int32) (A1 : Int) (t1 : a1.toInt = A1) (hI101 : jI101 σ) (hI102 : jI102 σ) (hI103 : jI103 σ) (hI104 : jI104 σ) (hI105 : jI105 σ) (hI106 : jI106 σ) (hI120 : jI120 σ) (hs_jKept : jKept σ) (hs_jTR : jTR σ) (hs_jqSt : jqSt σ) (hp0 : 0 ≤ A1 ∧ A1 ≤ 19) (hp1 : (σ 55 12).toInt - (σ 55 26).toInt ≤ 8) (hp2 : (σ 55 12).toInt - (σ 55 26).toInt ≤ (((n) : Nat) : Int)), jM l yX12_meanFrom cX12_meanFrom 9 (some .int) ({ frames := (106 + 4 * (n)), cells := 0, slots := 0, locals := (5261 + 240 * (n)) }) D cI cL ad zz [.ref (ad 55), .int a1] σ τ (fun r σ' τ' => τ = τ' ∧ (∀ i : Nat, (i < 55 ∨ 55 < i) ∧ (i < 66 ∨ 66 < i) ∧ (i < 74 ∨ 78 < i) → σ' i = σ i) ∧ (∀ k : Nat, (k < 18 ∨ 18 < k) ∧ (k < 19 ∨ 19 < k) ∧ (k < 20 ∨ 20 < k) ∧ (k < 21 ∨ 21 < k) ∧ (k < 22 ∨ 22 < k) ∧ (k < 37 ∨ 37 < k) → σ' 55 k = σ 55 k) ∧ (jKept σ') ∧ (jTR σ') ∧ (jqSt σ') ∧ ((jrP σ → jrM σ → (r : Int32).toInt = jrMe σ (A1) ∧ jrM σ')) ∧ ((True ∧ (0 ≤ r.toInt ∧ r.toInt ≤ -(1023000 * (σ 55 26).toInt) + 12276000))))) (σ : Nat → Nat → Int32) (τ : Nat → Nat → Int64) (a1 : Int32) (A1 : Int) (t1 : a1.toInt = A1) (hI101 : jI101 σ) (hI102 : jI102 σ) (hI103 : jI103 σ) (hI104 : jI104 σ) (hI105 : jI105 σ) (hI106 : jI106 σ) (hI120 : jI120 σ) (hs_jKept : jKept σ) (hs_jTR : jTR σ) (hs_jqSt : jqSt σ) (hp0 : 0 ≤ A1 ∧ A1 ≤ 19) (hp1 : (σ 55 12).toInt - (σ 55 26).toInt ≤ 8) (hp2 : (σ 55 12).toInt - (σ 55 26).toInt ≤ (((n + 1) : Nat) : Int)) : jM l yX12_meanFrom cX12_meanFrom 9 (some .int) ({ frames := (106 + 4 * (n + 1)), cells := 0, slots := 0, locals := (5261 + 240 * (n + 1)) }) D cI cL ad zz [.ref (ad 55), .int a1] σ τ (fun r σ' τ' => τ = τ' ∧ (∀ i : Nat, (i < 55 ∨ 55 < i) ∧ (i < 66 ∨ 66 < i) ∧ (i < 74 ∨ 78 < i) → σ' i = σ i) ∧ (∀ k : Nat, (k < 18 ∨ 18 < k) ∧ (k < 19 ∨ 19 < k) ∧ (k < 20 ∨ 20 < k) ∧ (k < 21 ∨ 21 < k) ∧ (k < 22 ∨ 22 < k) ∧ (k < 37 ∨ 37 < k) → σ' 55 k = σ 55 k) ∧ (jKept σ') ∧ (jTR σ') ∧ (jqSt σ') ∧ ((jrP σ → jrM σ → (r : Int32).toInt = jrMe σ (A1) ∧ jrM σ')) ∧ ((True ∧ (0 ≤ r.toInt ∧ r.toInt ≤ -(1023000 * (σ 55 26).toInt) + 12276000)))) := by
  refine jM.of hJ (by decide +kernel) (nt := .int) rfl (Nat.le_of_ble_eq_true rfl) ?_
  intro p e s m args below meth c Q ls hC hret hl hP
  obtain ⟨hx, hb, hr, hml, hown, hts, hK, -, hlocks, hZ⟩ := hC
  have hown : s.vm.findClass RX12 = some m.cls := hown
  have hS : va_S (jA ad) s.heap s.heap [] := va_S.rf
  have hA : ∀ q, jA ad q → jA ad q := fun _ h => h
  have hl : lv_has ls 9 [(0, .ref (ad 55)), (1, .int a1)] := hl
  have g1 := jrg t1
  obtain ⟨i1, w2, w3⟩ : (0 ≤ (σ 55 6).toInt ∧ (σ 55 6).toInt ≤ 4) ∧ (∀ k : Nat, k < 4 → 0 ≤ (σ 60 k).toInt ∧ (σ 60 k).toInt ≤ 50) ∧ (∀ k : Nat, k < 4 → 0 ≤ (σ 61 k).toInt ∧ (σ 61 k).toInt ≤ 20) := id hI102
  obtain ⟨i4, i5, i6, w7, w8⟩ : (1 ≤ (σ 55 10).toInt ∧ (σ 55 10).toInt ≤ 8) ∧ (1 ≤ (σ 55 12).toInt ∧ (σ 55 12).toInt ≤ 12) ∧ (0 ≤ (σ 55 13).toInt ∧ (σ 55 13).toInt ≤ 999) ∧ (∀ k : Nat, k < 8 → 0 ≤ (σ 62 k).toInt ∧ (σ 62 k).toInt ≤ 3) ∧ (∀ k : Nat, k < 8 → 0 ≤ (σ 67 k).toInt ∧ (σ 67 k).toInt ≤ 3) := id hI104
  obtain ⟨i9, i10, i11, i12, i13, w14⟩ : (0 ≤ (σ 55 25).toInt) ∧ ((σ 55 25).toInt ≤ (σ 55 10).toInt) ∧ (0 ≤ (σ 55 26).toInt) ∧ ((σ 55 26).toInt ≤ (σ 55 12).toInt) ∧ ((-1) ≤ (σ 55 27).toInt ∧ (σ 55 27).toInt ≤ 3) ∧ (∀ k : Nat, k < 4 → 0 ≤ (σ 68 k).toInt ∧ (σ 68 k).toInt ≤ 3) := id hI120
  refine lv_aload_n hx hb dX12_meanFrom_0 rfl (lv_at hl 0 rfl) ?_
  refine jcallV (As := []) (rest := []) ⟨hx, hb, hml, hown, hts⟩ hK hP hA hS hZ (c_X12_isEnded l D cI cL ad zz hJ σ τ hI102 hI104 hI120) cw_RX12_307 (jc_55 cI cL ad σ τ) rfl ⟨by dsimp only; omega, by dsimp only; omega⟩ rfl rfl rfl hl.1 rfl (Nat.le_of_ble_eq_true rfl) dX12_meanFrom_1 ⟨Nat.zero_le _, Nat.zero_le _⟩ (fun r16 σ15 τ15 H locs h15 hP hS => ?_)
  obtain ⟨⟨rfl, rfl⟩, h15⟩ := h15
  rcases h15 with h17 | h18
  · obtain ⟨q20, k19⟩ := h17
    have q20 := q20.symm
    subst q20
    refine lv_if_eq (tgt := 9) hx hb dX12_meanFrom_4 (of_decide_eq_true rfl) (fun c => absurd c (of_decide_eq_true rfl)) (fun _ => ?_)
    refine lv_iconst (v := 0) hx hb dX12_meanFrom_7 (of_decide_eq_true rfl) ?_
    exact by exact hret 0 σ τ _ _ _ _ rfl ⟨rfl, (fun _ _ => rfl), (fun _ _ => rfl), hs_jKept, hs_jTR, hs_jqSt, (fun pr mm => ⟨by rw [(jrMe.fin (r := A1) pr (by omega) k19).1]; decide, mm⟩), ⟨trivial, (by have h9 := jz_0; omega)⟩⟩ hP hS dX12_meanFrom_8
  · obtain ⟨q24, k21, k22, k23⟩ := h18
    have q24 := q24.symm
    subst q24
    obtain ⟨B25, k26, k27, w28⟩ := k23
    refine lv_if_eq (tgt := 9) hx hb dX12_meanFrom_4 (of_decide_eq_true rfl) (fun _ => ?_) (fun c => absurd (of_decide_eq_true rfl) c)
    refine lv_aload_n hx hb dX12_meanFrom_9 rfl (lv_at hl 0 rfl) ?_
    refine lv_iload_n hx hb dX12_meanFrom_10 rfl (lv_at hl 1 rfl) ?_
    have p29 : jmb σ B25 = 1 := (jmb_fr rfl rfl rfl rfl rfl B25).trans w28
    exact by
     refine jcallV (As := [.int a1]) (rest := []) ⟨hx, hb, hml, hown, hts⟩ hK hP hA hS hZ (c_X12_putsOn l D cI cL ad zz hJ σ τ B25 p29 a1 (A1) t1 hI101 hI102 hI103 hI104 hI105 hI106 hI120 hs_jKept hs_jTR hs_jqSt (by omega) (by omega) (by omega) (by omega) (by omega)) cw_RX12_321 (jc_55 cI cL ad σ τ) rfl ⟨by dsimp only; omega, by dsimp only; omega⟩ rfl rfl rfl hl.1 rfl (Nat.le_of_ble_eq_true rfl) dX12_meanFrom_11 ⟨Nat.zero_le _, Nat.zero_le _⟩ (fun r31 σ30 τ30 H locs h30 hP hS => ?_)
     obtain ⟨rfl, f32, f33, p34, p35, p36, w37, h30⟩ := h30
     have h39 := h30
     obtain ⟨q41, k40⟩ := h39
     refine lv_istore_n (lv' := [(2, .int r31), (0, .ref (ad 55)), (1, .int a1)]) hx hb dX12_meanFrom_14 rfl hl (of_decide_eq_true rfl) rfl (fun ls hl => ?_)
     refine lv_aload_n hx hb dX12_meanFrom_15 rfl (lv_at hl 1 rfl) ?_
     refine va_get (D := D) hx hb hts inlX12 hown hK hP 55 (jc_55 cI cL ad σ30 τ) rfl 11 (of_decide_eq_true rfl) (hts _ kw_7_8) (fun _ h9 => h9) rfl dX12_meanFrom_16 ?_
     refine lv_aload_n hx hb dX12_meanFrom_19 rfl (lv_at hl 1 rfl) ?_
     refine va_get (D := D) hx hb hts inlX12 hown hK hP 55 (jc_55 cI cL ad σ30 τ) rfl 25 (of_decide_eq_true rfl) (hts _ kw_23_6) (fun _ h9 => h9) rfl dX12_meanFrom_20 ?_
     have m42 : σ30 55 25 = (σ 55 25) := (f33 25 (of_decide_eq_true rfl))
     refine jtopr m42 ?_
     exact by
      refine jald hx hb hK hP (jc_62 cI cL ad σ30 τ) (jin rfl (by omega) (by omega)) dX12_meanFrom_23 ?_
      have w43 : ∀ k : Nat, k < 8 → 0 ≤ (σ30 62 k).toInt ∧ (σ30 62 k).toInt ≤ 3 := (jrr_fr (f32 62 (of_decide_eq_true rfl)) w7)
      have g44 := w43 _ (jnat (x := (σ 55 25)) rfl (n := 8) (by omega) (of_decide_eq_true rfl))
      refine jtopr (y := (σ 62 (σ 55 25).toNatClampNeg)) (by rw [f32 62 (of_decide_eq_true rfl)]) ?_
      rw [f32 62 (of_decide_eq_true rfl)] at g44
      refine lv_istore_n (lv' := [(3, .int (σ 62 (σ 55 25).toNatClampNeg)), (2, .int r31), (0, .ref (ad 55)), (1, .int a1)]) hx hb dX12_meanFrom_24 rfl hl (of_decide_eq_true rfl) rfl (fun ls hl => ?_)
      refine lv_aload_n hx hb dX12_meanFrom_25 rfl (lv_at hl 2 rfl) ?_
      refine lv_iload_n hx hb dX12_meanFrom_26 rfl (lv_at hl 1 rfl) ?_
      refine lv_iload_n hx hb dX12_meanFrom_27 rfl (lv_at hl 0 rfl) ?_
      exact by
       have I45 : jI101 σ30 := jI101_fr (f33 4 (of_decide_eq_true rfl)) (f33 5 (of_decide_eq_true rfl)) (f32 56 (of_decide_eq_true rfl)) (f32 57 (of_decide_eq_true rfl)) (f32 58 (of_decide_eq_true rfl)) (f32 59 (of_decide_eq_true rfl)) hI101
       have I46 : jI102 σ30 := jI102_fr (f33 6 (of_decide_eq_true rfl)) (f32 60 (of_decide_eq_true rfl)) (f32 61 (of_decide_eq_true rfl)) hI102
       have I47 : jI103 σ30 := jI103_fr (f33 9 (of_decide_eq_true rfl)) hI103
       have I48 : jI105 σ30 := jI105_fr (f33 15 (of_decide_eq_true rfl)) (f32 65 (of_decide_eq_true rfl)) hI105
       have w49 : ∀ k : Nat, k < 4 → 0 ≤ (σ30 68 k).toInt ∧ (σ30 68 k).toInt ≤ 3 := (jrr_fr (f32 68 (of_decide_eq_true rfl)) w14)
       refine jcallV (As := [.int r31, .int (σ 62 (σ 55 25).toNatClampNeg)]) (rest := []) ⟨hx, hb, hml, hown, hts⟩ hK hP hA hS hZ (c_X12_outBy l D cI cL ad zz hJ σ30 τ r31 (r31.toInt) rfl (σ 62 (σ 55 25).toNatClampNeg) ((σ 62 (σ 55 25).toNatClampNeg).toInt) rfl I45 I46 I47 I48 w49 p35 (by omega) (by omega)) cw_RX12_259 (jc_55 cI cL ad σ30 τ) rfl ⟨by dsimp only; omega, by dsimp only; omega⟩ rfl rfl rfl hl.1 rfl (Nat.le_of_ble_eq_true rfl) dX12_meanFrom_28 ⟨Nat.zero_le _, Nat.zero_le _⟩ (fun r51 σ50 τ50 H locs h50 hP hS => ?_)
       obtain ⟨rfl, f52, f53, p54, w55, h50⟩ := h50
       have h57 := h50
       obtain ⟨q59, k58⟩ := h57
       exact by
        refine lv_istore (lv' := [(4, .int r51), (3, .int (σ 62 (σ 55 25).toNatClampNeg)), (2, .int r31), (0, .ref (ad 55)), (1, .int a1)]) hx hb dX12_meanFrom_31 hl (of_decide_eq_true rfl) rfl (fun ls hl => ?_)
        refine lv_sipush (v := 1000) hx hb dX12_meanFrom_33 (of_decide_eq_true rfl) ?_
        refine lv_aload_n hx hb dX12_meanFrom_36 rfl (lv_at hl 3 rfl) ?_
        refine lv_iload_n hx hb dX12_meanFrom_37 rfl (lv_at hl 2 rfl) ?_
        refine lv_iload_n hx hb dX12_meanFrom_38 rfl (lv_at hl 1 rfl) ?_
        have I60 : jI101 σ50 := jI101_fr (f53 4 (of_decide_eq_true rfl)) (f53 5 (of_decide_eq_true rfl)) (f52 56 (of_decide_eq_true rfl)) (f52 57 (of_decide_eq_true rfl)) (f52 58 (of_decide_eq_true rfl)) (f52 59 (of_decide_eq_true rfl)) I45
        have I61 : jI102 σ50 := jI102_fr (f53 6 (of_decide_eq_true rfl)) (f52 60 (of_decide_eq_true rfl)) (f52 61 (of_decide_eq_true rfl)) I46
        have I62 : jI103 σ50 := jI103_fr (f53 9 (of_decide_eq_true rfl)) I47
        have w63 : ∀ k : Nat, k < 4 → 0 ≤ (σ50 68 k).toInt ∧ (σ50 68 k).toInt ≤ 3 := (jrr_fr (f52 68 (of_decide_eq_true rfl)) w49)
        exact by
         refine jcallV (As := [.int r31, .int (σ 62 (σ 55 25).toNatClampNeg)]) (rest := [.int 1000]) ⟨hx, hb, hml, hown, hts⟩ hK hP hA hS hZ (c_X12_runsBy l D cI cL ad zz hJ σ50 τ r31 (r31.toInt) rfl (σ 62 (σ 55 25).toNatClampNeg) ((σ 62 (σ 55 25).toNatClampNeg).toInt) rfl I60 I61 I62 w63 (by omega) (by omega)) cw_RX12_262 (jc_55 cI cL ad σ50 τ) rfl ⟨by dsimp only; omega, by dsimp only; omega⟩ rfl rfl rfl hl.1 rfl (Nat.le_of_ble_eq_true rfl) dX12_meanFrom_39 ⟨Nat.zero_le _, Nat.zero_le _⟩ (fun r65 σ64 τ64 H locs h64 hP hS => ?_)
         obtain ⟨⟨rfl, rfl⟩, w66, h64⟩ := h64
         have h67 := h64
         obtain ⟨q69, k68⟩ := h67
         have g70 := jrg (rfl : r65.toInt = r65.toInt)
         refine lv_imul hx hb dX12_meanFrom_42 ?_
         refine lv_topi (fun x71 ex71 => ?_)
         have tx71 : x71.toInt = 1000 * r65.toInt := (jmul ex71 jz_1000 rfl (by omega) (by omega)).trans (by omega)
         refine lv_istore (lv' := [(5, .int x71), (4, .int r51), (3, .int (σ 62 (σ 55 25).toNatClampNeg)), (2, .int r31), (0, .ref (ad 55)), (1, .int a1)]) hx hb dX12_meanFrom_43 hl (of_decide_eq_true rfl) rfl (fun ls hl => ?_)
         exact by
          refine lv_aload_n hx hb dX12_meanFrom_45 rfl (lv_at hl 4 rfl) ?_
          refine lv_iload_n hx hb dX12_meanFrom_46 rfl (lv_at hl 3 rfl) ?_
          refine lv_iconst (v := 1) hx hb dX12_meanFrom_47 (of_decide_eq_true rfl) ?_
          have z72 : (σ50 55 6).toInt = (σ 55 6).toInt := (congrArg Int32.toInt (show σ50 55 6 = (σ 55 6) from ((f53 6 (of_decide_eq_true rfl)).trans (f33 6 (of_decide_eq_true rfl)))))
          have z73 : (σ50 55 27).toInt = (σ 55 27).toInt := (congrArg Int32.toInt (show σ50 55 27 = (σ 55 27) from ((f53 27 (of_decide_eq_true rfl)).trans (f33 27 (of_decide_eq_true rfl)))))
          have z74 : (σ50 55 25).toInt = (σ 55 25).toInt := (congrArg Int32.toInt (show σ50 55 25 = (σ 55 25) from ((f53 25 (of_decide_eq_true rfl)).trans m42)))
          have z75 : (σ50 55 26).toInt = (σ 55 26).toInt := (congrArg Int32.toInt (show σ50 55 26 = (σ 55 26) from ((f53 26 (of_decide_eq_true rfl)).trans (f33 26 (of_decide_eq_true rfl)))))
          have z76 : (σ50 68 0).toInt = (σ 68 0).toInt := (congrArg Int32.toInt (show σ50 68 0 = (σ 68 0) from ((congrFun (f52 68 (of_decide_eq_true rfl)) 0).trans (congrFun (f32 68 (of_decide_eq_true rfl)) 0))))
          have z77 : (σ50 68 1).toInt = (σ 68 1).toInt := (congrArg Int32.toInt (show σ50 68 1 = (σ 68 1) from ((congrFun (f52 68 (of_decide_eq_true rfl)) 1).trans (congrFun (f32 68 (of_decide_eq_true rfl)) 1))))
          have z78 : (σ50 68 2).toInt = (σ 68 2).toInt := (congrArg Int32.toInt (show σ50 68 2 = (σ 68 2) from ((congrFun (f52 68 (of_decide_eq_true rfl)) 2).trans (congrFun (f32 68 (of_decide_eq_true rfl)) 2))))
          have z79 : (σ50 68 3).toInt = (σ 68 3).toInt := (congrArg Int32.toInt (show σ50 68 3 = (σ 68 3) from ((congrFun (f52 68 (of_decide_eq_true rfl)) 3).trans (congrFun (f32 68 (of_decide_eq_true rfl)) 3))))
          exact by
           refine jcallV (As := [.int r31, .int 1]) (rest := []) ⟨hx, hb, hml, hown, hts⟩ hK hP hA hS hZ (c_X12_goes_1 l D cI cL ad zz hJ σ50 τ r31 (r31.toInt) rfl w63 (by omega) (by omega) (by omega) (by omega) (by omega)) cw_RX12_296 (jc_55 cI cL ad σ50 τ) rfl ⟨by dsimp only; omega, by dsimp only; omega⟩ rfl rfl rfl hl.1 rfl (Nat.le_of_ble_eq_true rfl) dX12_meanFrom_48 ⟨Nat.zero_le _, Nat.zero_le _⟩ (fun r81 σ80 τ80 H locs h80 hP hS => ?_)
           obtain ⟨rfl, f82, f83, w84, w85, w86, w87, h80⟩ := h80
           obtain ⟨k89, k90, k91, h80⟩ := h80
           have h92 := h80
           obtain ⟨q98, k93, k94, k95, k96, k97⟩ := h92
           refine lv_istore (lv' := [(6, .int r81), (5, .int x71), (4, .int r51), (3, .int (σ 62 (σ 55 25).toNatClampNeg)), (2, .int r31), (0, .ref (ad 55)), (1, .int a1)]) hx hb dX12_meanFrom_51 hl (of_decide_eq_true rfl) rfl (fun ls hl => ?_)
           refine lv_aload_n hx hb dX12_meanFrom_53 rfl (lv_at hl 5 rfl) ?_
           refine lv_iload_n hx hb dX12_meanFrom_54 rfl (lv_at hl 6 rfl) ?_
           have I99 : jI101 σ80 := jI101_fr (f83 4 (of_decide_eq_true rfl)) (f83 5 (of_decide_eq_true rfl)) (f82 56 (of_decide_eq_true rfl)) (f82 57 (of_decide_eq_true rfl)) (f82 58 (of_decide_eq_true rfl)) (f82 59 (of_decide_eq_true rfl)) I60
           have I100 : jI102 σ80 := jI102_fr (f83 6 (of_decide_eq_true rfl)) (f82 60 (of_decide_eq_true rfl)) (f82 61 (of_decide_eq_true rfl)) I61
           have I101 : jI103 σ80 := jI103_fr (f83 9 (of_decide_eq_true rfl)) I62
           have I102 : jI104 σ80 := jI104_fr ((f83 10 (of_decide_eq_true rfl)).trans ((f53 10 (of_decide_eq_true rfl)).trans (f33 10 (of_decide_eq_true rfl)))) ((f83 12 (of_decide_eq_true rfl)).trans ((f53 12 (of_decide_eq_true rfl)).trans (f33 12 (of_decide_eq_true rfl)))) ((f83 13 (of_decide_eq_true rfl)).trans ((f53 13 (of_decide_eq_true rfl)).trans (f33 13 (of_decide_eq_true rfl)))) ((f82 62 (of_decide_eq_true rfl)).trans ((f52 62 (of_decide_eq_true rfl)).trans (f32 62 (of_decide_eq_true rfl)))) ((f82 67 (of_decide_eq_true rfl)).trans ((f52 67 (of_decide_eq_true rfl)).trans (f32 67 (of_decide_eq_true rfl)))) hI104
           have I103 : jI105 σ80 := jI105_fr ((f83 15 (of_decide_eq_true rfl)).trans (f53 15 (of_decide_eq_true rfl))) ((f82 65 (of_decide_eq_true rfl)).trans (f52 65 (of_decide_eq_true rfl))) I48
           have I104 : jI106 σ80 := jI106_fr ((f83 32 (of_decide_eq_true rfl)).trans ((f53 32 (of_decide_eq_true rfl)).trans (f33 32 (of_decide_eq_true rfl)))) ((f82 70 (of_decide_eq_true rfl)).trans ((f52 70 (of_decide_eq_true rfl)).trans (f32 70 (of_decide_eq_true rfl)))) ((f82 71 (of_decide_eq_true rfl)).trans ((f52 71 (of_decide_eq_true rfl)).trans (f32 71 (of_decide_eq_true rfl)))) ((f82 72 (of_decide_eq_true rfl)).trans ((f52 72 (of_decide_eq_true rfl)).trans (f32 72 (of_decide_eq_true rfl)))) hI106
           have z105 : (σ80 55 10).toInt = (σ 55 10).toInt := (congrArg Int32.toInt (show σ80 55 10 = (σ 55 10) from ((f83 10 (of_decide_eq_true rfl)).trans ((f53 10 (of_decide_eq_true rfl)).trans (f33 10 (of_decide_eq_true rfl))))))
           have z106 : (σ80 55 12).toInt = (σ 55 12).toInt := (congrArg Int32.toInt (show σ80 55 12 = (σ 55 12) from ((f83 12 (of_decide_eq_true rfl)).trans ((f53 12 (of_decide_eq_true rfl)).trans (f33 12 (of_decide_eq_true rfl))))))
           exact by
            have I107 : jI120 σ80 := ⟨(by omega), (by omega), (by omega), (by omega), (by omega), w84⟩
            have p108 : jKept σ80 := jKept.fr ((f82 75 (of_decide_eq_true rfl)).trans (f52 75 (of_decide_eq_true rfl))) ((f82 76 (of_decide_eq_true rfl)).trans (f52 76 (of_decide_eq_true rfl))) ((f82 77 (of_decide_eq_true rfl)).trans (f52 77 (of_decide_eq_true rfl))) p34
            have p109 : jTR σ80 := jTR.fr (f82 64 (of_decide_eq_true rfl)) (f82 65 (of_decide_eq_true rfl)) p54
            have p110 : jqSt σ80 := jqSt.fr ((f82 78 (of_decide_eq_true rfl)).trans (f52 78 (of_decide_eq_true rfl))) ((f83 42 (of_decide_eq_true rfl)).trans (f53 42 (of_decide_eq_true rfl))) p36
            refine jcallV (As := [.int a1]) (rest := []) ⟨hx, hb, hml, hown, hts⟩ hK hP hA hS hZ (h_mf σ80 τ a1 (A1) t1 I99 I100 I101 I102 I103 I104 I107 p108 p109 p110 (by omega) (by omega) (by omega)) cw_RX12_324 (jc_55 cI cL ad σ80 τ) rfl ⟨by dsimp only; omega, by dsimp only; omega⟩ rfl rfl rfl hl.1 rfl (Nat.le_of_ble_eq_true rfl) dX12_meanFrom_55 ⟨Nat.zero_le _, Nat.zero_le _⟩ (fun r112 σ111 τ111 H locs h111 hP hS => ?_)
            obtain ⟨rfl, f113, f114, p115, p116, p117, w118, h111⟩ := h111
            have z120 : (σ50 55 12).toInt = (σ 55 12).toInt := (congrArg Int32.toInt (show σ50 55 12 = (σ 55 12) from ((f53 12 (of_decide_eq_true rfl)).trans (f33 12 (of_decide_eq_true rfl)))))
            have R121 : jrP σ50 → jrM σ50 → jmb σ50 r31 = 1 → (r31 : Int32).toInt < (σ50 55 6).toInt → (r112 : Int32).toInt = jrNm σ50 (A1) (r31 : Int32).toInt.toNat 1 ∧ jrM σ111 := fun pr mm mb lb => by
              have g := jrP.goes (σ := σ50) (σ' := σ80) (b := r31) ⟨⟨(f82 56 (of_decide_eq_true rfl)), (f82 60 (of_decide_eq_true rfl)), (f82 61 (of_decide_eq_true rfl)), (f82 62 (of_decide_eq_true rfl)), (f82 64 (of_decide_eq_true rfl)), (f82 65 (of_decide_eq_true rfl))⟩, (f83 6 (of_decide_eq_true rfl)), (f83 9 (of_decide_eq_true rfl)), (f83 10 (of_decide_eq_true rfl)), (f83 12 (of_decide_eq_true rfl)), (f83 13 (of_decide_eq_true rfl)), (f83 30 (of_decide_eq_true rfl)), (f83 31 (of_decide_eq_true rfl)), (f83 42 (of_decide_eq_true rfl))⟩ pr mb (by omega) lb w85 (fun c hc => by have w := w87 c hc; rw [show r31.toInt = (r31 : Int32).toInt from by omega] at w; exact w) w86 (by omega) (by omega) (by omega) ((σ50 55 25).toInt + 1) (by omega)
              exact by
               have x := jrMe.next (σ := σ50) (σ' := σ80) (b := r31) (r := A1) (e := 1) ⟨⟨(f82 56 (of_decide_eq_true rfl)), (f82 60 (of_decide_eq_true rfl)), (f82 61 (of_decide_eq_true rfl)), (f82 62 (of_decide_eq_true rfl)), (f82 64 (of_decide_eq_true rfl)), (f82 65 (of_decide_eq_true rfl))⟩, (f83 6 (of_decide_eq_true rfl)), (f83 9 (of_decide_eq_true rfl)), (f83 10 (of_decide_eq_true rfl)), (f83 12 (of_decide_eq_true rfl)), (f83 13 (of_decide_eq_true rfl)), (f83 30 (of_decide_eq_true rfl)), (f83 31 (of_decide_eq_true rfl)), (f83 42 (of_decide_eq_true rfl))⟩ pr mb (by omega) lb w85 (fun c hc => by have w := w87 c hc; rw [show r31.toInt = (r31 : Int32).toInt from by omega] at w; exact w) (by omega) (by omega) (by omega) (by omega) (by omega) ⟨(f82 70 (of_decide_eq_true rfl)), (f82 71 (of_decide_eq_true rfl)), (f82 72 (of_decide_eq_true rfl)), (f82 73 (of_decide_eq_true rfl))⟩
               have z := w118 g.1 (jrEq.m (σ := σ50) (σ' := σ80) ⟨⟨(f82 56 (of_decide_eq_true rfl)), (f82 60 (of_decide_eq_true rfl)), (f82 61 (of_decide_eq_true rfl)), (f82 62 (of_decide_eq_true rfl)), (f82 64 (of_decide_eq_true rfl)), (f82 65 (of_decide_eq_true rfl))⟩, (f83 6 (of_decide_eq_true rfl)), (f83 9 (of_decide_eq_true rfl)), (f83 10 (of_decide_eq_true rfl)), (f83 12 (of_decide_eq_true rfl)), (f83 13 (of_decide_eq_true rfl)), (f83 30 (of_decide_eq_true rfl)), (f83 31 (of_decide_eq_true rfl)), (f83 42 (of_decide_eq_true rfl))⟩ (f82 78 (of_decide_eq_true rfl)) (f82 74 (of_decide_eq_true rfl)) (f82 75 (of_decide_eq_true rfl)) (f82 76 (of_decide_eq_true rfl)) (f82 77 (of_decide_eq_true rfl)) mm)
               exact ⟨z.1.trans x.1, z.2⟩
            have h122 := h111
            obtain ⟨q124, k123⟩ := h122
            refine lv_istore (lv' := [(7, .int r112), (6, .int r81), (5, .int x71), (4, .int r51), (3, .int (σ 62 (σ 55 25).toNatClampNeg)), (2, .int r31), (0, .ref (ad 55)), (1, .int a1)]) hx hb dX12_meanFrom_58 hl (of_decide_eq_true rfl) rfl (fun ls hl => ?_)
            refine lv_aload_n hx hb dX12_meanFrom_60 rfl (lv_at hl 6 rfl) ?_
            refine lv_iload_n hx hb dX12_meanFrom_61 rfl (lv_at hl 5 rfl) ?_
            refine lv_iconst (v := 1) hx hb dX12_meanFrom_62 (of_decide_eq_true rfl) ?_
            refine lv_iload hx hb dX12_meanFrom_63 (lv_at hl 1 rfl) ?_
            have w125 : ∀ k : Nat, k < 4 → 0 ≤ (σ111 68 k).toInt ∧ (σ111 68 k).toInt ≤ 3 := (jrr_fr (f113 68 (of_decide_eq_true rfl)) w84)
            have z126 : (σ111 55 25).toInt = (σ80 55 25).toInt := (congrArg Int32.toInt (show σ111 55 25 = (σ80 55 25) from (f114 25 (of_decide_eq_true rfl))))
            have z127 : (σ111 55 26).toInt = (σ80 55 26).toInt := (congrArg Int32.toInt (show σ111 55 26 = (σ80 55 26) from (f114 26 (of_decide_eq_true rfl))))
            have z128 : (σ111 55 6).toInt = (σ 55 6).toInt := (congrArg Int32.toInt (show σ111 55 6 = (σ 55 6) from ((f114 6 (of_decide_eq_true rfl)).trans ((f83 6 (of_decide_eq_true rfl)).trans ((f53 6 (of_decide_eq_true rfl)).trans (f33 6 (of_decide_eq_true rfl)))))))
            have w129 : ∀ k : Nat, k < 4 → 0 ≤ (σ50 68 k).toInt ∧ (σ50 68 k).toInt ≤ 3 := w63
            have z131 : (σ50 55 27).toInt = (σ 55 27).toInt := (congrArg Int32.toInt (show σ50 55 27 = (σ 55 27) from ((f53 27 (of_decide_eq_true rfl)).trans (f33 27 (of_decide_eq_true rfl)))))
            exact by
             have k130 := jwas (by omega) (w129 0 (of_decide_eq_true rfl)) (w129 1 (of_decide_eq_true rfl)) (w129 2 (of_decide_eq_true rfl)) (w129 3 (of_decide_eq_true rfl)) k93
             rw [← (show σ111 55 6 = σ50 55 6 from ((f114 6 (of_decide_eq_true rfl)).trans (f83 6 (of_decide_eq_true rfl))))] at k130
             refine jcallVv (As := [.int r31, .int 1, .int r81]) (rest := []) ⟨hx, hb, hml, hown, hts⟩ hK hP hA hS hZ (c_X12_goesBack_1 l D cI cL ad zz hJ σ111 τ r31 (r31.toInt) rfl r81 (r81.toInt) rfl w125 (by omega) (by omega) (by omega) k130) cw_RX12_300 (jc_55 cI cL ad σ111 τ) rfl ⟨by dsimp only; omega, by dsimp only; omega⟩ rfl rfl rfl hl.1 rfl (Nat.le_of_ble_eq_true rfl) dX12_meanFrom_65 ⟨Nat.zero_le _, Nat.zero_le _⟩ (fun σ132 τ132 H locs h132 hP hS => ?_)
             obtain ⟨rfl, f134, f135, w136, w137, w138, h132⟩ := h132
             obtain ⟨k140, k141, k142, k143, h132⟩ := h132
             have p144 : jKept σ132 := jKept.fr (f134 75 (of_decide_eq_true rfl)) (f134 76 (of_decide_eq_true rfl)) (f134 77 (of_decide_eq_true rfl)) p115
             have p145 : jTR σ132 := jTR.fr (f134 64 (of_decide_eq_true rfl)) (f134 65 (of_decide_eq_true rfl)) p116
             have p146 : jqSt σ132 := jqSt.fr (f134 78 (of_decide_eq_true rfl)) (f135 42 (of_decide_eq_true rfl)) p117
             have M147 : jrM σ111 → jrM σ132 := fun q => (jrEq.m (σ := σ111) (σ' := σ132) ⟨⟨(f134 56 (of_decide_eq_true rfl)), (f134 60 (of_decide_eq_true rfl)), (f134 61 (of_decide_eq_true rfl)), (f134 62 (of_decide_eq_true rfl)), (f134 64 (of_decide_eq_true rfl)), (f134 65 (of_decide_eq_true rfl))⟩, (f135 6 (of_decide_eq_true rfl)), (f135 9 (of_decide_eq_true rfl)), (f135 10 (of_decide_eq_true rfl)), (f135 12 (of_decide_eq_true rfl)), (f135 13 (of_decide_eq_true rfl)), (f135 30 (of_decide_eq_true rfl)), (f135 31 (of_decide_eq_true rfl)), (f135 42 (of_decide_eq_true rfl))⟩ (f134 78 (of_decide_eq_true rfl)) (f134 74 (of_decide_eq_true rfl)) (f134 75 (of_decide_eq_true rfl)) (f134 76 (of_decide_eq_true rfl)) (f134 77 (of_decide_eq_true rfl)) q)
             exact by
              have e148 : σ111 69 = σ80 69 := (f113 69 (of_decide_eq_true rfl))
              have e149 : σ132 69 = σ50 69 := jback69 w85 e148 w137
              have e150 : σ111 68 = σ80 68 := (f113 68 (of_decide_eq_true rfl))
              have e151 : σ111 55 6 = σ50 55 6 := ((f114 6 (of_decide_eq_true rfl)).trans (f83 6 (of_decide_eq_true rfl)))
              have w159 : ∀ k : Nat, k < 4 → 0 ≤ (σ50 68 k).toInt ∧ (σ50 68 k).toInt ≤ 3 := w63
              have w160 : ∀ k : Nat, k < 4 → 0 ≤ (σ132 68 k).toInt ∧ (σ132 68 k).toInt ≤ 3 := w136
              have k161 := k143
              rw [e151] at k161
              have D152 := jdig (w159 0 (of_decide_eq_true rfl)) (w159 1 (of_decide_eq_true rfl)) (w159 2 (of_decide_eq_true rfl)) (w159 3 (of_decide_eq_true rfl)) (w160 0 (of_decide_eq_true rfl)) (w160 1 (of_decide_eq_true rfl)) (w160 2 (of_decide_eq_true rfl)) (w160 3 (of_decide_eq_true rfl)) k93 k161
              exact by
               have e153 : σ132 55 27 = σ50 55 27 := Int32.toInt_inj.mp (by have h9 := D152.1; omega)
               have z162 : (σ111 55 26).toInt = (σ80 55 26).toInt := (congrArg Int32.toInt (show σ111 55 26 = (σ80 55 26) from (f114 26 (of_decide_eq_true rfl))))
               have z163 : (σ50 55 26).toInt = (σ 55 26).toInt := (congrArg Int32.toInt (show σ50 55 26 = (σ 55 26) from ((f53 26 (of_decide_eq_true rfl)).trans (f33 26 (of_decide_eq_true rfl)))))
               have z164 : (σ111 55 25).toInt = (σ80 55 25).toInt := (congrArg Int32.toInt (show σ111 55 25 = (σ80 55 25) from (f114 25 (of_decide_eq_true rfl))))
               have z165 : (σ50 55 25).toInt = (σ 55 25).toInt := (congrArg Int32.toInt (show σ50 55 25 = (σ 55 25) from ((f53 25 (of_decide_eq_true rfl)).trans (f33 25 (of_decide_eq_true rfl)))))
               have e154 : σ132 55 26 = σ50 55 26 := Int32.toInt_inj.mp (by omega)
               have e155 : σ132 55 25 = σ50 55 25 := Int32.toInt_inj.mp (by omega)
               have z166 : (σ50 55 6).toInt = (σ 55 6).toInt := (congrArg Int32.toInt (show σ50 55 6 = (σ 55 6) from ((f53 6 (of_decide_eq_true rfl)).trans (f33 6 (of_decide_eq_true rfl)))))
               have e156 : σ132 68 = σ50 68 := jback68 (nb := (σ50 55 6).toInt) (by omega) w86 e150 (fun k hk => w138 k (by rw [e151]; exact hk)) D152.2
               exact by
                have f157 : (∀ i : Nat, (i < 55 ∨ 55 < i) ∧ (i < 66 ∨ 66 < i) ∧ (i < 74 ∨ 78 < i) → σ132 i = σ50 i) := fun i hi0 => by
                  by_cases h8 : i = 68
                  · rw [h8]; exact e156
                  by_cases h9 : i = 69
                  · rw [h9]; exact e149
                  have hi : ((i < 55 ∨ 55 < i) ∧ (i < 66 ∨ 66 < i) ∧ (i < 74 ∨ 78 < i)) ∧ i ≠ 68 ∧ i ≠ 69 := ⟨hi0, h8, h9⟩
                  exact ((f134 i (imp_200 i hi)).trans ((f113 i (imp_201 i hi)).trans (f82 i (imp_200 i hi))))
                have f158 : ∀ i : Nat, (i < 18 ∨ 18 < i) ∧ (i < 19 ∨ 19 < i) ∧ (i < 20 ∨ 20 < i) ∧ (i < 21 ∨ 21 < i) ∧ (i < 22 ∨ 22 < i) ∧ (i < 37 ∨ 37 < i) → σ132 55 i = σ50 55 i := fun i hi0 => by
                  by_cases h25 : i = 25
                  · rw [h25]; exact e155
                  by_cases h26 : i = 26
                  · rw [h26]; exact e154
                  by_cases h27 : i = 27
                  · rw [h27]; exact e153
                  have hi : ((i < 18 ∨ 18 < i) ∧ (i < 19 ∨ 19 < i) ∧ (i < 20 ∨ 20 < i) ∧ (i < 21 ∨ 21 < i) ∧ (i < 22 ∨ 22 < i) ∧ (i < 37 ∨ 37 < i)) ∧ i ≠ 25 ∧ i ≠ 26 ∧ i ≠ 27 := ⟨hi0, h25, h26, h27⟩
                  exact ((f135 i (imp_202 i hi)).trans ((f114 i (imp_203 i hi)).trans (f83 i (imp_202 i hi))))
                clear k161 k143 k93
                refine lv_aload_n hx hb dX12_meanFrom_68 rfl (lv_at hl 6 rfl) ?_
                refine lv_iload_n hx hb dX12_meanFrom_69 rfl (lv_at hl 5 rfl) ?_
                refine lv_iconst (v := 0) hx hb dX12_meanFrom_70 (of_decide_eq_true rfl) ?_
                have w167 : ∀ k : Nat, k < 4 → 0 ≤ (σ132 68 k).toInt ∧ (σ132 68 k).toInt ≤ 3 := (jrr_fr (f157 68 (of_decide_eq_true rfl)) w63)
                have z168 : (σ132 55 6).toInt = (σ 55 6).toInt := (congrArg Int32.toInt (show σ132 55 6 = (σ 55 6) from ((f158 6 (of_decide_eq_true rfl)).trans ((f53 6 (of_decide_eq_true rfl)).trans (f33 6 (of_decide_eq_true rfl))))))
                have z169 : (σ132 55 27).toInt = (σ 55 27).toInt := (congrArg Int32.toInt (show σ132 55 27 = (σ 55 27) from ((f158 27 (of_decide_eq_true rfl)).trans ((f53 27 (of_decide_eq_true rfl)).trans (f33 27 (of_decide_eq_true rfl))))))
                have z170 : (σ132 55 25).toInt = (σ 55 25).toInt := (congrArg Int32.toInt (show σ132 55 25 = (σ 55 25) from ((f158 25 (of_decide_eq_true rfl)).trans ((f53 25 (of_decide_eq_true rfl)).trans m42))))
                have z171 : (σ132 55 26).toInt = (σ 55 26).toInt := (congrArg Int32.toInt (show σ132 55 26 = (σ 55 26) from ((f158 26 (of_decide_eq_true rfl)).trans ((f53 26 (of_decide_eq_true rfl)).trans (f33 26 (of_decide_eq_true rfl))))))
                have z172 : (σ132 68 0).toInt = (σ 68 0).toInt := (congrArg Int32.toInt (show σ132 68 0 = (σ 68 0) from ((congrFun (f157 68 (of_decide_eq_true rfl)) 0).trans ((congrFun (f52 68 (of_decide_eq_true rfl)) 0).trans (congrFun (f32 68 (of_decide_eq_true rfl)) 0)))))
                have z173 : (σ132 68 1).toInt = (σ 68 1).toInt := (congrArg Int32.toInt (show σ132 68 1 = (σ 68 1) from ((congrFun (f157 68 (of_decide_eq_true rfl)) 1).trans ((congrFun (f52 68 (of_decide_eq_true rfl)) 1).trans (congrFun (f32 68 (of_decide_eq_true rfl)) 1)))))
                have z174 : (σ132 68 2).toInt = (σ 68 2).toInt := (congrArg Int32.toInt (show σ132 68 2 = (σ 68 2) from ((congrFun (f157 68 (of_decide_eq_true rfl)) 2).trans ((congrFun (f52 68 (of_decide_eq_true rfl)) 2).trans (congrFun (f32 68 (of_decide_eq_true rfl)) 2)))))
                have z175 : (σ132 68 3).toInt = (σ 68 3).toInt := (congrArg Int32.toInt (show σ132 68 3 = (σ 68 3) from ((congrFun (f157 68 (of_decide_eq_true rfl)) 3).trans ((congrFun (f52 68 (of_decide_eq_true rfl)) 3).trans (congrFun (f32 68 (of_decide_eq_true rfl)) 3)))))
                exact by
                 refine jcallV (As := [.int r31, .int 0]) (rest := []) ⟨hx, hb, hml, hown, hts⟩ hK hP hA hS hZ (c_X12_goes_0 l D cI cL ad zz hJ σ132 τ r31 (r31.toInt) rfl w167 (by omega) (by omega) (by omega) (by omega) (by omega)) cw_RX12_296 (jc_55 cI cL ad σ132 τ) rfl ⟨by dsimp only; omega, by dsimp only; omega⟩ rfl rfl rfl hl.1 rfl (Nat.le_of_ble_eq_true rfl) dX12_meanFrom_71 ⟨Nat.zero_le _, Nat.zero_le _⟩ (fun r177 σ176 τ176 H locs h176 hP hS => ?_)
                 obtain ⟨rfl, f178, f179, w180, w181, w182, w183, h176⟩ := h176
                 obtain ⟨k185, k186, k187, h176⟩ := h176
                 have h188 := h176
                 obtain ⟨q194, k189, k190, k191, k192, k193⟩ := h188
                 refine lv_istore (lv' := [(6, .int r177), (7, .int r112), (5, .int x71), (4, .int r51), (3, .int (σ 62 (σ 55 25).toNatClampNeg)), (2, .int r31), (0, .ref (ad 55)), (1, .int a1)]) hx hb dX12_meanFrom_74 hl (of_decide_eq_true rfl) rfl (fun ls hl => ?_)
                 refine lv_aload_n hx hb dX12_meanFrom_76 rfl (lv_at hl 6 rfl) ?_
                 refine lv_iload_n hx hb dX12_meanFrom_77 rfl (lv_at hl 7 rfl) ?_
                 have I195 : jI101 σ176 := jI101_fr ((f179 4 (of_decide_eq_true rfl)).trans (f158 4 (of_decide_eq_true rfl))) ((f179 5 (of_decide_eq_true rfl)).trans (f158 5 (of_decide_eq_true rfl))) ((f178 56 (of_decide_eq_true rfl)).trans (f157 56 (of_decide_eq_true rfl))) ((f178 57 (of_decide_eq_true rfl)).trans (f157 57 (of_decide_eq_true rfl))) ((f178 58 (of_decide_eq_true rfl)).trans (f157 58 (of_decide_eq_true rfl))) ((f178 59 (of_decide_eq_true rfl)).trans (f157 59 (of_decide_eq_true rfl))) I60
                 have I196 : jI102 σ176 := jI102_fr ((f179 6 (of_decide_eq_true rfl)).trans (f158 6 (of_decide_eq_true rfl))) ((f178 60 (of_decide_eq_true rfl)).trans (f157 60 (of_decide_eq_true rfl))) ((f178 61 (of_decide_eq_true rfl)).trans (f157 61 (of_decide_eq_true rfl))) I61
                 have I197 : jI103 σ176 := jI103_fr ((f179 9 (of_decide_eq_true rfl)).trans (f158 9 (of_decide_eq_true rfl))) I62
                 have I198 : jI104 σ176 := jI104_fr ((f179 10 (of_decide_eq_true rfl)).trans ((f158 10 (of_decide_eq_true rfl)).trans ((f53 10 (of_decide_eq_true rfl)).trans (f33 10 (of_decide_eq_true rfl))))) ((f179 12 (of_decide_eq_true rfl)).trans ((f158 12 (of_decide_eq_true rfl)).trans ((f53 12 (of_decide_eq_true rfl)).trans (f33 12 (of_decide_eq_true rfl))))) ((f179 13 (of_decide_eq_true rfl)).trans ((f158 13 (of_decide_eq_true rfl)).trans ((f53 13 (of_decide_eq_true rfl)).trans (f33 13 (of_decide_eq_true rfl))))) ((f178 62 (of_decide_eq_true rfl)).trans ((f157 62 (of_decide_eq_true rfl)).trans ((f52 62 (of_decide_eq_true rfl)).trans (f32 62 (of_decide_eq_true rfl))))) ((f178 67 (of_decide_eq_true rfl)).trans ((f157 67 (of_decide_eq_true rfl)).trans ((f52 67 (of_decide_eq_true rfl)).trans (f32 67 (of_decide_eq_true rfl))))) hI104
                 have I199 : jI105 σ176 := jI105_fr ((f179 15 (of_decide_eq_true rfl)).trans ((f158 15 (of_decide_eq_true rfl)).trans (f53 15 (of_decide_eq_true rfl)))) ((f178 65 (of_decide_eq_true rfl)).trans ((f157 65 (of_decide_eq_true rfl)).trans (f52 65 (of_decide_eq_true rfl)))) I48
                 have I200 : jI106 σ176 := jI106_fr ((f179 32 (of_decide_eq_true rfl)).trans ((f158 32 (of_decide_eq_true rfl)).trans ((f53 32 (of_decide_eq_true rfl)).trans (f33 32 (of_decide_eq_true rfl))))) ((f178 70 (of_decide_eq_true rfl)).trans ((f157 70 (of_decide_eq_true rfl)).trans ((f52 70 (of_decide_eq_true rfl)).trans (f32 70 (of_decide_eq_true rfl))))) ((f178 71 (of_decide_eq_true rfl)).trans ((f157 71 (of_decide_eq_true rfl)).trans ((f52 71 (of_decide_eq_true rfl)).trans (f32 71 (of_decide_eq_true rfl))))) ((f178 72 (of_decide_eq_true rfl)).trans ((f157 72 (of_decide_eq_true rfl)).trans ((f52 72 (of_decide_eq_true rfl)).trans (f32 72 (of_decide_eq_true rfl))))) hI106
                 have z201 : (σ176 55 10).toInt = (σ 55 10).toInt := (congrArg Int32.toInt (show σ176 55 10 = (σ 55 10) from ((f179 10 (of_decide_eq_true rfl)).trans ((f158 10 (of_decide_eq_true rfl)).trans ((f53 10 (of_decide_eq_true rfl)).trans (f33 10 (of_decide_eq_true rfl)))))))
                 have z202 : (σ176 55 12).toInt = (σ 55 12).toInt := (congrArg Int32.toInt (show σ176 55 12 = (σ 55 12) from ((f179 12 (of_decide_eq_true rfl)).trans ((f158 12 (of_decide_eq_true rfl)).trans ((f53 12 (of_decide_eq_true rfl)).trans (f33 12 (of_decide_eq_true rfl)))))))
                 exact by
                  have I203 : jI120 σ176 := ⟨(by omega), (by omega), (by omega), (by omega), (by omega), w180⟩
                  have p204 : jKept σ176 := jKept.fr (f178 75 (of_decide_eq_true rfl)) (f178 76 (of_decide_eq_true rfl)) (f178 77 (of_decide_eq_true rfl)) p144
                  have p205 : jTR σ176 := jTR.fr (f178 64 (of_decide_eq_true rfl)) (f178 65 (of_decide_eq_true rfl)) p145
                  have p206 : jqSt σ176 := jqSt.fr (f178 78 (of_decide_eq_true rfl)) (f179 42 (of_decide_eq_true rfl)) p146
                  refine jcallV (As := [.int a1]) (rest := []) ⟨hx, hb, hml, hown, hts⟩ hK hP hA hS hZ (h_mf σ176 τ a1 (A1) t1 I195 I196 I197 I198 I199 I200 I203 p204 p205 p206 (by omega) (by omega) (by omega)) cw_RX12_324 (jc_55 cI cL ad σ176 τ) rfl ⟨by dsimp only; omega, by dsimp only; omega⟩ rfl rfl rfl hl.1 rfl (Nat.le_of_ble_eq_true rfl) dX12_meanFrom_78 ⟨Nat.zero_le _, Nat.zero_le _⟩ (fun r208 σ207 τ207 H locs h207 hP hS => ?_)
                  obtain ⟨rfl, f209, f210, p211, p212, p213, w214, h207⟩ := h207
                  have z216 : (σ132 55 12).toInt = (σ 55 12).toInt := (congrArg Int32.toInt (show σ132 55 12 = (σ 55 12) from ((f158 12 (of_decide_eq_true rfl)).trans ((f53 12 (of_decide_eq_true rfl)).trans (f33 12 (of_decide_eq_true rfl))))))
                  have R217 : jrP σ132 → jrM σ132 → jmb σ132 r31 = 1 → (r31 : Int32).toInt < (σ132 55 6).toInt → (r208 : Int32).toInt = jrNm σ132 (A1) (r31 : Int32).toInt.toNat 0 ∧ jrM σ207 := fun pr mm mb lb => by
                    have g := jrP.goes (σ := σ132) (σ' := σ176) (b := r31) ⟨⟨(f178 56 (of_decide_eq_true rfl)), (f178 60 (of_decide_eq_true rfl)), (f178 61 (of_decide_eq_true rfl)), (f178 62 (of_decide_eq_true rfl)), (f178 64 (of_decide_eq_true rfl)), (f178 65 (of_decide_eq_true rfl))⟩, (f179 6 (of_decide_eq_true rfl)), (f179 9 (of_decide_eq_true rfl)), (f179 10 (of_decide_eq_true rfl)), (f179 12 (of_decide_eq_true rfl)), (f179 13 (of_decide_eq_true rfl)), (f179 30 (of_decide_eq_true rfl)), (f179 31 (of_decide_eq_true rfl)), (f179 42 (of_decide_eq_true rfl))⟩ pr mb (by omega) lb w181 (fun c hc => by have w := w183 c hc; rw [show r31.toInt = (r31 : Int32).toInt from by omega] at w; exact w) w182 (by omega) (by omega) (by omega) ((σ132 55 25).toInt + 0) (by omega)
                    exact by
                     have x := jrMe.next (σ := σ132) (σ' := σ176) (b := r31) (r := A1) (e := 0) ⟨⟨(f178 56 (of_decide_eq_true rfl)), (f178 60 (of_decide_eq_true rfl)), (f178 61 (of_decide_eq_true rfl)), (f178 62 (of_decide_eq_true rfl)), (f178 64 (of_decide_eq_true rfl)), (f178 65 (of_decide_eq_true rfl))⟩, (f179 6 (of_decide_eq_true rfl)), (f179 9 (of_decide_eq_true rfl)), (f179 10 (of_decide_eq_true rfl)), (f179 12 (of_decide_eq_true rfl)), (f179 13 (of_decide_eq_true rfl)), (f179 30 (of_decide_eq_true rfl)), (f179 31 (of_decide_eq_true rfl)), (f179 42 (of_decide_eq_true rfl))⟩ pr mb (by omega) lb w181 (fun c hc => by have w := w183 c hc; rw [show r31.toInt = (r31 : Int32).toInt from by omega] at w; exact w) (by omega) (by omega) (by omega) (by omega) (by omega) ⟨(f178 70 (of_decide_eq_true rfl)), (f178 71 (of_decide_eq_true rfl)), (f178 72 (of_decide_eq_true rfl)), (f178 73 (of_decide_eq_true rfl))⟩
                     have z := w214 g.1 (jrEq.m (σ := σ132) (σ' := σ176) ⟨⟨(f178 56 (of_decide_eq_true rfl)), (f178 60 (of_decide_eq_true rfl)), (f178 61 (of_decide_eq_true rfl)), (f178 62 (of_decide_eq_true rfl)), (f178 64 (of_decide_eq_true rfl)), (f178 65 (of_decide_eq_true rfl))⟩, (f179 6 (of_decide_eq_true rfl)), (f179 9 (of_decide_eq_true rfl)), (f179 10 (of_decide_eq_true rfl)), (f179 12 (of_decide_eq_true rfl)), (f179 13 (of_decide_eq_true rfl)), (f179 30 (of_decide_eq_true rfl)), (f179 31 (of_decide_eq_true rfl)), (f179 42 (of_decide_eq_true rfl))⟩ (f178 78 (of_decide_eq_true rfl)) (f178 74 (of_decide_eq_true rfl)) (f178 75 (of_decide_eq_true rfl)) (f178 76 (of_decide_eq_true rfl)) (f178 77 (of_decide_eq_true rfl)) mm)
                     exact ⟨z.1.trans x.1, z.2⟩
                  have h218 := h207
                  obtain ⟨q220, k219⟩ := h218
                  refine lv_istore (lv' := [(8, .int r208), (6, .int r177), (7, .int r112), (5, .int x71), (4, .int r51), (3, .int (σ 62 (σ 55 25).toNatClampNeg)), (2, .int r31), (0, .ref (ad 55)), (1, .int a1)]) hx hb dX12_meanFrom_81 hl (of_decide_eq_true rfl) rfl (fun ls hl => ?_)
                  refine lv_aload_n hx hb dX12_meanFrom_83 rfl (lv_at hl 7 rfl) ?_
                  refine lv_iload_n hx hb dX12_meanFrom_84 rfl (lv_at hl 6 rfl) ?_
                  refine lv_iconst (v := 0) hx hb dX12_meanFrom_85 (of_decide_eq_true rfl) ?_
                  refine lv_iload hx hb dX12_meanFrom_86 (lv_at hl 1 rfl) ?_
                  have w221 : ∀ k : Nat, k < 4 → 0 ≤ (σ207 68 k).toInt ∧ (σ207 68 k).toInt ≤ 3 := (jrr_fr (f209 68 (of_decide_eq_true rfl)) w180)
                  have z222 : (σ207 55 25).toInt = (σ176 55 25).toInt := (congrArg Int32.toInt (show σ207 55 25 = (σ176 55 25) from (f210 25 (of_decide_eq_true rfl))))
                  have z223 : (σ207 55 26).toInt = (σ176 55 26).toInt := (congrArg Int32.toInt (show σ207 55 26 = (σ176 55 26) from (f210 26 (of_decide_eq_true rfl))))
                  have z224 : (σ207 55 6).toInt = (σ 55 6).toInt := (congrArg Int32.toInt (show σ207 55 6 = (σ 55 6) from ((f210 6 (of_decide_eq_true rfl)).trans ((f179 6 (of_decide_eq_true rfl)).trans ((f158 6 (of_decide_eq_true rfl)).trans ((f53 6 (of_decide_eq_true rfl)).trans (f33 6 (of_decide_eq_true rfl))))))))
                  have w225 : ∀ k : Nat, k < 4 → 0 ≤ (σ132 68 k).toInt ∧ (σ132 68 k).toInt ≤ 3 := w167
                  have z227 : (σ132 55 27).toInt = (σ 55 27).toInt := (congrArg Int32.toInt (show σ132 55 27 = (σ 55 27) from ((f158 27 (of_decide_eq_true rfl)).trans ((f53 27 (of_decide_eq_true rfl)).trans (f33 27 (of_decide_eq_true rfl))))))
                  exact by
                   have k226 := jwas (by omega) (w225 0 (of_decide_eq_true rfl)) (w225 1 (of_decide_eq_true rfl)) (w225 2 (of_decide_eq_true rfl)) (w225 3 (of_decide_eq_true rfl)) k189
                   rw [← (show σ207 55 6 = σ132 55 6 from ((f210 6 (of_decide_eq_true rfl)).trans (f179 6 (of_decide_eq_true rfl))))] at k226
                   refine jcallVv (As := [.int r31, .int 0, .int r177]) (rest := []) ⟨hx, hb, hml, hown, hts⟩ hK hP hA hS hZ (c_X12_goesBack_0 l D cI cL ad zz hJ σ207 τ r31 (r31.toInt) rfl r177 (r177.toInt) rfl w221 (by omega) (by omega) (by omega) k226) cw_RX12_300 (jc_55 cI cL ad σ207 τ) rfl ⟨by dsimp only; omega, by dsimp only; omega⟩ rfl rfl rfl hl.1 rfl (Nat.le_of_ble_eq_true rfl) dX12_meanFrom_88 ⟨Nat.zero_le _, Nat.zero_le _⟩ (fun σ228 τ228 H locs h228 hP hS => ?_)
                   obtain ⟨rfl, f230, f231, w232, w233, w234, h228⟩ := h228
                   obtain ⟨k236, k237, k238, k239, h228⟩ := h228
                   have p240 : jKept σ228 := jKept.fr (f230 75 (of_decide_eq_true rfl)) (f230 76 (of_decide_eq_true rfl)) (f230 77 (of_decide_eq_true rfl)) p211
                   have p241 : jTR σ228 := jTR.fr (f230 64 (of_decide_eq_true rfl)) (f230 65 (of_decide_eq_true rfl)) p212
                   have p242 : jqSt σ228 := jqSt.fr (f230 78 (of_decide_eq_true rfl)) (f231 42 (of_decide_eq_true rfl)) p213
                   have M243 : jrM σ207 → jrM σ228 := fun q => (jrEq.m (σ := σ207) (σ' := σ228) ⟨⟨(f230 56 (of_decide_eq_true rfl)), (f230 60 (of_decide_eq_true rfl)), (f230 61 (of_decide_eq_true rfl)), (f230 62 (of_decide_eq_true rfl)), (f230 64 (of_decide_eq_true rfl)), (f230 65 (of_decide_eq_true rfl))⟩, (f231 6 (of_decide_eq_true rfl)), (f231 9 (of_decide_eq_true rfl)), (f231 10 (of_decide_eq_true rfl)), (f231 12 (of_decide_eq_true rfl)), (f231 13 (of_decide_eq_true rfl)), (f231 30 (of_decide_eq_true rfl)), (f231 31 (of_decide_eq_true rfl)), (f231 42 (of_decide_eq_true rfl))⟩ (f230 78 (of_decide_eq_true rfl)) (f230 74 (of_decide_eq_true rfl)) (f230 75 (of_decide_eq_true rfl)) (f230 76 (of_decide_eq_true rfl)) (f230 77 (of_decide_eq_true rfl)) q)
                   exact by
                    have e244 : σ207 69 = σ176 69 := (f209 69 (of_decide_eq_true rfl))
                    have e245 : σ228 69 = σ132 69 := jback69 w181 e244 w233
                    have e246 : σ207 68 = σ176 68 := (f209 68 (of_decide_eq_true rfl))
                    have e247 : σ207 55 6 = σ132 55 6 := ((f210 6 (of_decide_eq_true rfl)).trans (f179 6 (of_decide_eq_true rfl)))
                    have w255 : ∀ k : Nat, k < 4 → 0 ≤ (σ132 68 k).toInt ∧ (σ132 68 k).toInt ≤ 3 := w167
                    have w256 : ∀ k : Nat, k < 4 → 0 ≤ (σ228 68 k).toInt ∧ (σ228 68 k).toInt ≤ 3 := w232
                    have k257 := k239
                    rw [e247] at k257
                    have D248 := jdig (w255 0 (of_decide_eq_true rfl)) (w255 1 (of_decide_eq_true rfl)) (w255 2 (of_decide_eq_true rfl)) (w255 3 (of_decide_eq_true rfl)) (w256 0 (of_decide_eq_true rfl)) (w256 1 (of_decide_eq_true rfl)) (w256 2 (of_decide_eq_true rfl)) (w256 3 (of_decide_eq_true rfl)) k189 k257
                    exact by
                     have e249 : σ228 55 27 = σ132 55 27 := Int32.toInt_inj.mp (by have h9 := D248.1; omega)
                     have z258 : (σ207 55 26).toInt = (σ176 55 26).toInt := (congrArg Int32.toInt (show σ207 55 26 = (σ176 55 26) from (f210 26 (of_decide_eq_true rfl))))
                     have z259 : (σ132 55 26).toInt = (σ 55 26).toInt := (congrArg Int32.toInt (show σ132 55 26 = (σ 55 26) from ((f158 26 (of_decide_eq_true rfl)).trans ((f53 26 (of_decide_eq_true rfl)).trans (f33 26 (of_decide_eq_true rfl))))))
                     have z260 : (σ207 55 25).toInt = (σ176 55 25).toInt := (congrArg Int32.toInt (show σ207 55 25 = (σ176 55 25) from (f210 25 (of_decide_eq_true rfl))))
                     have z261 : (σ132 55 25).toInt = (σ 55 25).toInt := (congrArg Int32.toInt (show σ132 55 25 = (σ 55 25) from ((f158 25 (of_decide_eq_true rfl)).trans ((f53 25 (of_decide_eq_true rfl)).trans (f33 25 (of_decide_eq_true rfl))))))
                     have e250 : σ228 55 26 = σ132 55 26 := Int32.toInt_inj.mp (by omega)
                     have e251 : σ228 55 25 = σ132 55 25 := Int32.toInt_inj.mp (by omega)
                     have z262 : (σ132 55 6).toInt = (σ 55 6).toInt := (congrArg Int32.toInt (show σ132 55 6 = (σ 55 6) from ((f158 6 (of_decide_eq_true rfl)).trans ((f53 6 (of_decide_eq_true rfl)).trans (f33 6 (of_decide_eq_true rfl))))))
                     have e252 : σ228 68 = σ132 68 := jback68 (nb := (σ132 55 6).toInt) (by omega) w182 e246 (fun k hk => w234 k (by rw [e247]; exact hk)) D248.2
                     exact by
                      have f253 : (∀ i : Nat, (i < 55 ∨ 55 < i) ∧ (i < 66 ∨ 66 < i) ∧ (i < 74 ∨ 78 < i) → σ228 i = σ132 i) := fun i hi0 => by
                        by_cases h8 : i = 68
                        · rw [h8]; exact e252
                        by_cases h9 : i = 69
                        · rw [h9]; exact e245
                        have hi : ((i < 55 ∨ 55 < i) ∧ (i < 66 ∨ 66 < i) ∧ (i < 74 ∨ 78 < i)) ∧ i ≠ 68 ∧ i ≠ 69 := ⟨hi0, h8, h9⟩
                        exact ((f230 i (imp_200 i hi)).trans ((f209 i (imp_201 i hi)).trans (f178 i (imp_200 i hi))))
                      have f254 : ∀ i : Nat, (i < 18 ∨ 18 < i) ∧ (i < 19 ∨ 19 < i) ∧ (i < 20 ∨ 20 < i) ∧ (i < 21 ∨ 21 < i) ∧ (i < 22 ∨ 22 < i) ∧ (i < 37 ∨ 37 < i) → σ228 55 i = σ132 55 i := fun i hi0 => by
                        by_cases h25 : i = 25
                        · rw [h25]; exact e251
                        by_cases h26 : i = 26
                        · rw [h26]; exact e250
                        by_cases h27 : i = 27
                        · rw [h27]; exact e249
                        have hi : ((i < 18 ∨ 18 < i) ∧ (i < 19 ∨ 19 < i) ∧ (i < 20 ∨ 20 < i) ∧ (i < 21 ∨ 21 < i) ∧ (i < 22 ∨ 22 < i) ∧ (i < 37 ∨ 37 < i)) ∧ i ≠ 25 ∧ i ≠ 26 ∧ i ≠ 27 := ⟨hi0, h25, h26, h27⟩
                        exact ((f231 i (imp_202 i hi)).trans ((f210 i (imp_203 i hi)).trans (f179 i (imp_202 i hi))))
                      clear k257 k239 k189
                      refine lv_iload hx hb dX12_meanFrom_91 (lv_at hl 3 rfl) ?_
                      refine lv_sipush (v := 1000) hx hb dX12_meanFrom_93 (of_decide_eq_true rfl) ?_
                      refine lv_aload_n hx hb dX12_meanFrom_96 rfl (lv_at hl 7 rfl) ?_
                      refine va_get (D := D) hx hb hts inlX12 hown hK hP 55 (jc_55 cI cL ad σ228 τ) rfl 13 (of_decide_eq_true rfl) (hts _ kw_15_14) (fun _ h9 => h9) rfl dX12_meanFrom_97 ?_
                      have m263 : σ228 55 13 = (σ 55 13) := ((f254 13 (of_decide_eq_true rfl)).trans ((f158 13 (of_decide_eq_true rfl)).trans ((f53 13 (of_decide_eq_true rfl)).trans (f33 13 (of_decide_eq_true rfl)))))
                      refine jtopr m263 ?_
                      have g264 := jrg (rfl : (σ 55 13).toInt = (σ 55 13).toInt)
                      refine lv_isub hx hb dX12_meanFrom_100 ?_
                      refine lv_topi (fun x265 ex265 => ?_)
                      exact by
                       have tx265 : x265.toInt = -(σ 55 13).toInt + 1000 := (jsub ex265 jz_1000 rfl (by omega) (by omega)).trans (by omega)
                       refine lv_i2l (v := x265.toInt64) hx hb dX12_meanFrom_101 rfl ?_
                       refine lv_iload hx hb dX12_meanFrom_102 (lv_at hl 2 rfl) ?_
                       refine lv_iload hx hb dX12_meanFrom_104 (lv_at hl 0 rfl) ?_
                       refine lv_iload hx hb dX12_meanFrom_106 (lv_at hl 4 rfl) ?_
                       refine jcallS (As := [.int r112, .int r208, .int r51]) (rest := [.long x265.toInt64, .int x71]) ⟨hx, hb, hml, hown, hts⟩ hK hP hA hS hZ (c_X12_mixed_b l D cI cL ad zz hJ σ228 τ r112 (r112.toInt) rfl r208 (r208.toInt) rfl r51 (r51.toInt) rfl (by omega) (by omega) (by omega)) cw_RX12_304 ⟨by dsimp only; omega, by dsimp only; omega⟩ rfl rfl rfl hl.1 rfl (Nat.le_of_ble_eq_true rfl) dX12_meanFrom_108 ⟨Nat.zero_le _, Nat.zero_le _⟩ (fun r267 σ266 τ266 H locs h266 hP hS => ?_)
                       obtain ⟨⟨rfl, rfl⟩, w268, h266⟩ := h266
                       have h269 := h266
                       obtain ⟨q272, k270, k271⟩ := h269
                       exact by
                        refine lv_i2l (v := r267.toInt64) hx hb dX12_meanFrom_111 rfl ?_
                        refine lv_lmul hx hb dX12_meanFrom_112 ?_
                        refine lv_topl (fun lx273 elx273 => ?_)
                        have g274 := jprod (a := 1000) (b := 11253000) (jtoL tx265) (jtoL rfl) (by omega) (by omega) (by omega) (by omega)
                        have tlx273 : lx273.toInt = ((-(σ 55 13).toInt + 1000) * r267.toInt) := jlmul elx273 (jtoL tx265) (jtoL rfl) (by omega) (by omega)
                        refine lv_ldc2 (v := 1000) hx hb hown (hts _ kw_34_19) dX12_meanFrom_113 ?_
                        refine lv_ldiv hx hb dX12_meanFrom_116 (of_decide_eq_true rfl) ?_
                        refine lv_topl (fun lx275 elx275 => ?_)
                        have tlx275 : lx275.toInt = ((((-(σ 55 13).toInt + 1000) * r267.toInt)) / 1000) := jldiv elx275 tlx273 jzl_1000 (by omega) (by omega)
                        exact by
                         refine lv_l2i hx hb dX12_meanFrom_117 rfl ?_
                         refine lv_topi (fun x276 ex276 => ?_)
                         have tx276 : x276.toInt = ((((-(σ 55 13).toInt + 1000) * r267.toInt)) / 1000) := jtoI ex276 tlx275 (by omega) (by omega)
                         refine lv_iadd hx hb dX12_meanFrom_118 ?_
                         refine lv_topi (fun x277 ex277 => ?_)
                         have tx277 : x277.toInt = 1000 * r65.toInt + ((((-(σ 55 13).toInt + 1000) * r267.toInt)) / 1000) := (jadd ex277 tx71 tx276 (by omega) (by omega)).trans (by omega)
                         have z278 : (σ30 55 25).toInt = (σ 55 25).toInt := (congrArg Int32.toInt (show σ30 55 25 = (σ 55 25) from m42))
                         have z279 : (σ30 55 26).toInt = (σ 55 26).toInt := (congrArg Int32.toInt (show σ30 55 26 = (σ 55 26) from (f33 26 (of_decide_eq_true rfl))))
                         have z280 : (σ30 55 27).toInt = (σ 55 27).toInt := (congrArg Int32.toInt (show σ30 55 27 = (σ 55 27) from (f33 27 (of_decide_eq_true rfl))))
                         exact by
                          have z281 : (σ30 55 6).toInt = (σ 55 6).toInt := (congrArg Int32.toInt (show σ30 55 6 = (σ 55 6) from (f33 6 (of_decide_eq_true rfl))))
                          exact by exact hret x277 σ228 τ _ _ _ _ rfl ⟨rfl, (fun i hi => ((f253 i hi).trans ((f157 i hi).trans ((f52 i (imp_204 i hi)).trans (f32 i hi))))), (fun i hi => ((f254 i hi).trans ((f158 i hi).trans ((f53 i (imp_205 i hi)).trans (f33 i hi))))), p240, p241, p242, (fun pr mm => by have po := w37 pr mm; have pk := pr.pick (v := r31) (by omega) (B := B25) (by omega) (by omega) w28 (by omega) (by omega) po.1; have mb := pk.2.2; have p1 : jrP σ50 := ((jrEq.v (σ := σ) (σ' := σ50) ⟨⟨((f52 56 (of_decide_eq_true rfl)).trans (f32 56 (of_decide_eq_true rfl))), ((f52 60 (of_decide_eq_true rfl)).trans (f32 60 (of_decide_eq_true rfl))), ((f52 61 (of_decide_eq_true rfl)).trans (f32 61 (of_decide_eq_true rfl))), ((f52 62 (of_decide_eq_true rfl)).trans (f32 62 (of_decide_eq_true rfl))), ((f52 64 (of_decide_eq_true rfl)).trans (f32 64 (of_decide_eq_true rfl))), ((f52 65 (of_decide_eq_true rfl)).trans (f32 65 (of_decide_eq_true rfl)))⟩, ((f53 6 (of_decide_eq_true rfl)).trans (f33 6 (of_decide_eq_true rfl))), ((f53 9 (of_decide_eq_true rfl)).trans (f33 9 (of_decide_eq_true rfl))), ((f53 10 (of_decide_eq_true rfl)).trans (f33 10 (of_decide_eq_true rfl))), ((f53 12 (of_decide_eq_true rfl)).trans (f33 12 (of_decide_eq_true rfl))), ((f53 13 (of_decide_eq_true rfl)).trans (f33 13 (of_decide_eq_true rfl))), ((f53 30 (of_decide_eq_true rfl)).trans (f33 30 (of_decide_eq_true rfl))), ((f53 31 (of_decide_eq_true rfl)).trans (f33 31 (of_decide_eq_true rfl))), ((f53 42 (of_decide_eq_true rfl)).trans (f33 42 (of_decide_eq_true rfl)))⟩ ((f52 68 (of_decide_eq_true rfl)).trans (f32 68 (of_decide_eq_true rfl))) ((f52 69 (of_decide_eq_true rfl)).trans (f32 69 (of_decide_eq_true rfl))) ((f53 25 (of_decide_eq_true rfl)).trans (f33 25 (of_decide_eq_true rfl))) ((f53 26 (of_decide_eq_true rfl)).trans (f33 26 (of_decide_eq_true rfl))) ((f53 27 (of_decide_eq_true rfl)).trans (f33 27 (of_decide_eq_true rfl)))).2 pr); have r1 := R121 p1 (jrEq.m (σ := σ30) (σ' := σ50) ⟨⟨(f52 56 (of_decide_eq_true rfl)), (f52 60 (of_decide_eq_true rfl)), (f52 61 (of_decide_eq_true rfl)), (f52 62 (of_decide_eq_true rfl)), (f52 64 (of_decide_eq_true rfl)), (f52 65 (of_decide_eq_true rfl))⟩, (f53 6 (of_decide_eq_true rfl)), (f53 9 (of_decide_eq_true rfl)), (f53 10 (of_decide_eq_true rfl)), (f53 12 (of_decide_eq_true rfl)), (f53 13 (of_decide_eq_true rfl)), (f53 30 (of_decide_eq_true rfl)), (f53 31 (of_decide_eq_true rfl)), (f53 42 (of_decide_eq_true rfl))⟩ (f52 78 (of_decide_eq_true rfl)) (f52 74 (of_decide_eq_true rfl)) (f52 75 (of_decide_eq_true rfl)) (f52 76 (of_decide_eq_true rfl)) (f52 77 (of_decide_eq_true rfl)) po.2) ((jmb_fr ((f53 27 (of_decide_eq_true rfl)).trans (f33 27 (of_decide_eq_true rfl))) ((f53 30 (of_decide_eq_true rfl)).trans (f33 30 (of_decide_eq_true rfl))) ((f53 31 (of_decide_eq_true rfl)).trans (f33 31 (of_decide_eq_true rfl))) ((f52 56 (of_decide_eq_true rfl)).trans (f32 56 (of_decide_eq_true rfl))) ((f52 69 (of_decide_eq_true rfl)).trans (f32 69 (of_decide_eq_true rfl))) r31).trans mb) (by omega); have m1 := M147 r1.2; have p2 : jrP σ132 := ((jrEq.v (σ := σ) (σ' := σ132) ⟨⟨((f157 56 (of_decide_eq_true rfl)).trans ((f52 56 (of_decide_eq_true rfl)).trans (f32 56 (of_decide_eq_true rfl)))), ((f157 60 (of_decide_eq_true rfl)).trans ((f52 60 (of_decide_eq_true rfl)).trans (f32 60 (of_decide_eq_true rfl)))), ((f157 61 (of_decide_eq_true rfl)).trans ((f52 61 (of_decide_eq_true rfl)).trans (f32 61 (of_decide_eq_true rfl)))), ((f157 62 (of_decide_eq_true rfl)).trans ((f52 62 (of_decide_eq_true rfl)).trans (f32 62 (of_decide_eq_true rfl)))), ((f157 64 (of_decide_eq_true rfl)).trans ((f52 64 (of_decide_eq_true rfl)).trans (f32 64 (of_decide_eq_true rfl)))), ((f157 65 (of_decide_eq_true rfl)).trans ((f52 65 (of_decide_eq_true rfl)).trans (f32 65 (of_decide_eq_true rfl))))⟩, ((f158 6 (of_decide_eq_true rfl)).trans ((f53 6 (of_decide_eq_true rfl)).trans (f33 6 (of_decide_eq_true rfl)))), ((f158 9 (of_decide_eq_true rfl)).trans ((f53 9 (of_decide_eq_true rfl)).trans (f33 9 (of_decide_eq_true rfl)))), ((f158 10 (of_decide_eq_true rfl)).trans ((f53 10 (of_decide_eq_true rfl)).trans (f33 10 (of_decide_eq_true rfl)))), ((f158 12 (of_decide_eq_true rfl)).trans ((f53 12 (of_decide_eq_true rfl)).trans (f33 12 (of_decide_eq_true rfl)))), ((f158 13 (of_decide_eq_true rfl)).trans ((f53 13 (of_decide_eq_true rfl)).trans (f33 13 (of_decide_eq_true rfl)))), ((f158 30 (of_decide_eq_true rfl)).trans ((f53 30 (of_decide_eq_true rfl)).trans (f33 30 (of_decide_eq_true rfl)))), ((f158 31 (of_decide_eq_true rfl)).trans ((f53 31 (of_decide_eq_true rfl)).trans (f33 31 (of_decide_eq_true rfl)))), ((f158 42 (of_decide_eq_true rfl)).trans ((f53 42 (of_decide_eq_true rfl)).trans (f33 42 (of_decide_eq_true rfl))))⟩ ((f157 68 (of_decide_eq_true rfl)).trans ((f52 68 (of_decide_eq_true rfl)).trans (f32 68 (of_decide_eq_true rfl)))) ((f157 69 (of_decide_eq_true rfl)).trans ((f52 69 (of_decide_eq_true rfl)).trans (f32 69 (of_decide_eq_true rfl)))) ((f158 25 (of_decide_eq_true rfl)).trans ((f53 25 (of_decide_eq_true rfl)).trans (f33 25 (of_decide_eq_true rfl)))) ((f158 26 (of_decide_eq_true rfl)).trans ((f53 26 (of_decide_eq_true rfl)).trans (f33 26 (of_decide_eq_true rfl)))) ((f158 27 (of_decide_eq_true rfl)).trans ((f53 27 (of_decide_eq_true rfl)).trans (f33 27 (of_decide_eq_true rfl))))).2 pr); have r2 := R217 p2 m1 ((jmb_fr ((f158 27 (of_decide_eq_true rfl)).trans ((f53 27 (of_decide_eq_true rfl)).trans (f33 27 (of_decide_eq_true rfl)))) ((f158 30 (of_decide_eq_true rfl)).trans ((f53 30 (of_decide_eq_true rfl)).trans (f33 30 (of_decide_eq_true rfl)))) ((f158 31 (of_decide_eq_true rfl)).trans ((f53 31 (of_decide_eq_true rfl)).trans (f33 31 (of_decide_eq_true rfl)))) ((f157 56 (of_decide_eq_true rfl)).trans ((f52 56 (of_decide_eq_true rfl)).trans (f32 56 (of_decide_eq_true rfl)))) ((f157 69 (of_decide_eq_true rfl)).trans ((f52 69 (of_decide_eq_true rfl)).trans (f32 69 (of_decide_eq_true rfl)))) r31).trans mb) (by omega); have m2 := M243 r2.2; rw [(jrEq.nm (σ := σ) (σ' := σ50) ⟨⟨((f52 56 (of_decide_eq_true rfl)).trans (f32 56 (of_decide_eq_true rfl))), ((f52 60 (of_decide_eq_true rfl)).trans (f32 60 (of_decide_eq_true rfl))), ((f52 61 (of_decide_eq_true rfl)).trans (f32 61 (of_decide_eq_true rfl))), ((f52 62 (of_decide_eq_true rfl)).trans (f32 62 (of_decide_eq_true rfl))), ((f52 64 (of_decide_eq_true rfl)).trans (f32 64 (of_decide_eq_true rfl))), ((f52 65 (of_decide_eq_true rfl)).trans (f32 65 (of_decide_eq_true rfl)))⟩, ((f53 6 (of_decide_eq_true rfl)).trans (f33 6 (of_decide_eq_true rfl))), ((f53 9 (of_decide_eq_true rfl)).trans (f33 9 (of_decide_eq_true rfl))), ((f53 10 (of_decide_eq_true rfl)).trans (f33 10 (of_decide_eq_true rfl))), ((f53 12 (of_decide_eq_true rfl)).trans (f33 12 (of_decide_eq_true rfl))), ((f53 13 (of_decide_eq_true rfl)).trans (f33 13 (of_decide_eq_true rfl))), ((f53 30 (of_decide_eq_true rfl)).trans (f33 30 (of_decide_eq_true rfl))), ((f53 31 (of_decide_eq_true rfl)).trans (f33 31 (of_decide_eq_true rfl))), ((f53 42 (of_decide_eq_true rfl)).trans (f33 42 (of_decide_eq_true rfl)))⟩ ((f52 68 (of_decide_eq_true rfl)).trans (f32 68 (of_decide_eq_true rfl))) ((f52 69 (of_decide_eq_true rfl)).trans (f32 69 (of_decide_eq_true rfl))) ((f53 25 (of_decide_eq_true rfl)).trans (f33 25 (of_decide_eq_true rfl))) ((f53 26 (of_decide_eq_true rfl)).trans (f33 26 (of_decide_eq_true rfl))) ⟨((f52 70 (of_decide_eq_true rfl)).trans (f32 70 (of_decide_eq_true rfl))), ((f52 71 (of_decide_eq_true rfl)).trans (f32 71 (of_decide_eq_true rfl))), ((f52 72 (of_decide_eq_true rfl)).trans (f32 72 (of_decide_eq_true rfl))), ((f52 73 (of_decide_eq_true rfl)).trans (f32 73 (of_decide_eq_true rfl)))⟩).1] at r1; rw [(jrEq.nm (σ := σ) (σ' := σ132) ⟨⟨((f157 56 (of_decide_eq_true rfl)).trans ((f52 56 (of_decide_eq_true rfl)).trans (f32 56 (of_decide_eq_true rfl)))), ((f157 60 (of_decide_eq_true rfl)).trans ((f52 60 (of_decide_eq_true rfl)).trans (f32 60 (of_decide_eq_true rfl)))), ((f157 61 (of_decide_eq_true rfl)).trans ((f52 61 (of_decide_eq_true rfl)).trans (f32 61 (of_decide_eq_true rfl)))), ((f157 62 (of_decide_eq_true rfl)).trans ((f52 62 (of_decide_eq_true rfl)).trans (f32 62 (of_decide_eq_true rfl)))), ((f157 64 (of_decide_eq_true rfl)).trans ((f52 64 (of_decide_eq_true rfl)).trans (f32 64 (of_decide_eq_true rfl)))), ((f157 65 (of_decide_eq_true rfl)).trans ((f52 65 (of_decide_eq_true rfl)).trans (f32 65 (of_decide_eq_true rfl))))⟩, ((f158 6 (of_decide_eq_true rfl)).trans ((f53 6 (of_decide_eq_true rfl)).trans (f33 6 (of_decide_eq_true rfl)))), ((f158 9 (of_decide_eq_true rfl)).trans ((f53 9 (of_decide_eq_true rfl)).trans (f33 9 (of_decide_eq_true rfl)))), ((f158 10 (of_decide_eq_true rfl)).trans ((f53 10 (of_decide_eq_true rfl)).trans (f33 10 (of_decide_eq_true rfl)))), ((f158 12 (of_decide_eq_true rfl)).trans ((f53 12 (of_decide_eq_true rfl)).trans (f33 12 (of_decide_eq_true rfl)))), ((f158 13 (of_decide_eq_true rfl)).trans ((f53 13 (of_decide_eq_true rfl)).trans (f33 13 (of_decide_eq_true rfl)))), ((f158 30 (of_decide_eq_true rfl)).trans ((f53 30 (of_decide_eq_true rfl)).trans (f33 30 (of_decide_eq_true rfl)))), ((f158 31 (of_decide_eq_true rfl)).trans ((f53 31 (of_decide_eq_true rfl)).trans (f33 31 (of_decide_eq_true rfl)))), ((f158 42 (of_decide_eq_true rfl)).trans ((f53 42 (of_decide_eq_true rfl)).trans (f33 42 (of_decide_eq_true rfl))))⟩ ((f157 68 (of_decide_eq_true rfl)).trans ((f52 68 (of_decide_eq_true rfl)).trans (f32 68 (of_decide_eq_true rfl)))) ((f157 69 (of_decide_eq_true rfl)).trans ((f52 69 (of_decide_eq_true rfl)).trans (f32 69 (of_decide_eq_true rfl)))) ((f158 25 (of_decide_eq_true rfl)).trans ((f53 25 (of_decide_eq_true rfl)).trans (f33 25 (of_decide_eq_true rfl)))) ((f158 26 (of_decide_eq_true rfl)).trans ((f53 26 (of_decide_eq_true rfl)).trans (f33 26 (of_decide_eq_true rfl)))) ⟨((f157 70 (of_decide_eq_true rfl)).trans ((f52 70 (of_decide_eq_true rfl)).trans (f32 70 (of_decide_eq_true rfl)))), ((f157 71 (of_decide_eq_true rfl)).trans ((f52 71 (of_decide_eq_true rfl)).trans (f32 71 (of_decide_eq_true rfl)))), ((f157 72 (of_decide_eq_true rfl)).trans ((f52 72 (of_decide_eq_true rfl)).trans (f32 72 (of_decide_eq_true rfl)))), ((f157 73 (of_decide_eq_true rfl)).trans ((f52 73 (of_decide_eq_true rfl)).trans (f32 73 (of_decide_eq_true rfl))))⟩).1] at r2; have c := jrCh_of (c := (r31 : Int32).toInt.toNat) (X := (σ 62 (σ 55 25).toInt.toNat).toInt) w55 ((jrEq.v (σ := σ) (σ' := σ30) ⟨⟨(f32 56 (of_decide_eq_true rfl)), (f32 60 (of_decide_eq_true rfl)), (f32 61 (of_decide_eq_true rfl)), (f32 62 (of_decide_eq_true rfl)), (f32 64 (of_decide_eq_true rfl)), (f32 65 (of_decide_eq_true rfl))⟩, (f33 6 (of_decide_eq_true rfl)), (f33 9 (of_decide_eq_true rfl)), (f33 10 (of_decide_eq_true rfl)), (f33 12 (of_decide_eq_true rfl)), (f33 13 (of_decide_eq_true rfl)), (f33 30 (of_decide_eq_true rfl)), (f33 31 (of_decide_eq_true rfl)), (f33 42 (of_decide_eq_true rfl))⟩ (f32 68 (of_decide_eq_true rfl)) (f32 69 (of_decide_eq_true rfl)) (f33 25 (of_decide_eq_true rfl)) (f33 26 (of_decide_eq_true rfl)) (f33 27 (of_decide_eq_true rfl))).2 pr) (by omega) (by omega) (by omega) rfl (w7 _ (by omega)) (by omega) (by omega) ((jmb_fr (f33 27 (of_decide_eq_true rfl)) (f33 30 (of_decide_eq_true rfl)) (f33 31 (of_decide_eq_true rfl)) (f32 56 (of_decide_eq_true rfl)) (f32 69 (of_decide_eq_true rfl)) r31).trans mb); have n := jrRn_of (c := (r31 : Int32).toInt.toNat) (X := (σ 62 (σ 55 25).toInt.toNat).toInt) w66 ((jrEq.v (σ := σ) (σ' := σ50) ⟨⟨((f52 56 (of_decide_eq_true rfl)).trans (f32 56 (of_decide_eq_true rfl))), ((f52 60 (of_decide_eq_true rfl)).trans (f32 60 (of_decide_eq_true rfl))), ((f52 61 (of_decide_eq_true rfl)).trans (f32 61 (of_decide_eq_true rfl))), ((f52 62 (of_decide_eq_true rfl)).trans (f32 62 (of_decide_eq_true rfl))), ((f52 64 (of_decide_eq_true rfl)).trans (f32 64 (of_decide_eq_true rfl))), ((f52 65 (of_decide_eq_true rfl)).trans (f32 65 (of_decide_eq_true rfl)))⟩, ((f53 6 (of_decide_eq_true rfl)).trans (f33 6 (of_decide_eq_true rfl))), ((f53 9 (of_decide_eq_true rfl)).trans (f33 9 (of_decide_eq_true rfl))), ((f53 10 (of_decide_eq_true rfl)).trans (f33 10 (of_decide_eq_true rfl))), ((f53 12 (of_decide_eq_true rfl)).trans (f33 12 (of_decide_eq_true rfl))), ((f53 13 (of_decide_eq_true rfl)).trans (f33 13 (of_decide_eq_true rfl))), ((f53 30 (of_decide_eq_true rfl)).trans (f33 30 (of_decide_eq_true rfl))), ((f53 31 (of_decide_eq_true rfl)).trans (f33 31 (of_decide_eq_true rfl))), ((f53 42 (of_decide_eq_true rfl)).trans (f33 42 (of_decide_eq_true rfl)))⟩ ((f52 68 (of_decide_eq_true rfl)).trans (f32 68 (of_decide_eq_true rfl))) ((f52 69 (of_decide_eq_true rfl)).trans (f32 69 (of_decide_eq_true rfl))) ((f53 25 (of_decide_eq_true rfl)).trans (f33 25 (of_decide_eq_true rfl))) ((f53 26 (of_decide_eq_true rfl)).trans (f33 26 (of_decide_eq_true rfl))) ((f53 27 (of_decide_eq_true rfl)).trans (f33 27 (of_decide_eq_true rfl)))).2 pr) (by omega) (by omega); have q := (jrEq.ch (σ := σ) (σ' := σ30) ⟨⟨(f32 56 (of_decide_eq_true rfl)), (f32 60 (of_decide_eq_true rfl)), (f32 61 (of_decide_eq_true rfl)), (f32 62 (of_decide_eq_true rfl)), (f32 64 (of_decide_eq_true rfl)), (f32 65 (of_decide_eq_true rfl))⟩, (f33 6 (of_decide_eq_true rfl)), (f33 9 (of_decide_eq_true rfl)), (f33 10 (of_decide_eq_true rfl)), (f33 12 (of_decide_eq_true rfl)), (f33 13 (of_decide_eq_true rfl)), (f33 30 (of_decide_eq_true rfl)), (f33 31 (of_decide_eq_true rfl)), (f33 42 (of_decide_eq_true rfl))⟩ (f32 68 (of_decide_eq_true rfl)) (f32 69 (of_decide_eq_true rfl)) (f33 25 (of_decide_eq_true rfl)) (f33 26 (of_decide_eq_true rfl))); rw [q.1, q.2.2.1, q.2.2.2, show σ30 55 25 = σ 55 25 from (f33 25 (of_decide_eq_true rfl)), show σ30 55 26 = σ 55 26 from (f33 26 (of_decide_eq_true rfl))] at c; have q := (jrEq.ch (σ := σ) (σ' := σ50) ⟨⟨((f52 56 (of_decide_eq_true rfl)).trans (f32 56 (of_decide_eq_true rfl))), ((f52 60 (of_decide_eq_true rfl)).trans (f32 60 (of_decide_eq_true rfl))), ((f52 61 (of_decide_eq_true rfl)).trans (f32 61 (of_decide_eq_true rfl))), ((f52 62 (of_decide_eq_true rfl)).trans (f32 62 (of_decide_eq_true rfl))), ((f52 64 (of_decide_eq_true rfl)).trans (f32 64 (of_decide_eq_true rfl))), ((f52 65 (of_decide_eq_true rfl)).trans (f32 65 (of_decide_eq_true rfl)))⟩, ((f53 6 (of_decide_eq_true rfl)).trans (f33 6 (of_decide_eq_true rfl))), ((f53 9 (of_decide_eq_true rfl)).trans (f33 9 (of_decide_eq_true rfl))), ((f53 10 (of_decide_eq_true rfl)).trans (f33 10 (of_decide_eq_true rfl))), ((f53 12 (of_decide_eq_true rfl)).trans (f33 12 (of_decide_eq_true rfl))), ((f53 13 (of_decide_eq_true rfl)).trans (f33 13 (of_decide_eq_true rfl))), ((f53 30 (of_decide_eq_true rfl)).trans (f33 30 (of_decide_eq_true rfl))), ((f53 31 (of_decide_eq_true rfl)).trans (f33 31 (of_decide_eq_true rfl))), ((f53 42 (of_decide_eq_true rfl)).trans (f33 42 (of_decide_eq_true rfl)))⟩ ((f52 68 (of_decide_eq_true rfl)).trans (f32 68 (of_decide_eq_true rfl))) ((f52 69 (of_decide_eq_true rfl)).trans (f32 69 (of_decide_eq_true rfl))) ((f53 25 (of_decide_eq_true rfl)).trans (f33 25 (of_decide_eq_true rfl))) ((f53 26 (of_decide_eq_true rfl)).trans (f33 26 (of_decide_eq_true rfl)))); rw [q.2.1, q.2.2.1] at n; have z := jMo_of2 (R := (σ 55 13).toInt) (r := (r65 : Int32).toInt) (C := (r51 : Int32).toInt) (p := (r112 : Int32).toInt) (q := (r208 : Int32).toInt) (z := (x277 : Int32).toInt) w268 (by have h9 := tx277; omega); refine ⟨?_, m2⟩; rw [jrMe.on (by omega) (by omega) pk.1 po.1, ← c, ← n, ← r1.1, ← r2.1]; exact z), ⟨trivial, (by have h9 := tx277; omega)⟩⟩ hP hS dX12_meanFrom_119
set_option maxHeartbeats 4000000 in
set_option maxRecDepth 100000 in
theorem c_X12_means_mf_z (l : Launch) (D : va_G) (cI cL : ClassId) (ad zz : Nat → Nat) (hJ : jD ad) (σ : Nat → Nat → Int32) (τ : Nat → Nat → Int64) (a1 : Int32) (A1 : Int) (t1 : a1.toInt = A1) (hI101 : jI101 σ) (hI102 : jI102 σ) (hI103 : jI103 σ) (hI104 : jI104 σ) (hI105 : jI105 σ) (hI106 : jI106 σ) (hI120 : jI120 σ) (hs_jKept : jKept σ) (hs_jTR : jTR σ) (hs_jqSt : jqSt σ) (hp0 : 0 ≤ A1 ∧ A1 ≤ 19) (hp1 : (σ 55 12).toInt - (σ 55 26).toInt ≤ 8) (hp2 : (σ 55 12).toInt - (σ 55 26).toInt ≤ (((0) : Nat) : Int)) : jM l yX12_meanFrom cX12_meanFrom 9 (some .int) ({ frames := (106 + 4 * (0)), cells := 0, slots := 0, locals := (5261 + 240 * (0)) }) D cI cL ad zz [.ref (ad 55), .int a1] σ τ (fun r σ' τ' => τ = τ' ∧ (∀ i : Nat, (i < 55 ∨ 55 < i) ∧ (i < 66 ∨ 66 < i) ∧ (i < 74 ∨ 78 < i) → σ' i = σ i) ∧ (∀ k : Nat, (k < 18 ∨ 18 < k) ∧ (k < 19 ∨ 19 < k) ∧ (k < 20 ∨ 20 < k) ∧ (k < 21 ∨ 21 < k) ∧ (k < 22 ∨ 22 < k) ∧ (k < 37 ∨ 37 < k) → σ' 55 k = σ 55 k) ∧ (jKept σ') ∧ (jTR σ') ∧ (jqSt σ') ∧ ((jrP σ → jrM σ → (r : Int32).toInt = jrMe σ (A1) ∧ jrM σ')) ∧ ((True ∧ (0 ≤ r.toInt ∧ r.toInt ≤ -(1023000 * (σ 55 26).toInt) + 12276000)))) := by
  refine jM.of hJ (by decide +kernel) (nt := .int) rfl (Nat.le_of_ble_eq_true rfl) ?_
  intro p e s m args below meth c Q ls hC hret hl hP
  obtain ⟨hx, hb, hr, hml, hown, hts, hK, -, hlocks, hZ⟩ := hC
  have hown : s.vm.findClass RX12 = some m.cls := hown
  have hS : va_S (jA ad) s.heap s.heap [] := va_S.rf
  have hA : ∀ q, jA ad q → jA ad q := fun _ h => h
  have hl : lv_has ls 9 [(0, .ref (ad 55)), (1, .int a1)] := hl
  have g1 := jrg t1
  obtain ⟨i1, w2, w3⟩ : (0 ≤ (σ 55 6).toInt ∧ (σ 55 6).toInt ≤ 4) ∧ (∀ k : Nat, k < 4 → 0 ≤ (σ 60 k).toInt ∧ (σ 60 k).toInt ≤ 50) ∧ (∀ k : Nat, k < 4 → 0 ≤ (σ 61 k).toInt ∧ (σ 61 k).toInt ≤ 20) := id hI102
  obtain ⟨i4, i5, i6, w7, w8⟩ : (1 ≤ (σ 55 10).toInt ∧ (σ 55 10).toInt ≤ 8) ∧ (1 ≤ (σ 55 12).toInt ∧ (σ 55 12).toInt ≤ 12) ∧ (0 ≤ (σ 55 13).toInt ∧ (σ 55 13).toInt ≤ 999) ∧ (∀ k : Nat, k < 8 → 0 ≤ (σ 62 k).toInt ∧ (σ 62 k).toInt ≤ 3) ∧ (∀ k : Nat, k < 8 → 0 ≤ (σ 67 k).toInt ∧ (σ 67 k).toInt ≤ 3) := id hI104
  obtain ⟨i9, i10, i11, i12, i13, w14⟩ : (0 ≤ (σ 55 25).toInt) ∧ ((σ 55 25).toInt ≤ (σ 55 10).toInt) ∧ (0 ≤ (σ 55 26).toInt) ∧ ((σ 55 26).toInt ≤ (σ 55 12).toInt) ∧ ((-1) ≤ (σ 55 27).toInt ∧ (σ 55 27).toInt ≤ 3) ∧ (∀ k : Nat, k < 4 → 0 ≤ (σ 68 k).toInt ∧ (σ 68 k).toInt ≤ 3) := id hI120
  refine lv_aload_n hx hb dX12_meanFrom_0 rfl (lv_at hl 0 rfl) ?_
  refine jcallV (As := []) (rest := []) ⟨hx, hb, hml, hown, hts⟩ hK hP hA hS hZ (c_X12_isEnded l D cI cL ad zz hJ σ τ hI102 hI104 hI120) cw_RX12_307 (jc_55 cI cL ad σ τ) rfl ⟨by dsimp only; omega, by dsimp only; omega⟩ rfl rfl rfl hl.1 rfl (Nat.le_of_ble_eq_true rfl) dX12_meanFrom_1 ⟨Nat.zero_le _, Nat.zero_le _⟩ (fun r16 σ15 τ15 H locs h15 hP hS => ?_)
  obtain ⟨⟨rfl, rfl⟩, h15⟩ := h15
  rcases h15 with h17 | h18
  · obtain ⟨q20, k19⟩ := h17
    have q20 := q20.symm
    subst q20
    refine lv_if_eq (tgt := 9) hx hb dX12_meanFrom_4 (of_decide_eq_true rfl) (fun c => absurd c (of_decide_eq_true rfl)) (fun _ => ?_)
    refine lv_iconst (v := 0) hx hb dX12_meanFrom_7 (of_decide_eq_true rfl) ?_
    exact by exact hret 0 σ τ _ _ _ _ rfl ⟨rfl, (fun _ _ => rfl), (fun _ _ => rfl), hs_jKept, hs_jTR, hs_jqSt, (fun pr mm => ⟨by rw [(jrMe.fin (r := A1) pr (by omega) k19).1]; decide, mm⟩), ⟨trivial, (by have h9 := jz_0; omega)⟩⟩ hP hS dX12_meanFrom_8
  · obtain ⟨q24, k21, k22, k23⟩ := h18
    exact absurd (by omega : False) id
set_option maxHeartbeats 4000000 in
set_option maxRecDepth 100000 in
theorem c_X12_means (l : Launch) (D : va_G) (cI cL : ClassId) (ad zz : Nat → Nat) (hJ : jD ad) (n : Nat) : (∀ (σ : Nat → Nat → Int32) (τ : Nat → Nat → Int64) (a1 : Int32) (A1 : Int) (t1 : a1.toInt = A1) (hI101 : jI101 σ) (hI102 : jI102 σ) (hI103 : jI103 σ) (hI104 : jI104 σ) (hI105 : jI105 σ) (hI106 : jI106 σ) (hI120 : jI120 σ) (hs_jKept : jKept σ) (hs_jTR : jTR σ) (hs_jqSt : jqSt σ) (hp0 : 0 ≤ A1 ∧ A1 ≤ 19) (hp1 : (σ 55 12).toInt - (σ 55 26).toInt ≤ 8) (hp2 : (σ 55 12).toInt - (σ 55 26).toInt ≤ (((n) : Nat) : Int)), jM l yX12_meanFrom cX12_meanFrom 9 (some .int) ({ frames := (106 + 4 * (n)), cells := 0, slots := 0, locals := (5261 + 240 * (n)) }) D cI cL ad zz [.ref (ad 55), .int a1] σ τ (fun r σ' τ' => τ = τ' ∧ (∀ i : Nat, (i < 55 ∨ 55 < i) ∧ (i < 66 ∨ 66 < i) ∧ (i < 74 ∨ 78 < i) → σ' i = σ i) ∧ (∀ k : Nat, (k < 18 ∨ 18 < k) ∧ (k < 19 ∨ 19 < k) ∧ (k < 20 ∨ 20 < k) ∧ (k < 21 ∨ 21 < k) ∧ (k < 22 ∨ 22 < k) ∧ (k < 37 ∨ 37 < k) → σ' 55 k = σ 55 k) ∧ (jKept σ') ∧ (jTR σ') ∧ (jqSt σ') ∧ ((jrP σ → jrM σ → (r : Int32).toInt = jrMe σ (A1) ∧ jrM σ')) ∧ ((True ∧ (0 ≤ r.toInt ∧ r.toInt ≤ -(1023000 * (σ 55 26).toInt) + 12276000))))) := by
  induction n with
  | zero =>
    have h_mf := c_X12_means_mf_z l D cI cL ad zz hJ
    exact h_mf
  | succ n ih =>
    have g_mf := ih
    have h_mf := c_X12_means_mf_g l D cI cL ad zz hJ n g_mf
    exact h_mf
set_option maxHeartbeats 4000000 in
set_option maxRecDepth 100000 in
theorem c_X12_likelies_lf_g (l : Launch) (D : va_G) (cI cL : ClassId) (ad zz : Nat → Nat) (hJ : jD ad) (n : Nat) (h_lf : ∀ (σ : Nat → Nat → Int32) (τ : Nat → Nat → Int64) (a1 : Int32) (A1 : Int) (t1 : a1.toInt = A1) (a2 : Int32) (A2 : Int) (t2 : a2.toInt = A2) (hI101 : jI101 σ) (hI102 : jI102 σ) (hI103 : jI103 σ) (hI104 : jI104 σ) (hI105 : jI105 σ) (hI106 : jI106 σ) (hI120 : jI120 σ) (hs_jKept : jKept σ) (hs_jTR : jTR σ) (hs_jqSt : jqSt σ) (hp0 : 0 ≤ A1 ∧ A1 ≤ 19) (hp1 : (σ 55 12).toInt - (σ 55 26).toInt ≤ 8) (hp2 : (σ 55 12).toInt - (σ 55 26).toInt ≤ (((n) : Nat) : Int)), jM l yX12_likelyFrom cX12_likelyFrom 10 (some .int) ({ frames := (106 + 4 * (n)), cells := 0, slots := 0, locals := (5261 + 240 * (n)) }) D cI cL ad zz [.ref (ad 55), .int a1, .int a2] σ τ (fun r σ' τ' => τ = τ' ∧ (∀ i : Nat, (i < 55 ∨ 55 < i) ∧ (i < 66 ∨ 66 < i) ∧ (i < 74 ∨ 78 < i) → σ' i = σ i) ∧ (∀ k : Nat, (k < 18 ∨ 18 < k) ∧ (k < 19 ∨ 19 < k) ∧ (k < 20 ∨ 20 < k) ∧ (k < 21 ∨ 21 < k) ∧ (k < 22 ∨ 22 < k) ∧ (k < 37 ∨ 37 < k) → σ' 55 k = σ 55 k) ∧ (jKept σ') ∧ (jTR σ') ∧ (jqSt σ') ∧ True)) (σ : Nat → Nat → Int32) (τ : Nat → Nat → Int64) (a1 : Int32) (A1 : Int) (t1 : a1.toInt = A1) (a2 : Int32) (A2 : Int) (t2 : a2.toInt = A2) (hI101 : jI101 σ) (hI102 : jI102 σ) (hI103 : jI103 σ) (hI104 : jI104 σ) (hI105 : jI105 σ) (hI106 : jI106 σ) (hI120 : jI120 σ) (hs_jKept : jKept σ) (hs_jTR : jTR σ) (hs_jqSt : jqSt σ) (hp0 : 0 ≤ A1 ∧ A1 ≤ 19) (hp1 : (σ 55 12).toInt - (σ 55 26).toInt ≤ 8) (hp2 : (σ 55 12).toInt - (σ 55 26).toInt ≤ (((n + 1) : Nat) : Int)) : jM l yX12_likelyFrom cX12_likelyFrom 10 (some .int) ({ frames := (106 + 4 * (n + 1)), cells := 0, slots := 0, locals := (5261 + 240 * (n + 1)) }) D cI cL ad zz [.ref (ad 55), .int a1, .int a2] σ τ (fun r σ' τ' => τ = τ' ∧ (∀ i : Nat, (i < 55 ∨ 55 < i) ∧ (i < 66 ∨ 66 < i) ∧ (i < 74 ∨ 78 < i) → σ' i = σ i) ∧ (∀ k : Nat, (k < 18 ∨ 18 < k) ∧ (k < 19 ∨ 19 < k) ∧ (k < 20 ∨ 20 < k) ∧ (k < 21 ∨ 21 < k) ∧ (k < 22 ∨ 22 < k) ∧ (k < 37 ∨ 37 < k) → σ' 55 k = σ 55 k) ∧ (jKept σ') ∧ (jTR σ') ∧ (jqSt σ') ∧ True) := by
  refine jM.of hJ (by decide +kernel) (nt := .int) rfl (Nat.le_of_ble_eq_true rfl) ?_
  intro p e s m args below meth c Q ls hC hret hl hP
  obtain ⟨hx, hb, hr, hml, hown, hts, hK, -, hlocks, hZ⟩ := hC
  have hown : s.vm.findClass RX12 = some m.cls := hown
  have hS : va_S (jA ad) s.heap s.heap [] := va_S.rf
  have hA : ∀ q, jA ad q → jA ad q := fun _ h => h
  have hl : lv_has ls 10 [(0, .ref (ad 55)), (1, .int a1), (2, .int a2)] := hl
  have g1 := jrg t1
  have g2 := jrg t2
  obtain ⟨i1, w2, w3⟩ : (0 ≤ (σ 55 6).toInt ∧ (σ 55 6).toInt ≤ 4) ∧ (∀ k : Nat, k < 4 → 0 ≤ (σ 60 k).toInt ∧ (σ 60 k).toInt ≤ 50) ∧ (∀ k : Nat, k < 4 → 0 ≤ (σ 61 k).toInt ∧ (σ 61 k).toInt ≤ 20) := id hI102
  obtain ⟨i4, i5, i6, w7, w8⟩ : (1 ≤ (σ 55 10).toInt ∧ (σ 55 10).toInt ≤ 8) ∧ (1 ≤ (σ 55 12).toInt ∧ (σ 55 12).toInt ≤ 12) ∧ (0 ≤ (σ 55 13).toInt ∧ (σ 55 13).toInt ≤ 999) ∧ (∀ k : Nat, k < 8 → 0 ≤ (σ 62 k).toInt ∧ (σ 62 k).toInt ≤ 3) ∧ (∀ k : Nat, k < 8 → 0 ≤ (σ 67 k).toInt ∧ (σ 67 k).toInt ≤ 3) := id hI104
  obtain ⟨i9, i10, i11, i12, i13, w14⟩ : (0 ≤ (σ 55 25).toInt) ∧ ((σ 55 25).toInt ≤ (σ 55 10).toInt) ∧ (0 ≤ (σ 55 26).toInt) ∧ ((σ 55 26).toInt ≤ (σ 55 12).toInt) ∧ ((-1) ≤ (σ 55 27).toInt ∧ (σ 55 27).toInt ≤ 3) ∧ (∀ k : Nat, k < 4 → 0 ≤ (σ 68 k).toInt ∧ (σ 68 k).toInt ≤ 3) := id hI120
  refine lv_aload_n hx hb dX12_likelyFrom_0 rfl (lv_at hl 0 rfl) ?_
  refine jcallV (As := []) (rest := []) ⟨hx, hb, hml, hown, hts⟩ hK hP hA hS hZ (c_X12_isEnded l D cI cL ad zz hJ σ τ hI102 hI104 hI120) cw_RX12_307 (jc_55 cI cL ad σ τ) rfl ⟨by dsimp only; omega, by dsimp only; omega⟩ rfl rfl rfl hl.1 rfl (Nat.le_of_ble_eq_true rfl) dX12_likelyFrom_1 ⟨Nat.zero_le _, Nat.zero_le _⟩ (fun r16 σ15 τ15 H locs h15 hP hS => ?_)
  obtain ⟨⟨rfl, rfl⟩, h15⟩ := h15
  rcases h15 with h17 | h18
  · obtain ⟨q20, k19⟩ := h17
    have q20 := q20.symm
    subst q20
    refine lv_if_eq (tgt := 19) hx hb dX12_likelyFrom_4 (of_decide_eq_true rfl) (fun c => absurd c (of_decide_eq_true rfl)) (fun _ => ?_)
    refine lv_iload_n hx hb dX12_likelyFrom_7 rfl (lv_at hl 2 rfl) ?_
    refine lv_if_le (tgt := 17) hx hb dX12_likelyFrom_8 (of_decide_eq_true rfl) (fun c21 => ?_) (fun c21 => ?_)
    · have kc21 := jle c21 t2 jz_0
      refine lv_iconst (v := 0) hx hb dX12_likelyFrom_17 (of_decide_eq_true rfl) ?_
      exact hret 0 σ τ _ _ _ _ rfl ⟨rfl, (fun _ _ => rfl), (fun _ _ => rfl), hs_jKept, hs_jTR, hs_jqSt, trivial⟩ hP hS dX12_likelyFrom_18
    · have kc21 := jnle c21 t2 jz_0
      refine lv_ldcw (v := 1000000) hx hb hown (hts _ kw_37_13) dX12_likelyFrom_11 ?_
      refine lv_goto (tgt := 18) hx hb dX12_likelyFrom_14 (of_decide_eq_true rfl) ?_
      exact hret 1000000 σ τ _ _ _ _ rfl ⟨rfl, (fun _ _ => rfl), (fun _ _ => rfl), hs_jKept, hs_jTR, hs_jqSt, trivial⟩ hP hS dX12_likelyFrom_18
  · obtain ⟨q25, k22, k23, k24⟩ := h18
    have q25 := q25.symm
    subst q25
    obtain ⟨B26, k27, k28, w29⟩ := k24
    refine lv_if_eq (tgt := 19) hx hb dX12_likelyFrom_4 (of_decide_eq_true rfl) (fun _ => ?_) (fun c => absurd (of_decide_eq_true rfl) c)
    refine lv_aload_n hx hb dX12_likelyFrom_19 rfl (lv_at hl 0 rfl) ?_
    refine lv_iload_n hx hb dX12_likelyFrom_20 rfl (lv_at hl 1 rfl) ?_
    have p30 : jmb σ B26 = 1 := (jmb_fr rfl rfl rfl rfl rfl B26).trans w29
    exact by
     refine jcallV (As := [.int a1]) (rest := []) ⟨hx, hb, hml, hown, hts⟩ hK hP hA hS hZ (c_X12_putsOn l D cI cL ad zz hJ σ τ B26 p30 a1 (A1) t1 hI101 hI102 hI103 hI104 hI105 hI106 hI120 hs_jKept hs_jTR hs_jqSt (by omega) (by omega) (by omega) (by omega) (by omega)) cw_RX12_321 (jc_55 cI cL ad σ τ) rfl ⟨by dsimp only; omega, by dsimp only; omega⟩ rfl rfl rfl hl.1 rfl (Nat.le_of_ble_eq_true rfl) dX12_likelyFrom_21 ⟨Nat.zero_le _, Nat.zero_le _⟩ (fun r32 σ31 τ31 H locs h31 hP hS => ?_)
     obtain ⟨rfl, f33, f34, p35, p36, p37, w38, h31⟩ := h31
     have h40 := h31
     obtain ⟨q42, k41⟩ := h40
     refine lv_istore_n (lv' := [(3, .int r32), (0, .ref (ad 55)), (1, .int a1), (2, .int a2)]) hx hb dX12_likelyFrom_24 rfl hl (of_decide_eq_true rfl) rfl (fun ls hl => ?_)
     refine lv_aload_n hx hb dX12_likelyFrom_25 rfl (lv_at hl 1 rfl) ?_
     refine va_get (D := D) hx hb hts inlX12 hown hK hP 55 (jc_55 cI cL ad σ31 τ) rfl 11 (of_decide_eq_true rfl) (hts _ kw_7_8) (fun _ h9 => h9) rfl dX12_likelyFrom_26 ?_
     refine lv_aload_n hx hb dX12_likelyFrom_29 rfl (lv_at hl 1 rfl) ?_
     refine va_get (D := D) hx hb hts inlX12 hown hK hP 55 (jc_55 cI cL ad σ31 τ) rfl 25 (of_decide_eq_true rfl) (hts _ kw_23_6) (fun _ h9 => h9) rfl dX12_likelyFrom_30 ?_
     have m43 : σ31 55 25 = (σ 55 25) := (f34 25 (of_decide_eq_true rfl))
     refine jtopr m43 ?_
     exact by
      refine jald hx hb hK hP (jc_62 cI cL ad σ31 τ) (jin rfl (by omega) (by omega)) dX12_likelyFrom_33 ?_
      have w44 : ∀ k : Nat, k < 8 → 0 ≤ (σ31 62 k).toInt ∧ (σ31 62 k).toInt ≤ 3 := (jrr_fr (f33 62 (of_decide_eq_true rfl)) w7)
      have g45 := w44 _ (jnat (x := (σ 55 25)) rfl (n := 8) (by omega) (of_decide_eq_true rfl))
      refine lv_topi (fun x46 ex46 => ?_)
      rw [← ex46] at g45
      refine lv_istore (lv' := [(4, .int x46), (3, .int r32), (0, .ref (ad 55)), (1, .int a1), (2, .int a2)]) hx hb dX12_likelyFrom_34 hl (of_decide_eq_true rfl) rfl (fun ls hl => ?_)
      refine lv_aload_n hx hb dX12_likelyFrom_36 rfl (lv_at hl 2 rfl) ?_
      refine lv_iload_n hx hb dX12_likelyFrom_37 rfl (lv_at hl 1 rfl) ?_
      refine lv_iload hx hb dX12_likelyFrom_38 (lv_at hl 0 rfl) ?_
      exact by
       have I47 : jI101 σ31 := jI101_fr (f34 4 (of_decide_eq_true rfl)) (f34 5 (of_decide_eq_true rfl)) (f33 56 (of_decide_eq_true rfl)) (f33 57 (of_decide_eq_true rfl)) (f33 58 (of_decide_eq_true rfl)) (f33 59 (of_decide_eq_true rfl)) hI101
       have I48 : jI102 σ31 := jI102_fr (f34 6 (of_decide_eq_true rfl)) (f33 60 (of_decide_eq_true rfl)) (f33 61 (of_decide_eq_true rfl)) hI102
       have I49 : jI103 σ31 := jI103_fr (f34 9 (of_decide_eq_true rfl)) hI103
       have I50 : jI105 σ31 := jI105_fr (f34 15 (of_decide_eq_true rfl)) (f33 65 (of_decide_eq_true rfl)) hI105
       have w51 : ∀ k : Nat, k < 4 → 0 ≤ (σ31 68 k).toInt ∧ (σ31 68 k).toInt ≤ 3 := (jrr_fr (f33 68 (of_decide_eq_true rfl)) w14)
       refine jcallV (As := [.int r32, .int x46]) (rest := []) ⟨hx, hb, hml, hown, hts⟩ hK hP hA hS hZ (c_X12_outBy l D cI cL ad zz hJ σ31 τ r32 (r32.toInt) rfl x46 (x46.toInt) rfl I47 I48 I49 I50 w51 p36 (by omega) (by omega)) cw_RX12_259 (jc_55 cI cL ad σ31 τ) rfl ⟨by dsimp only; omega, by dsimp only; omega⟩ rfl rfl rfl hl.1 rfl (Nat.le_of_ble_eq_true rfl) dX12_likelyFrom_40 ⟨Nat.zero_le _, Nat.zero_le _⟩ (fun r53 σ52 τ52 H locs h52 hP hS => ?_)
       obtain ⟨rfl, f54, f55, p56, w57, h52⟩ := h52
       have h59 := h52
       obtain ⟨q61, k60⟩ := h59
       exact by
        refine lv_istore (lv' := [(5, .int r53), (4, .int x46), (3, .int r32), (0, .ref (ad 55)), (1, .int a1), (2, .int a2)]) hx hb dX12_likelyFrom_43 hl (of_decide_eq_true rfl) rfl (fun ls hl => ?_)
        refine lv_iload_n hx hb dX12_likelyFrom_45 rfl (lv_at hl 5 rfl) ?_
        refine lv_aload_n hx hb dX12_likelyFrom_46 rfl (lv_at hl 3 rfl) ?_
        refine lv_iload_n hx hb dX12_likelyFrom_47 rfl (lv_at hl 2 rfl) ?_
        refine lv_iload hx hb dX12_likelyFrom_48 (lv_at hl 1 rfl) ?_
        have I62 : jI101 σ52 := jI101_fr (f55 4 (of_decide_eq_true rfl)) (f55 5 (of_decide_eq_true rfl)) (f54 56 (of_decide_eq_true rfl)) (f54 57 (of_decide_eq_true rfl)) (f54 58 (of_decide_eq_true rfl)) (f54 59 (of_decide_eq_true rfl)) I47
        have I63 : jI102 σ52 := jI102_fr (f55 6 (of_decide_eq_true rfl)) (f54 60 (of_decide_eq_true rfl)) (f54 61 (of_decide_eq_true rfl)) I48
        have I64 : jI103 σ52 := jI103_fr (f55 9 (of_decide_eq_true rfl)) I49
        have w65 : ∀ k : Nat, k < 4 → 0 ≤ (σ52 68 k).toInt ∧ (σ52 68 k).toInt ≤ 3 := (jrr_fr (f54 68 (of_decide_eq_true rfl)) w51)
        exact by
         refine jcallV (As := [.int r32, .int x46]) (rest := [.int a2]) ⟨hx, hb, hml, hown, hts⟩ hK hP hA hS hZ (c_X12_runsBy l D cI cL ad zz hJ σ52 τ r32 (r32.toInt) rfl x46 (x46.toInt) rfl I62 I63 I64 w65 (by omega) (by omega)) cw_RX12_262 (jc_55 cI cL ad σ52 τ) rfl ⟨by dsimp only; omega, by dsimp only; omega⟩ rfl rfl rfl hl.1 rfl (Nat.le_of_ble_eq_true rfl) dX12_likelyFrom_50 ⟨Nat.zero_le _, Nat.zero_le _⟩ (fun r67 σ66 τ66 H locs h66 hP hS => ?_)
         obtain ⟨⟨rfl, rfl⟩, w68, h66⟩ := h66
         have h69 := h66
         obtain ⟨q71, k70⟩ := h69
         have g72 := jrg (rfl : r67.toInt = r67.toInt)
         refine lv_isub hx hb dX12_likelyFrom_53 ?_
         refine lv_topi (fun x73 ex73 => ?_)
         have gx73 := jrg (rfl : x73.toInt = x73.toInt)
         refine lv_istore (lv' := [(6, .int x73), (5, .int r53), (4, .int x46), (3, .int r32), (0, .ref (ad 55)), (1, .int a1), (2, .int a2)]) hx hb dX12_likelyFrom_54 hl (of_decide_eq_true rfl) rfl (fun ls hl => ?_)
         refine lv_aload_n hx hb dX12_likelyFrom_56 rfl (lv_at hl 4 rfl) ?_
         refine lv_iload_n hx hb dX12_likelyFrom_57 rfl (lv_at hl 3 rfl) ?_
         refine lv_iconst (v := 1) hx hb dX12_likelyFrom_58 (of_decide_eq_true rfl) ?_
         have z74 : (σ52 55 6).toInt = (σ 55 6).toInt := (congrArg Int32.toInt (show σ52 55 6 = (σ 55 6) from ((f55 6 (of_decide_eq_true rfl)).trans (f34 6 (of_decide_eq_true rfl)))))
         have z75 : (σ52 55 27).toInt = (σ 55 27).toInt := (congrArg Int32.toInt (show σ52 55 27 = (σ 55 27) from ((f55 27 (of_decide_eq_true rfl)).trans (f34 27 (of_decide_eq_true rfl)))))
         have z76 : (σ52 55 25).toInt = (σ 55 25).toInt := (congrArg Int32.toInt (show σ52 55 25 = (σ 55 25) from ((f55 25 (of_decide_eq_true rfl)).trans m43)))
         have z77 : (σ52 55 26).toInt = (σ 55 26).toInt := (congrArg Int32.toInt (show σ52 55 26 = (σ 55 26) from ((f55 26 (of_decide_eq_true rfl)).trans (f34 26 (of_decide_eq_true rfl)))))
         have z78 : (σ52 68 0).toInt = (σ 68 0).toInt := (congrArg Int32.toInt (show σ52 68 0 = (σ 68 0) from ((congrFun (f54 68 (of_decide_eq_true rfl)) 0).trans (congrFun (f33 68 (of_decide_eq_true rfl)) 0))))
         have z79 : (σ52 68 1).toInt = (σ 68 1).toInt := (congrArg Int32.toInt (show σ52 68 1 = (σ 68 1) from ((congrFun (f54 68 (of_decide_eq_true rfl)) 1).trans (congrFun (f33 68 (of_decide_eq_true rfl)) 1))))
         have z80 : (σ52 68 2).toInt = (σ 68 2).toInt := (congrArg Int32.toInt (show σ52 68 2 = (σ 68 2) from ((congrFun (f54 68 (of_decide_eq_true rfl)) 2).trans (congrFun (f33 68 (of_decide_eq_true rfl)) 2))))
         have z81 : (σ52 68 3).toInt = (σ 68 3).toInt := (congrArg Int32.toInt (show σ52 68 3 = (σ 68 3) from ((congrFun (f54 68 (of_decide_eq_true rfl)) 3).trans (congrFun (f33 68 (of_decide_eq_true rfl)) 3))))
         exact by
          refine jcallV (As := [.int r32, .int 1]) (rest := []) ⟨hx, hb, hml, hown, hts⟩ hK hP hA hS hZ (c_X12_goes_1 l D cI cL ad zz hJ σ52 τ r32 (r32.toInt) rfl w65 (by omega) (by omega) (by omega) (by omega) (by omega)) cw_RX12_296 (jc_55 cI cL ad σ52 τ) rfl ⟨by dsimp only; omega, by dsimp only; omega⟩ rfl rfl rfl hl.1 rfl (Nat.le_of_ble_eq_true rfl) dX12_likelyFrom_59 ⟨Nat.zero_le _, Nat.zero_le _⟩ (fun r83 σ82 τ82 H locs h82 hP hS => ?_)
          obtain ⟨rfl, f84, f85, w86, w87, w88, w89, h82⟩ := h82
          obtain ⟨k91, k92, k93, h82⟩ := h82
          have h94 := h82
          obtain ⟨q100, k95, k96, k97, k98, k99⟩ := h94
          refine lv_istore (lv' := [(7, .int r83), (6, .int x73), (5, .int r53), (4, .int x46), (3, .int r32), (0, .ref (ad 55)), (1, .int a1), (2, .int a2)]) hx hb dX12_likelyFrom_62 hl (of_decide_eq_true rfl) rfl (fun ls hl => ?_)
          refine lv_aload_n hx hb dX12_likelyFrom_64 rfl (lv_at hl 5 rfl) ?_
          refine lv_iload_n hx hb dX12_likelyFrom_65 rfl (lv_at hl 6 rfl) ?_
          refine lv_iload hx hb dX12_likelyFrom_66 (lv_at hl 1 rfl) ?_
          have I101 : jI101 σ82 := jI101_fr (f85 4 (of_decide_eq_true rfl)) (f85 5 (of_decide_eq_true rfl)) (f84 56 (of_decide_eq_true rfl)) (f84 57 (of_decide_eq_true rfl)) (f84 58 (of_decide_eq_true rfl)) (f84 59 (of_decide_eq_true rfl)) I62
          have I102 : jI102 σ82 := jI102_fr (f85 6 (of_decide_eq_true rfl)) (f84 60 (of_decide_eq_true rfl)) (f84 61 (of_decide_eq_true rfl)) I63
          have I103 : jI103 σ82 := jI103_fr (f85 9 (of_decide_eq_true rfl)) I64
          have I104 : jI104 σ82 := jI104_fr ((f85 10 (of_decide_eq_true rfl)).trans ((f55 10 (of_decide_eq_true rfl)).trans (f34 10 (of_decide_eq_true rfl)))) ((f85 12 (of_decide_eq_true rfl)).trans ((f55 12 (of_decide_eq_true rfl)).trans (f34 12 (of_decide_eq_true rfl)))) ((f85 13 (of_decide_eq_true rfl)).trans ((f55 13 (of_decide_eq_true rfl)).trans (f34 13 (of_decide_eq_true rfl)))) ((f84 62 (of_decide_eq_true rfl)).trans ((f54 62 (of_decide_eq_true rfl)).trans (f33 62 (of_decide_eq_true rfl)))) ((f84 67 (of_decide_eq_true rfl)).trans ((f54 67 (of_decide_eq_true rfl)).trans (f33 67 (of_decide_eq_true rfl)))) hI104
          have I105 : jI105 σ82 := jI105_fr ((f85 15 (of_decide_eq_true rfl)).trans (f55 15 (of_decide_eq_true rfl))) ((f84 65 (of_decide_eq_true rfl)).trans (f54 65 (of_decide_eq_true rfl))) I50
          have I106 : jI106 σ82 := jI106_fr ((f85 32 (of_decide_eq_true rfl)).trans ((f55 32 (of_decide_eq_true rfl)).trans (f34 32 (of_decide_eq_true rfl)))) ((f84 70 (of_decide_eq_true rfl)).trans ((f54 70 (of_decide_eq_true rfl)).trans (f33 70 (of_decide_eq_true rfl)))) ((f84 71 (of_decide_eq_true rfl)).trans ((f54 71 (of_decide_eq_true rfl)).trans (f33 71 (of_decide_eq_true rfl)))) ((f84 72 (of_decide_eq_true rfl)).trans ((f54 72 (of_decide_eq_true rfl)).trans (f33 72 (of_decide_eq_true rfl)))) hI106
          have z107 : (σ82 55 10).toInt = (σ 55 10).toInt := (congrArg Int32.toInt (show σ82 55 10 = (σ 55 10) from ((f85 10 (of_decide_eq_true rfl)).trans ((f55 10 (of_decide_eq_true rfl)).trans (f34 10 (of_decide_eq_true rfl))))))
          have z108 : (σ82 55 12).toInt = (σ 55 12).toInt := (congrArg Int32.toInt (show σ82 55 12 = (σ 55 12) from ((f85 12 (of_decide_eq_true rfl)).trans ((f55 12 (of_decide_eq_true rfl)).trans (f34 12 (of_decide_eq_true rfl))))))
          exact by
           have I109 : jI120 σ82 := ⟨(by omega), (by omega), (by omega), (by omega), (by omega), w86⟩
           have p110 : jKept σ82 := jKept.fr ((f84 75 (of_decide_eq_true rfl)).trans (f54 75 (of_decide_eq_true rfl))) ((f84 76 (of_decide_eq_true rfl)).trans (f54 76 (of_decide_eq_true rfl))) ((f84 77 (of_decide_eq_true rfl)).trans (f54 77 (of_decide_eq_true rfl))) p35
           have p111 : jTR σ82 := jTR.fr (f84 64 (of_decide_eq_true rfl)) (f84 65 (of_decide_eq_true rfl)) p56
           have p112 : jqSt σ82 := jqSt.fr ((f84 78 (of_decide_eq_true rfl)).trans (f54 78 (of_decide_eq_true rfl))) ((f85 42 (of_decide_eq_true rfl)).trans (f55 42 (of_decide_eq_true rfl))) p37
           refine jcallV (As := [.int a1, .int x73]) (rest := []) ⟨hx, hb, hml, hown, hts⟩ hK hP hA hS hZ (h_lf σ82 τ a1 (A1) t1 x73 (x73.toInt) rfl I101 I102 I103 I104 I105 I106 I109 p110 p111 p112 (by omega) (by omega) (by omega)) cw_RX12_328 (jc_55 cI cL ad σ82 τ) rfl ⟨by dsimp only; omega, by dsimp only; omega⟩ rfl rfl rfl hl.1 rfl (Nat.le_of_ble_eq_true rfl) dX12_likelyFrom_68 ⟨Nat.zero_le _, Nat.zero_le _⟩ (fun r114 σ113 τ113 H locs h113 hP hS => ?_)
           obtain ⟨rfl, f115, f116, p117, p118, p119, h113⟩ := h113
           refine lv_istore (lv' := [(8, .int r114), (7, .int r83), (6, .int x73), (5, .int r53), (4, .int x46), (3, .int r32), (0, .ref (ad 55)), (1, .int a1), (2, .int a2)]) hx hb dX12_likelyFrom_71 hl (of_decide_eq_true rfl) rfl (fun ls hl => ?_)
           refine lv_aload_n hx hb dX12_likelyFrom_73 rfl (lv_at hl 6 rfl) ?_
           refine lv_iload_n hx hb dX12_likelyFrom_74 rfl (lv_at hl 5 rfl) ?_
           exact by
            refine lv_iconst (v := 1) hx hb dX12_likelyFrom_75 (of_decide_eq_true rfl) ?_
            refine lv_iload hx hb dX12_likelyFrom_76 (lv_at hl 1 rfl) ?_
            have w121 : ∀ k : Nat, k < 4 → 0 ≤ (σ113 68 k).toInt ∧ (σ113 68 k).toInt ≤ 3 := (jrr_fr (f115 68 (of_decide_eq_true rfl)) w86)
            have z122 : (σ113 55 25).toInt = (σ82 55 25).toInt := (congrArg Int32.toInt (show σ113 55 25 = (σ82 55 25) from (f116 25 (of_decide_eq_true rfl))))
            have z123 : (σ113 55 26).toInt = (σ82 55 26).toInt := (congrArg Int32.toInt (show σ113 55 26 = (σ82 55 26) from (f116 26 (of_decide_eq_true rfl))))
            have z124 : (σ113 55 6).toInt = (σ 55 6).toInt := (congrArg Int32.toInt (show σ113 55 6 = (σ 55 6) from ((f116 6 (of_decide_eq_true rfl)).trans ((f85 6 (of_decide_eq_true rfl)).trans ((f55 6 (of_decide_eq_true rfl)).trans (f34 6 (of_decide_eq_true rfl)))))))
            have w125 : ∀ k : Nat, k < 4 → 0 ≤ (σ52 68 k).toInt ∧ (σ52 68 k).toInt ≤ 3 := w65
            have z127 : (σ52 55 27).toInt = (σ 55 27).toInt := (congrArg Int32.toInt (show σ52 55 27 = (σ 55 27) from ((f55 27 (of_decide_eq_true rfl)).trans (f34 27 (of_decide_eq_true rfl)))))
            have k126 := jwas (by omega) (w125 0 (of_decide_eq_true rfl)) (w125 1 (of_decide_eq_true rfl)) (w125 2 (of_decide_eq_true rfl)) (w125 3 (of_decide_eq_true rfl)) k95
            rw [← (show σ113 55 6 = σ52 55 6 from ((f116 6 (of_decide_eq_true rfl)).trans (f85 6 (of_decide_eq_true rfl))))] at k126
            exact by
             refine jcallVv (As := [.int r32, .int 1, .int r83]) (rest := []) ⟨hx, hb, hml, hown, hts⟩ hK hP hA hS hZ (c_X12_goesBack_1 l D cI cL ad zz hJ σ113 τ r32 (r32.toInt) rfl r83 (r83.toInt) rfl w121 (by omega) (by omega) (by omega) k126) cw_RX12_300 (jc_55 cI cL ad σ113 τ) rfl ⟨by dsimp only; omega, by dsimp only; omega⟩ rfl rfl rfl hl.1 rfl (Nat.le_of_ble_eq_true rfl) dX12_likelyFrom_78 ⟨Nat.zero_le _, Nat.zero_le _⟩ (fun σ128 τ128 H locs h128 hP hS => ?_)
             obtain ⟨rfl, f130, f131, w132, w133, w134, h128⟩ := h128
             obtain ⟨k136, k137, k138, k139, h128⟩ := h128
             have p140 : jKept σ128 := jKept.fr (f130 75 (of_decide_eq_true rfl)) (f130 76 (of_decide_eq_true rfl)) (f130 77 (of_decide_eq_true rfl)) p117
             have p141 : jTR σ128 := jTR.fr (f130 64 (of_decide_eq_true rfl)) (f130 65 (of_decide_eq_true rfl)) p118
             have p142 : jqSt σ128 := jqSt.fr (f130 78 (of_decide_eq_true rfl)) (f131 42 (of_decide_eq_true rfl)) p119
             have M143 : jrM σ113 → jrM σ128 := fun q => (jrEq.m (σ := σ113) (σ' := σ128) ⟨⟨(f130 56 (of_decide_eq_true rfl)), (f130 60 (of_decide_eq_true rfl)), (f130 61 (of_decide_eq_true rfl)), (f130 62 (of_decide_eq_true rfl)), (f130 64 (of_decide_eq_true rfl)), (f130 65 (of_decide_eq_true rfl))⟩, (f131 6 (of_decide_eq_true rfl)), (f131 9 (of_decide_eq_true rfl)), (f131 10 (of_decide_eq_true rfl)), (f131 12 (of_decide_eq_true rfl)), (f131 13 (of_decide_eq_true rfl)), (f131 30 (of_decide_eq_true rfl)), (f131 31 (of_decide_eq_true rfl)), (f131 42 (of_decide_eq_true rfl))⟩ (f130 78 (of_decide_eq_true rfl)) (f130 74 (of_decide_eq_true rfl)) (f130 75 (of_decide_eq_true rfl)) (f130 76 (of_decide_eq_true rfl)) (f130 77 (of_decide_eq_true rfl)) q)
             have e144 : σ113 69 = σ82 69 := (f115 69 (of_decide_eq_true rfl))
             have e145 : σ128 69 = σ52 69 := jback69 w87 e144 w133
             have e146 : σ113 68 = σ82 68 := (f115 68 (of_decide_eq_true rfl))
             have e147 : σ113 55 6 = σ52 55 6 := ((f116 6 (of_decide_eq_true rfl)).trans (f85 6 (of_decide_eq_true rfl)))
             have w155 : ∀ k : Nat, k < 4 → 0 ≤ (σ52 68 k).toInt ∧ (σ52 68 k).toInt ≤ 3 := w65
             have w156 : ∀ k : Nat, k < 4 → 0 ≤ (σ128 68 k).toInt ∧ (σ128 68 k).toInt ≤ 3 := w132
             have k157 := k139
             rw [e147] at k157
             have D148 := jdig (w155 0 (of_decide_eq_true rfl)) (w155 1 (of_decide_eq_true rfl)) (w155 2 (of_decide_eq_true rfl)) (w155 3 (of_decide_eq_true rfl)) (w156 0 (of_decide_eq_true rfl)) (w156 1 (of_decide_eq_true rfl)) (w156 2 (of_decide_eq_true rfl)) (w156 3 (of_decide_eq_true rfl)) k95 k157
             exact by
              have e149 : σ128 55 27 = σ52 55 27 := Int32.toInt_inj.mp (by have h9 := D148.1; omega)
              have z158 : (σ113 55 26).toInt = (σ82 55 26).toInt := (congrArg Int32.toInt (show σ113 55 26 = (σ82 55 26) from (f116 26 (of_decide_eq_true rfl))))
              have z159 : (σ52 55 26).toInt = (σ 55 26).toInt := (congrArg Int32.toInt (show σ52 55 26 = (σ 55 26) from ((f55 26 (of_decide_eq_true rfl)).trans (f34 26 (of_decide_eq_true rfl)))))
              have z160 : (σ113 55 25).toInt = (σ82 55 25).toInt := (congrArg Int32.toInt (show σ113 55 25 = (σ82 55 25) from (f116 25 (of_decide_eq_true rfl))))
              have z161 : (σ52 55 25).toInt = (σ 55 25).toInt := (congrArg Int32.toInt (show σ52 55 25 = (σ 55 25) from ((f55 25 (of_decide_eq_true rfl)).trans (f34 25 (of_decide_eq_true rfl)))))
              have e150 : σ128 55 26 = σ52 55 26 := Int32.toInt_inj.mp (by omega)
              have e151 : σ128 55 25 = σ52 55 25 := Int32.toInt_inj.mp (by omega)
              have z162 : (σ52 55 6).toInt = (σ 55 6).toInt := (congrArg Int32.toInt (show σ52 55 6 = (σ 55 6) from ((f55 6 (of_decide_eq_true rfl)).trans (f34 6 (of_decide_eq_true rfl)))))
              have e152 : σ128 68 = σ52 68 := jback68 (nb := (σ52 55 6).toInt) (by omega) w88 e146 (fun k hk => w134 k (by rw [e147]; exact hk)) D148.2
              exact by
               have f153 : (∀ i : Nat, (i < 55 ∨ 55 < i) ∧ (i < 66 ∨ 66 < i) ∧ (i < 74 ∨ 78 < i) → σ128 i = σ52 i) := fun i hi0 => by
                 by_cases h8 : i = 68
                 · rw [h8]; exact e152
                 by_cases h9 : i = 69
                 · rw [h9]; exact e145
                 have hi : ((i < 55 ∨ 55 < i) ∧ (i < 66 ∨ 66 < i) ∧ (i < 74 ∨ 78 < i)) ∧ i ≠ 68 ∧ i ≠ 69 := ⟨hi0, h8, h9⟩
                 exact ((f130 i (imp_200 i hi)).trans ((f115 i (imp_201 i hi)).trans (f84 i (imp_200 i hi))))
               have f154 : ∀ i : Nat, (i < 18 ∨ 18 < i) ∧ (i < 19 ∨ 19 < i) ∧ (i < 20 ∨ 20 < i) ∧ (i < 21 ∨ 21 < i) ∧ (i < 22 ∨ 22 < i) ∧ (i < 37 ∨ 37 < i) → σ128 55 i = σ52 55 i := fun i hi0 => by
                 by_cases h25 : i = 25
                 · rw [h25]; exact e151
                 by_cases h26 : i = 26
                 · rw [h26]; exact e150
                 by_cases h27 : i = 27
                 · rw [h27]; exact e149
                 have hi : ((i < 18 ∨ 18 < i) ∧ (i < 19 ∨ 19 < i) ∧ (i < 20 ∨ 20 < i) ∧ (i < 21 ∨ 21 < i) ∧ (i < 22 ∨ 22 < i) ∧ (i < 37 ∨ 37 < i)) ∧ i ≠ 25 ∧ i ≠ 26 ∧ i ≠ 27 := ⟨hi0, h25, h26, h27⟩
                 exact ((f131 i (imp_202 i hi)).trans ((f116 i (imp_203 i hi)).trans (f85 i (imp_202 i hi))))
               clear k157 k139 k95
               refine lv_aload_n hx hb dX12_likelyFrom_81 rfl (lv_at hl 6 rfl) ?_
               refine lv_iload_n hx hb dX12_likelyFrom_82 rfl (lv_at hl 5 rfl) ?_
               refine lv_iconst (v := 0) hx hb dX12_likelyFrom_83 (of_decide_eq_true rfl) ?_
               have w163 : ∀ k : Nat, k < 4 → 0 ≤ (σ128 68 k).toInt ∧ (σ128 68 k).toInt ≤ 3 := (jrr_fr (f153 68 (of_decide_eq_true rfl)) w65)
               have z164 : (σ128 55 6).toInt = (σ 55 6).toInt := (congrArg Int32.toInt (show σ128 55 6 = (σ 55 6) from ((f154 6 (of_decide_eq_true rfl)).trans ((f55 6 (of_decide_eq_true rfl)).trans (f34 6 (of_decide_eq_true rfl))))))
               have z165 : (σ128 55 27).toInt = (σ 55 27).toInt := (congrArg Int32.toInt (show σ128 55 27 = (σ 55 27) from ((f154 27 (of_decide_eq_true rfl)).trans ((f55 27 (of_decide_eq_true rfl)).trans (f34 27 (of_decide_eq_true rfl))))))
               have z166 : (σ128 55 25).toInt = (σ 55 25).toInt := (congrArg Int32.toInt (show σ128 55 25 = (σ 55 25) from ((f154 25 (of_decide_eq_true rfl)).trans ((f55 25 (of_decide_eq_true rfl)).trans m43))))
               have z167 : (σ128 55 26).toInt = (σ 55 26).toInt := (congrArg Int32.toInt (show σ128 55 26 = (σ 55 26) from ((f154 26 (of_decide_eq_true rfl)).trans ((f55 26 (of_decide_eq_true rfl)).trans (f34 26 (of_decide_eq_true rfl))))))
               have z168 : (σ128 68 0).toInt = (σ 68 0).toInt := (congrArg Int32.toInt (show σ128 68 0 = (σ 68 0) from ((congrFun (f153 68 (of_decide_eq_true rfl)) 0).trans ((congrFun (f54 68 (of_decide_eq_true rfl)) 0).trans (congrFun (f33 68 (of_decide_eq_true rfl)) 0)))))
               have z169 : (σ128 68 1).toInt = (σ 68 1).toInt := (congrArg Int32.toInt (show σ128 68 1 = (σ 68 1) from ((congrFun (f153 68 (of_decide_eq_true rfl)) 1).trans ((congrFun (f54 68 (of_decide_eq_true rfl)) 1).trans (congrFun (f33 68 (of_decide_eq_true rfl)) 1)))))
               have z170 : (σ128 68 2).toInt = (σ 68 2).toInt := (congrArg Int32.toInt (show σ128 68 2 = (σ 68 2) from ((congrFun (f153 68 (of_decide_eq_true rfl)) 2).trans ((congrFun (f54 68 (of_decide_eq_true rfl)) 2).trans (congrFun (f33 68 (of_decide_eq_true rfl)) 2)))))
               have z171 : (σ128 68 3).toInt = (σ 68 3).toInt := (congrArg Int32.toInt (show σ128 68 3 = (σ 68 3) from ((congrFun (f153 68 (of_decide_eq_true rfl)) 3).trans ((congrFun (f54 68 (of_decide_eq_true rfl)) 3).trans (congrFun (f33 68 (of_decide_eq_true rfl)) 3)))))
               exact by
                refine jcallV (As := [.int r32, .int 0]) (rest := []) ⟨hx, hb, hml, hown, hts⟩ hK hP hA hS hZ (c_X12_goes_0 l D cI cL ad zz hJ σ128 τ r32 (r32.toInt) rfl w163 (by omega) (by omega) (by omega) (by omega) (by omega)) cw_RX12_296 (jc_55 cI cL ad σ128 τ) rfl ⟨by dsimp only; omega, by dsimp only; omega⟩ rfl rfl rfl hl.1 rfl (Nat.le_of_ble_eq_true rfl) dX12_likelyFrom_84 ⟨Nat.zero_le _, Nat.zero_le _⟩ (fun r173 σ172 τ172 H locs h172 hP hS => ?_)
                obtain ⟨rfl, f174, f175, w176, w177, w178, w179, h172⟩ := h172
                obtain ⟨k181, k182, k183, h172⟩ := h172
                have h184 := h172
                obtain ⟨q190, k185, k186, k187, k188, k189⟩ := h184
                refine lv_istore (lv' := [(7, .int r173), (8, .int r114), (6, .int x73), (5, .int r53), (4, .int x46), (3, .int r32), (0, .ref (ad 55)), (1, .int a1), (2, .int a2)]) hx hb dX12_likelyFrom_87 hl (of_decide_eq_true rfl) rfl (fun ls hl => ?_)
                refine lv_aload_n hx hb dX12_likelyFrom_89 rfl (lv_at hl 6 rfl) ?_
                refine lv_iload_n hx hb dX12_likelyFrom_90 rfl (lv_at hl 7 rfl) ?_
                refine lv_iload hx hb dX12_likelyFrom_91 (lv_at hl 2 rfl) ?_
                have I191 : jI101 σ172 := jI101_fr ((f175 4 (of_decide_eq_true rfl)).trans (f154 4 (of_decide_eq_true rfl))) ((f175 5 (of_decide_eq_true rfl)).trans (f154 5 (of_decide_eq_true rfl))) ((f174 56 (of_decide_eq_true rfl)).trans (f153 56 (of_decide_eq_true rfl))) ((f174 57 (of_decide_eq_true rfl)).trans (f153 57 (of_decide_eq_true rfl))) ((f174 58 (of_decide_eq_true rfl)).trans (f153 58 (of_decide_eq_true rfl))) ((f174 59 (of_decide_eq_true rfl)).trans (f153 59 (of_decide_eq_true rfl))) I62
                have I192 : jI102 σ172 := jI102_fr ((f175 6 (of_decide_eq_true rfl)).trans (f154 6 (of_decide_eq_true rfl))) ((f174 60 (of_decide_eq_true rfl)).trans (f153 60 (of_decide_eq_true rfl))) ((f174 61 (of_decide_eq_true rfl)).trans (f153 61 (of_decide_eq_true rfl))) I63
                have I193 : jI103 σ172 := jI103_fr ((f175 9 (of_decide_eq_true rfl)).trans (f154 9 (of_decide_eq_true rfl))) I64
                have I194 : jI104 σ172 := jI104_fr ((f175 10 (of_decide_eq_true rfl)).trans ((f154 10 (of_decide_eq_true rfl)).trans ((f55 10 (of_decide_eq_true rfl)).trans (f34 10 (of_decide_eq_true rfl))))) ((f175 12 (of_decide_eq_true rfl)).trans ((f154 12 (of_decide_eq_true rfl)).trans ((f55 12 (of_decide_eq_true rfl)).trans (f34 12 (of_decide_eq_true rfl))))) ((f175 13 (of_decide_eq_true rfl)).trans ((f154 13 (of_decide_eq_true rfl)).trans ((f55 13 (of_decide_eq_true rfl)).trans (f34 13 (of_decide_eq_true rfl))))) ((f174 62 (of_decide_eq_true rfl)).trans ((f153 62 (of_decide_eq_true rfl)).trans ((f54 62 (of_decide_eq_true rfl)).trans (f33 62 (of_decide_eq_true rfl))))) ((f174 67 (of_decide_eq_true rfl)).trans ((f153 67 (of_decide_eq_true rfl)).trans ((f54 67 (of_decide_eq_true rfl)).trans (f33 67 (of_decide_eq_true rfl))))) hI104
                have I195 : jI105 σ172 := jI105_fr ((f175 15 (of_decide_eq_true rfl)).trans ((f154 15 (of_decide_eq_true rfl)).trans (f55 15 (of_decide_eq_true rfl)))) ((f174 65 (of_decide_eq_true rfl)).trans ((f153 65 (of_decide_eq_true rfl)).trans (f54 65 (of_decide_eq_true rfl)))) I50
                have I196 : jI106 σ172 := jI106_fr ((f175 32 (of_decide_eq_true rfl)).trans ((f154 32 (of_decide_eq_true rfl)).trans ((f55 32 (of_decide_eq_true rfl)).trans (f34 32 (of_decide_eq_true rfl))))) ((f174 70 (of_decide_eq_true rfl)).trans ((f153 70 (of_decide_eq_true rfl)).trans ((f54 70 (of_decide_eq_true rfl)).trans (f33 70 (of_decide_eq_true rfl))))) ((f174 71 (of_decide_eq_true rfl)).trans ((f153 71 (of_decide_eq_true rfl)).trans ((f54 71 (of_decide_eq_true rfl)).trans (f33 71 (of_decide_eq_true rfl))))) ((f174 72 (of_decide_eq_true rfl)).trans ((f153 72 (of_decide_eq_true rfl)).trans ((f54 72 (of_decide_eq_true rfl)).trans (f33 72 (of_decide_eq_true rfl))))) hI106
                have z197 : (σ172 55 10).toInt = (σ 55 10).toInt := (congrArg Int32.toInt (show σ172 55 10 = (σ 55 10) from ((f175 10 (of_decide_eq_true rfl)).trans ((f154 10 (of_decide_eq_true rfl)).trans ((f55 10 (of_decide_eq_true rfl)).trans (f34 10 (of_decide_eq_true rfl)))))))
                have z198 : (σ172 55 12).toInt = (σ 55 12).toInt := (congrArg Int32.toInt (show σ172 55 12 = (σ 55 12) from ((f175 12 (of_decide_eq_true rfl)).trans ((f154 12 (of_decide_eq_true rfl)).trans ((f55 12 (of_decide_eq_true rfl)).trans (f34 12 (of_decide_eq_true rfl)))))))
                exact by
                 have I199 : jI120 σ172 := ⟨(by omega), (by omega), (by omega), (by omega), (by omega), w176⟩
                 have p200 : jKept σ172 := jKept.fr (f174 75 (of_decide_eq_true rfl)) (f174 76 (of_decide_eq_true rfl)) (f174 77 (of_decide_eq_true rfl)) p140
                 have p201 : jTR σ172 := jTR.fr (f174 64 (of_decide_eq_true rfl)) (f174 65 (of_decide_eq_true rfl)) p141
                 have p202 : jqSt σ172 := jqSt.fr (f174 78 (of_decide_eq_true rfl)) (f175 42 (of_decide_eq_true rfl)) p142
                 refine jcallV (As := [.int a1, .int x73]) (rest := []) ⟨hx, hb, hml, hown, hts⟩ hK hP hA hS hZ (h_lf σ172 τ a1 (A1) t1 x73 (x73.toInt) rfl I191 I192 I193 I194 I195 I196 I199 p200 p201 p202 (by omega) (by omega) (by omega)) cw_RX12_328 (jc_55 cI cL ad σ172 τ) rfl ⟨by dsimp only; omega, by dsimp only; omega⟩ rfl rfl rfl hl.1 rfl (Nat.le_of_ble_eq_true rfl) dX12_likelyFrom_93 ⟨Nat.zero_le _, Nat.zero_le _⟩ (fun r204 σ203 τ203 H locs h203 hP hS => ?_)
                 obtain ⟨rfl, f205, f206, p207, p208, p209, h203⟩ := h203
                 refine lv_istore (lv' := [(9, .int r204), (7, .int r173), (8, .int r114), (6, .int x73), (5, .int r53), (4, .int x46), (3, .int r32), (0, .ref (ad 55)), (1, .int a1), (2, .int a2)]) hx hb dX12_likelyFrom_96 hl (of_decide_eq_true rfl) rfl (fun ls hl => ?_)
                 refine lv_aload_n hx hb dX12_likelyFrom_98 rfl (lv_at hl 7 rfl) ?_
                 refine lv_iload_n hx hb dX12_likelyFrom_99 rfl (lv_at hl 6 rfl) ?_
                 exact by
                  refine lv_iconst (v := 0) hx hb dX12_likelyFrom_100 (of_decide_eq_true rfl) ?_
                  refine lv_iload hx hb dX12_likelyFrom_101 (lv_at hl 1 rfl) ?_
                  have w211 : ∀ k : Nat, k < 4 → 0 ≤ (σ203 68 k).toInt ∧ (σ203 68 k).toInt ≤ 3 := (jrr_fr (f205 68 (of_decide_eq_true rfl)) w176)
                  have z212 : (σ203 55 25).toInt = (σ172 55 25).toInt := (congrArg Int32.toInt (show σ203 55 25 = (σ172 55 25) from (f206 25 (of_decide_eq_true rfl))))
                  have z213 : (σ203 55 26).toInt = (σ172 55 26).toInt := (congrArg Int32.toInt (show σ203 55 26 = (σ172 55 26) from (f206 26 (of_decide_eq_true rfl))))
                  have z214 : (σ203 55 6).toInt = (σ 55 6).toInt := (congrArg Int32.toInt (show σ203 55 6 = (σ 55 6) from ((f206 6 (of_decide_eq_true rfl)).trans ((f175 6 (of_decide_eq_true rfl)).trans ((f154 6 (of_decide_eq_true rfl)).trans ((f55 6 (of_decide_eq_true rfl)).trans (f34 6 (of_decide_eq_true rfl))))))))
                  have w215 : ∀ k : Nat, k < 4 → 0 ≤ (σ128 68 k).toInt ∧ (σ128 68 k).toInt ≤ 3 := w163
                  have z217 : (σ128 55 27).toInt = (σ 55 27).toInt := (congrArg Int32.toInt (show σ128 55 27 = (σ 55 27) from ((f154 27 (of_decide_eq_true rfl)).trans ((f55 27 (of_decide_eq_true rfl)).trans (f34 27 (of_decide_eq_true rfl))))))
                  have k216 := jwas (by omega) (w215 0 (of_decide_eq_true rfl)) (w215 1 (of_decide_eq_true rfl)) (w215 2 (of_decide_eq_true rfl)) (w215 3 (of_decide_eq_true rfl)) k185
                  rw [← (show σ203 55 6 = σ128 55 6 from ((f206 6 (of_decide_eq_true rfl)).trans (f175 6 (of_decide_eq_true rfl))))] at k216
                  exact by
                   refine jcallVv (As := [.int r32, .int 0, .int r173]) (rest := []) ⟨hx, hb, hml, hown, hts⟩ hK hP hA hS hZ (c_X12_goesBack_0 l D cI cL ad zz hJ σ203 τ r32 (r32.toInt) rfl r173 (r173.toInt) rfl w211 (by omega) (by omega) (by omega) k216) cw_RX12_300 (jc_55 cI cL ad σ203 τ) rfl ⟨by dsimp only; omega, by dsimp only; omega⟩ rfl rfl rfl hl.1 rfl (Nat.le_of_ble_eq_true rfl) dX12_likelyFrom_103 ⟨Nat.zero_le _, Nat.zero_le _⟩ (fun σ218 τ218 H locs h218 hP hS => ?_)
                   obtain ⟨rfl, f220, f221, w222, w223, w224, h218⟩ := h218
                   obtain ⟨k226, k227, k228, k229, h218⟩ := h218
                   have p230 : jKept σ218 := jKept.fr (f220 75 (of_decide_eq_true rfl)) (f220 76 (of_decide_eq_true rfl)) (f220 77 (of_decide_eq_true rfl)) p207
                   have p231 : jTR σ218 := jTR.fr (f220 64 (of_decide_eq_true rfl)) (f220 65 (of_decide_eq_true rfl)) p208
                   have p232 : jqSt σ218 := jqSt.fr (f220 78 (of_decide_eq_true rfl)) (f221 42 (of_decide_eq_true rfl)) p209
                   have M233 : jrM σ203 → jrM σ218 := fun q => (jrEq.m (σ := σ203) (σ' := σ218) ⟨⟨(f220 56 (of_decide_eq_true rfl)), (f220 60 (of_decide_eq_true rfl)), (f220 61 (of_decide_eq_true rfl)), (f220 62 (of_decide_eq_true rfl)), (f220 64 (of_decide_eq_true rfl)), (f220 65 (of_decide_eq_true rfl))⟩, (f221 6 (of_decide_eq_true rfl)), (f221 9 (of_decide_eq_true rfl)), (f221 10 (of_decide_eq_true rfl)), (f221 12 (of_decide_eq_true rfl)), (f221 13 (of_decide_eq_true rfl)), (f221 30 (of_decide_eq_true rfl)), (f221 31 (of_decide_eq_true rfl)), (f221 42 (of_decide_eq_true rfl))⟩ (f220 78 (of_decide_eq_true rfl)) (f220 74 (of_decide_eq_true rfl)) (f220 75 (of_decide_eq_true rfl)) (f220 76 (of_decide_eq_true rfl)) (f220 77 (of_decide_eq_true rfl)) q)
                   have e234 : σ203 69 = σ172 69 := (f205 69 (of_decide_eq_true rfl))
                   have e235 : σ218 69 = σ128 69 := jback69 w177 e234 w223
                   have e236 : σ203 68 = σ172 68 := (f205 68 (of_decide_eq_true rfl))
                   have e237 : σ203 55 6 = σ128 55 6 := ((f206 6 (of_decide_eq_true rfl)).trans (f175 6 (of_decide_eq_true rfl)))
                   have w245 : ∀ k : Nat, k < 4 → 0 ≤ (σ128 68 k).toInt ∧ (σ128 68 k).toInt ≤ 3 := w163
                   have w246 : ∀ k : Nat, k < 4 → 0 ≤ (σ218 68 k).toInt ∧ (σ218 68 k).toInt ≤ 3 := w222
                   have k247 := k229
                   rw [e237] at k247
                   have D238 := jdig (w245 0 (of_decide_eq_true rfl)) (w245 1 (of_decide_eq_true rfl)) (w245 2 (of_decide_eq_true rfl)) (w245 3 (of_decide_eq_true rfl)) (w246 0 (of_decide_eq_true rfl)) (w246 1 (of_decide_eq_true rfl)) (w246 2 (of_decide_eq_true rfl)) (w246 3 (of_decide_eq_true rfl)) k185 k247
                   exact by
                    have e239 : σ218 55 27 = σ128 55 27 := Int32.toInt_inj.mp (by have h9 := D238.1; omega)
                    have z248 : (σ203 55 26).toInt = (σ172 55 26).toInt := (congrArg Int32.toInt (show σ203 55 26 = (σ172 55 26) from (f206 26 (of_decide_eq_true rfl))))
                    have z249 : (σ128 55 26).toInt = (σ 55 26).toInt := (congrArg Int32.toInt (show σ128 55 26 = (σ 55 26) from ((f154 26 (of_decide_eq_true rfl)).trans ((f55 26 (of_decide_eq_true rfl)).trans (f34 26 (of_decide_eq_true rfl))))))
                    have z250 : (σ203 55 25).toInt = (σ172 55 25).toInt := (congrArg Int32.toInt (show σ203 55 25 = (σ172 55 25) from (f206 25 (of_decide_eq_true rfl))))
                    have z251 : (σ128 55 25).toInt = (σ 55 25).toInt := (congrArg Int32.toInt (show σ128 55 25 = (σ 55 25) from ((f154 25 (of_decide_eq_true rfl)).trans ((f55 25 (of_decide_eq_true rfl)).trans (f34 25 (of_decide_eq_true rfl))))))
                    have e240 : σ218 55 26 = σ128 55 26 := Int32.toInt_inj.mp (by omega)
                    have e241 : σ218 55 25 = σ128 55 25 := Int32.toInt_inj.mp (by omega)
                    have z252 : (σ128 55 6).toInt = (σ 55 6).toInt := (congrArg Int32.toInt (show σ128 55 6 = (σ 55 6) from ((f154 6 (of_decide_eq_true rfl)).trans ((f55 6 (of_decide_eq_true rfl)).trans (f34 6 (of_decide_eq_true rfl))))))
                    have e242 : σ218 68 = σ128 68 := jback68 (nb := (σ128 55 6).toInt) (by omega) w178 e236 (fun k hk => w224 k (by rw [e237]; exact hk)) D238.2
                    exact by
                     have f243 : (∀ i : Nat, (i < 55 ∨ 55 < i) ∧ (i < 66 ∨ 66 < i) ∧ (i < 74 ∨ 78 < i) → σ218 i = σ128 i) := fun i hi0 => by
                       by_cases h8 : i = 68
                       · rw [h8]; exact e242
                       by_cases h9 : i = 69
                       · rw [h9]; exact e235
                       have hi : ((i < 55 ∨ 55 < i) ∧ (i < 66 ∨ 66 < i) ∧ (i < 74 ∨ 78 < i)) ∧ i ≠ 68 ∧ i ≠ 69 := ⟨hi0, h8, h9⟩
                       exact ((f220 i (imp_200 i hi)).trans ((f205 i (imp_201 i hi)).trans (f174 i (imp_200 i hi))))
                     have f244 : ∀ i : Nat, (i < 18 ∨ 18 < i) ∧ (i < 19 ∨ 19 < i) ∧ (i < 20 ∨ 20 < i) ∧ (i < 21 ∨ 21 < i) ∧ (i < 22 ∨ 22 < i) ∧ (i < 37 ∨ 37 < i) → σ218 55 i = σ128 55 i := fun i hi0 => by
                       by_cases h25 : i = 25
                       · rw [h25]; exact e241
                       by_cases h26 : i = 26
                       · rw [h26]; exact e240
                       by_cases h27 : i = 27
                       · rw [h27]; exact e239
                       have hi : ((i < 18 ∨ 18 < i) ∧ (i < 19 ∨ 19 < i) ∧ (i < 20 ∨ 20 < i) ∧ (i < 21 ∨ 21 < i) ∧ (i < 22 ∨ 22 < i) ∧ (i < 37 ∨ 37 < i)) ∧ i ≠ 25 ∧ i ≠ 26 ∧ i ≠ 27 := ⟨hi0, h25, h26, h27⟩
                       exact ((f221 i (imp_202 i hi)).trans ((f206 i (imp_203 i hi)).trans (f175 i (imp_202 i hi))))
                     clear k247 k229 k185
                     refine lv_iload hx hb dX12_likelyFrom_106 (lv_at hl 3 rfl) ?_
                     refine lv_if_le (tgt := 117) hx hb dX12_likelyFrom_108 (of_decide_eq_true rfl) (fun c253 => ?_) (fun c253 => ?_)
                     · have kc253 := jle c253 rfl jz_0
                       refine lv_iconst (v := 0) hx hb dX12_likelyFrom_117 (of_decide_eq_true rfl) ?_
                       refine lv_iload hx hb dX12_likelyFrom_118 (lv_at hl 2 rfl) ?_
                       refine lv_iload hx hb dX12_likelyFrom_120 (lv_at hl 0 rfl) ?_
                       refine lv_iload hx hb dX12_likelyFrom_122 (lv_at hl 4 rfl) ?_
                       refine jcallS (As := [.int r114, .int r204, .int r53]) (rest := [.int 0]) ⟨hx, hb, hml, hown, hts⟩ hK hP hA hS hZ (c_X12_mixed l D cI cL ad zz hJ σ218 τ r114 (r114.toInt) rfl r204 (r204.toInt) rfl r53 (r53.toInt) rfl) cw_RX12_304 ⟨by dsimp only; omega, by dsimp only; omega⟩ rfl rfl rfl hl.1 rfl (Nat.le_of_ble_eq_true rfl) dX12_likelyFrom_124 ⟨Nat.zero_le _, Nat.zero_le _⟩ (fun r255 σ254 τ254 H locs h254 hP hS => ?_)
                       obtain ⟨⟨rfl, rfl⟩, h254⟩ := h254
                       refine lv_aload_n hx hb dX12_likelyFrom_127 rfl (lv_at hl 7 rfl) ?_
                       refine va_get (D := D) hx hb hts inlX12 hown hK hP 55 (jc_55 cI cL ad σ218 τ) rfl 13 (of_decide_eq_true rfl) (hts _ kw_15_14) (fun _ h9 => h9) rfl dX12_likelyFrom_128 ?_
                       have m256 : σ218 55 13 = (σ 55 13) := ((f244 13 (of_decide_eq_true rfl)).trans ((f154 13 (of_decide_eq_true rfl)).trans ((f55 13 (of_decide_eq_true rfl)).trans (f34 13 (of_decide_eq_true rfl)))))
                       refine jtopr m256 ?_
                       refine jcallS (As := [.int 0, .int r255, .int (σ 55 13)]) (rest := []) ⟨hx, hb, hml, hown, hts⟩ hK hP hA hS hZ (c_X12_mixed l D cI cL ad zz hJ σ218 τ 0 (0) jz_0 r255 (r255.toInt) rfl (σ 55 13) ((σ 55 13).toInt) rfl) cw_RX12_304 ⟨by dsimp only; omega, by dsimp only; omega⟩ rfl rfl rfl hl.1 rfl (Nat.le_of_ble_eq_true rfl) dX12_likelyFrom_131 ⟨Nat.zero_le _, Nat.zero_le _⟩ (fun r258 σ257 τ257 H locs h257 hP hS => ?_)
                       obtain ⟨⟨rfl, rfl⟩, h257⟩ := h257
                       exact hret r258 σ218 τ _ _ _ _ rfl ⟨rfl, (fun i hi => ((f243 i hi).trans ((f153 i hi).trans ((f54 i (imp_204 i hi)).trans (f33 i hi))))), (fun i hi => ((f244 i hi).trans ((f154 i hi).trans ((f55 i (imp_205 i hi)).trans (f34 i hi))))), p230, p231, p232, trivial⟩ hP hS dX12_likelyFrom_134
                     · have kc253 := jnle c253 rfl jz_0
                       refine lv_ldcw (v := 1000000) hx hb hown (hts _ kw_37_13) dX12_likelyFrom_111 ?_
                       refine lv_goto (tgt := 118) hx hb dX12_likelyFrom_114 (of_decide_eq_true rfl) ?_
                       refine lv_iload hx hb dX12_likelyFrom_118 (lv_at hl 2 rfl) ?_
                       refine lv_iload hx hb dX12_likelyFrom_120 (lv_at hl 0 rfl) ?_
                       refine lv_iload hx hb dX12_likelyFrom_122 (lv_at hl 4 rfl) ?_
                       refine jcallS (As := [.int r114, .int r204, .int r53]) (rest := [.int 1000000]) ⟨hx, hb, hml, hown, hts⟩ hK hP hA hS hZ (c_X12_mixed l D cI cL ad zz hJ σ218 τ r114 (r114.toInt) rfl r204 (r204.toInt) rfl r53 (r53.toInt) rfl) cw_RX12_304 ⟨by dsimp only; omega, by dsimp only; omega⟩ rfl rfl rfl hl.1 rfl (Nat.le_of_ble_eq_true rfl) dX12_likelyFrom_124 ⟨Nat.zero_le _, Nat.zero_le _⟩ (fun r260 σ259 τ259 H locs h259 hP hS => ?_)
                       obtain ⟨⟨rfl, rfl⟩, h259⟩ := h259
                       refine lv_aload_n hx hb dX12_likelyFrom_127 rfl (lv_at hl 7 rfl) ?_
                       refine va_get (D := D) hx hb hts inlX12 hown hK hP 55 (jc_55 cI cL ad σ218 τ) rfl 13 (of_decide_eq_true rfl) (hts _ kw_15_14) (fun _ h9 => h9) rfl dX12_likelyFrom_128 ?_
                       have m261 : σ218 55 13 = (σ 55 13) := ((f244 13 (of_decide_eq_true rfl)).trans ((f154 13 (of_decide_eq_true rfl)).trans ((f55 13 (of_decide_eq_true rfl)).trans (f34 13 (of_decide_eq_true rfl)))))
                       refine jtopr m261 ?_
                       refine jcallS (As := [.int 1000000, .int r260, .int (σ 55 13)]) (rest := []) ⟨hx, hb, hml, hown, hts⟩ hK hP hA hS hZ (c_X12_mixed l D cI cL ad zz hJ σ218 τ 1000000 (1000000) jz_1000000 r260 (r260.toInt) rfl (σ 55 13) ((σ 55 13).toInt) rfl) cw_RX12_304 ⟨by dsimp only; omega, by dsimp only; omega⟩ rfl rfl rfl hl.1 rfl (Nat.le_of_ble_eq_true rfl) dX12_likelyFrom_131 ⟨Nat.zero_le _, Nat.zero_le _⟩ (fun r263 σ262 τ262 H locs h262 hP hS => ?_)
                       obtain ⟨⟨rfl, rfl⟩, h262⟩ := h262
                       exact hret r263 σ218 τ _ _ _ _ rfl ⟨rfl, (fun i hi => ((f243 i hi).trans ((f153 i hi).trans ((f54 i (imp_204 i hi)).trans (f33 i hi))))), (fun i hi => ((f244 i hi).trans ((f154 i hi).trans ((f55 i (imp_205 i hi)).trans (f34 i hi))))), p230, p231, p232, trivial⟩ hP hS dX12_likelyFrom_134
set_option maxHeartbeats 4000000 in
set_option maxRecDepth 100000 in
theorem c_X12_likelies_lf_z (l : Launch) (D : va_G) (cI cL : ClassId) (ad zz : Nat → Nat) (hJ : jD ad) (σ : Nat → Nat → Int32) (τ : Nat → Nat → Int64) (a1 : Int32) (A1 : Int) (t1 : a1.toInt = A1) (a2 : Int32) (A2 : Int) (t2 : a2.toInt = A2) (hI101 : jI101 σ) (hI102 : jI102 σ) (hI103 : jI103 σ) (hI104 : jI104 σ) (hI105 : jI105 σ) (hI106 : jI106 σ) (hI120 : jI120 σ) (hs_jKept : jKept σ) (hs_jTR : jTR σ) (hs_jqSt : jqSt σ) (hp0 : 0 ≤ A1 ∧ A1 ≤ 19) (hp1 : (σ 55 12).toInt - (σ 55 26).toInt ≤ 8) (hp2 : (σ 55 12).toInt - (σ 55 26).toInt ≤ (((0) : Nat) : Int)) : jM l yX12_likelyFrom cX12_likelyFrom 10 (some .int) ({ frames := (106 + 4 * (0)), cells := 0, slots := 0, locals := (5261 + 240 * (0)) }) D cI cL ad zz [.ref (ad 55), .int a1, .int a2] σ τ (fun r σ' τ' => τ = τ' ∧ (∀ i : Nat, (i < 55 ∨ 55 < i) ∧ (i < 66 ∨ 66 < i) ∧ (i < 74 ∨ 78 < i) → σ' i = σ i) ∧ (∀ k : Nat, (k < 18 ∨ 18 < k) ∧ (k < 19 ∨ 19 < k) ∧ (k < 20 ∨ 20 < k) ∧ (k < 21 ∨ 21 < k) ∧ (k < 22 ∨ 22 < k) ∧ (k < 37 ∨ 37 < k) → σ' 55 k = σ 55 k) ∧ (jKept σ') ∧ (jTR σ') ∧ (jqSt σ') ∧ True) := by
  refine jM.of hJ (by decide +kernel) (nt := .int) rfl (Nat.le_of_ble_eq_true rfl) ?_
  intro p e s m args below meth c Q ls hC hret hl hP
  obtain ⟨hx, hb, hr, hml, hown, hts, hK, -, hlocks, hZ⟩ := hC
  have hown : s.vm.findClass RX12 = some m.cls := hown
  have hS : va_S (jA ad) s.heap s.heap [] := va_S.rf
  have hA : ∀ q, jA ad q → jA ad q := fun _ h => h
  have hl : lv_has ls 10 [(0, .ref (ad 55)), (1, .int a1), (2, .int a2)] := hl
  have g1 := jrg t1
  have g2 := jrg t2
  obtain ⟨i1, w2, w3⟩ : (0 ≤ (σ 55 6).toInt ∧ (σ 55 6).toInt ≤ 4) ∧ (∀ k : Nat, k < 4 → 0 ≤ (σ 60 k).toInt ∧ (σ 60 k).toInt ≤ 50) ∧ (∀ k : Nat, k < 4 → 0 ≤ (σ 61 k).toInt ∧ (σ 61 k).toInt ≤ 20) := id hI102
  obtain ⟨i4, i5, i6, w7, w8⟩ : (1 ≤ (σ 55 10).toInt ∧ (σ 55 10).toInt ≤ 8) ∧ (1 ≤ (σ 55 12).toInt ∧ (σ 55 12).toInt ≤ 12) ∧ (0 ≤ (σ 55 13).toInt ∧ (σ 55 13).toInt ≤ 999) ∧ (∀ k : Nat, k < 8 → 0 ≤ (σ 62 k).toInt ∧ (σ 62 k).toInt ≤ 3) ∧ (∀ k : Nat, k < 8 → 0 ≤ (σ 67 k).toInt ∧ (σ 67 k).toInt ≤ 3) := id hI104
  obtain ⟨i9, i10, i11, i12, i13, w14⟩ : (0 ≤ (σ 55 25).toInt) ∧ ((σ 55 25).toInt ≤ (σ 55 10).toInt) ∧ (0 ≤ (σ 55 26).toInt) ∧ ((σ 55 26).toInt ≤ (σ 55 12).toInt) ∧ ((-1) ≤ (σ 55 27).toInt ∧ (σ 55 27).toInt ≤ 3) ∧ (∀ k : Nat, k < 4 → 0 ≤ (σ 68 k).toInt ∧ (σ 68 k).toInt ≤ 3) := id hI120
  refine lv_aload_n hx hb dX12_likelyFrom_0 rfl (lv_at hl 0 rfl) ?_
  refine jcallV (As := []) (rest := []) ⟨hx, hb, hml, hown, hts⟩ hK hP hA hS hZ (c_X12_isEnded l D cI cL ad zz hJ σ τ hI102 hI104 hI120) cw_RX12_307 (jc_55 cI cL ad σ τ) rfl ⟨by dsimp only; omega, by dsimp only; omega⟩ rfl rfl rfl hl.1 rfl (Nat.le_of_ble_eq_true rfl) dX12_likelyFrom_1 ⟨Nat.zero_le _, Nat.zero_le _⟩ (fun r16 σ15 τ15 H locs h15 hP hS => ?_)
  obtain ⟨⟨rfl, rfl⟩, h15⟩ := h15
  rcases h15 with h17 | h18
  · obtain ⟨q20, k19⟩ := h17
    have q20 := q20.symm
    subst q20
    refine lv_if_eq (tgt := 19) hx hb dX12_likelyFrom_4 (of_decide_eq_true rfl) (fun c => absurd c (of_decide_eq_true rfl)) (fun _ => ?_)
    refine lv_iload_n hx hb dX12_likelyFrom_7 rfl (lv_at hl 2 rfl) ?_
    refine lv_if_le (tgt := 17) hx hb dX12_likelyFrom_8 (of_decide_eq_true rfl) (fun c21 => ?_) (fun c21 => ?_)
    · have kc21 := jle c21 t2 jz_0
      refine lv_iconst (v := 0) hx hb dX12_likelyFrom_17 (of_decide_eq_true rfl) ?_
      exact hret 0 σ τ _ _ _ _ rfl ⟨rfl, (fun _ _ => rfl), (fun _ _ => rfl), hs_jKept, hs_jTR, hs_jqSt, trivial⟩ hP hS dX12_likelyFrom_18
    · have kc21 := jnle c21 t2 jz_0
      refine lv_ldcw (v := 1000000) hx hb hown (hts _ kw_37_13) dX12_likelyFrom_11 ?_
      refine lv_goto (tgt := 18) hx hb dX12_likelyFrom_14 (of_decide_eq_true rfl) ?_
      exact hret 1000000 σ τ _ _ _ _ rfl ⟨rfl, (fun _ _ => rfl), (fun _ _ => rfl), hs_jKept, hs_jTR, hs_jqSt, trivial⟩ hP hS dX12_likelyFrom_18
  · obtain ⟨q25, k22, k23, k24⟩ := h18
    exact absurd (by omega : False) id
set_option maxHeartbeats 4000000 in
set_option maxRecDepth 100000 in
theorem c_X12_likelies (l : Launch) (D : va_G) (cI cL : ClassId) (ad zz : Nat → Nat) (hJ : jD ad) (n : Nat) : (∀ (σ : Nat → Nat → Int32) (τ : Nat → Nat → Int64) (a1 : Int32) (A1 : Int) (t1 : a1.toInt = A1) (a2 : Int32) (A2 : Int) (t2 : a2.toInt = A2) (hI101 : jI101 σ) (hI102 : jI102 σ) (hI103 : jI103 σ) (hI104 : jI104 σ) (hI105 : jI105 σ) (hI106 : jI106 σ) (hI120 : jI120 σ) (hs_jKept : jKept σ) (hs_jTR : jTR σ) (hs_jqSt : jqSt σ) (hp0 : 0 ≤ A1 ∧ A1 ≤ 19) (hp1 : (σ 55 12).toInt - (σ 55 26).toInt ≤ 8) (hp2 : (σ 55 12).toInt - (σ 55 26).toInt ≤ (((n) : Nat) : Int)), jM l yX12_likelyFrom cX12_likelyFrom 10 (some .int) ({ frames := (106 + 4 * (n)), cells := 0, slots := 0, locals := (5261 + 240 * (n)) }) D cI cL ad zz [.ref (ad 55), .int a1, .int a2] σ τ (fun r σ' τ' => τ = τ' ∧ (∀ i : Nat, (i < 55 ∨ 55 < i) ∧ (i < 66 ∨ 66 < i) ∧ (i < 74 ∨ 78 < i) → σ' i = σ i) ∧ (∀ k : Nat, (k < 18 ∨ 18 < k) ∧ (k < 19 ∨ 19 < k) ∧ (k < 20 ∨ 20 < k) ∧ (k < 21 ∨ 21 < k) ∧ (k < 22 ∨ 22 < k) ∧ (k < 37 ∨ 37 < k) → σ' 55 k = σ 55 k) ∧ (jKept σ') ∧ (jTR σ') ∧ (jqSt σ') ∧ True)) := by
  induction n with
  | zero =>
    have h_lf := c_X12_likelies_lf_z l D cI cL ad zz hJ
    exact h_lf
  | succ n ih =>
    have g_lf := ih
    have h_lf := c_X12_likelies_lf_g l D cI cL ad zz hJ n g_lf
    exact h_lf
