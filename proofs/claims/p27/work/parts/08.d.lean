set_option maxHeartbeats 4000000 in
set_option maxRecDepth 100000 in
theorem c_X12_putsOn (l : Launch) (D : va_G) (cI cL : ClassId) (ad zz : Nat → Nat) (hJ : jD ad) (σ : Nat → Nat → Int32) (τ : Nat → Nat → Int64) (B0 : Int32) (hB0 : jmb σ B0 = 1) (a1 : Int32) (A1 : Int) (t1 : a1.toInt = A1) (hI101 : jI101 σ) (hI102 : jI102 σ) (hI103 : jI103 σ) (hI104 : jI104 σ) (hI105 : jI105 σ) (hI106 : jI106 σ) (hI120 : jI120 σ) (hs_jKept : jKept σ) (hs_jTR : jTR σ) (hs_jqSt : jqSt σ) (hp0 : 0 ≤ B0.toInt ∧ B0.toInt < (σ 55 6).toInt) (hp1 : 0 ≤ A1 ∧ A1 ≤ 19) (hp2 : (σ 55 25).toInt < (σ 55 10).toInt) (hp3 : (σ 55 26).toInt < (σ 55 12).toInt) (hp4 : ((σ 70 a1.toNatClampNeg).toInt ≠ 2) ∨ ((σ 55 12).toInt - (σ 55 26).toInt ≤ 8)) : jM l yX12_putsOn cX12_putsOn 7 (some .int) ({ frames := 103, cells := 0, slots := 0, locals := 5061 }) D cI cL ad zz [.ref (ad 55), .int a1] σ τ (fun r σ' τ' => τ = τ' ∧ (∀ i : Nat, (i < 55 ∨ 55 < i) ∧ (i < 66 ∨ 66 < i) ∧ (i < 74 ∨ 78 < i) → σ' i = σ i) ∧ (∀ k : Nat, (k < 18 ∨ 18 < k) ∧ (k < 19 ∨ 19 < k) ∧ (k < 20 ∨ 20 < k) ∧ (k < 21 ∨ 21 < k) ∧ (k < 22 ∨ 22 < k) ∧ (k < 37 ∨ 37 < k) → σ' 55 k = σ 55 k) ∧ (jKept σ') ∧ (jTR σ') ∧ (jqSt σ') ∧ ((jrP σ → jrM σ → (r : Int32).toInt = jrPv σ (A1) ∧ jrM σ')) ∧ ((True ∧ (0 ≤ r.toInt ∧ r.toInt ≤ 3)))) := by
  refine jM.of hJ (by decide +kernel) (nt := .int) rfl (Nat.le_of_ble_eq_true rfl) ?_
  intro p e s m args below meth c Q ls hC hret hl hP
  obtain ⟨hx, hb, hr, hml, hown, hts, hK, -, hlocks, hZ⟩ := hC
  have hown : s.vm.findClass RX12 = some m.cls := hown
  have hS : va_S (jA ad) s.heap s.heap [] := va_S.rf
  have hA : ∀ q, jA ad q → jA ad q := fun _ h => h
  have hl : lv_has ls 7 [(0, .ref (ad 55)), (1, .int a1)] := hl
  have g1 := jrg t1
  obtain ⟨i1, w2, w3⟩ : (0 ≤ (σ 55 6).toInt ∧ (σ 55 6).toInt ≤ 4) ∧ (∀ k : Nat, k < 4 → 0 ≤ (σ 60 k).toInt ∧ (σ 60 k).toInt ≤ 50) ∧ (∀ k : Nat, k < 4 → 0 ≤ (σ 61 k).toInt ∧ (σ 61 k).toInt ≤ 20) := id hI102
  obtain ⟨i4, i5, i6, w7, w8⟩ : (1 ≤ (σ 55 10).toInt ∧ (σ 55 10).toInt ≤ 8) ∧ (1 ≤ (σ 55 12).toInt ∧ (σ 55 12).toInt ≤ 12) ∧ (0 ≤ (σ 55 13).toInt ∧ (σ 55 13).toInt ≤ 999) ∧ (∀ k : Nat, k < 8 → 0 ≤ (σ 62 k).toInt ∧ (σ 62 k).toInt ≤ 3) ∧ (∀ k : Nat, k < 8 → 0 ≤ (σ 67 k).toInt ∧ (σ 67 k).toInt ≤ 3) := id hI104
  obtain ⟨i9, w10⟩ : (0 ≤ (σ 55 15).toInt ∧ (σ 55 15).toInt ≤ 80) ∧ (∀ k : Nat, k < 2 → (-1) ≤ (σ 65 k).toInt ∧ (σ 65 k).toInt ≤ 80) := id hI105
  obtain ⟨i11, w12, w13, w14⟩ : (0 ≤ (σ 55 32).toInt ∧ (σ 55 32).toInt ≤ 20) ∧ (∀ k : Nat, k < 20 → 0 ≤ (σ 70 k).toInt ∧ (σ 70 k).toInt ≤ 6) ∧ (∀ k : Nat, k < 20 → 0 ≤ (σ 71 k).toInt ∧ (σ 71 k).toInt ≤ 8) ∧ (∀ k : Nat, k < 160 → 0 ≤ (σ 72 k).toInt ∧ (σ 72 k).toInt ≤ 3) := id hI106
  obtain ⟨i15, i16, i17, i18, i19, w20⟩ : (0 ≤ (σ 55 25).toInt) ∧ ((σ 55 25).toInt ≤ (σ 55 10).toInt) ∧ (0 ≤ (σ 55 26).toInt) ∧ ((σ 55 26).toInt ≤ (σ 55 12).toInt) ∧ ((-1) ≤ (σ 55 27).toInt ∧ (σ 55 27).toInt ≤ 3) ∧ (∀ k : Nat, k < 4 → 0 ≤ (σ 68 k).toInt ∧ (σ 68 k).toInt ≤ 3) := id hI120
  refine lv_aload_n hx hb dX12_putsOn_0 rfl (lv_at hl 0 rfl) ?_
  refine va_get (D := D) hx hb hts inlX12 hown hK hP 55 (jc_55 cI cL ad σ τ) rfl 33 (of_decide_eq_true rfl) (hts _ kw_7_18) (fun _ h9 => h9) rfl dX12_putsOn_1 ?_
  refine lv_iload_n hx hb dX12_putsOn_4 rfl (lv_at hl 1 rfl) ?_
  exact by
   refine jald hx hb hK hP (jc_70 cI cL ad σ τ) (jin t1 (by omega) (by omega)) dX12_putsOn_5 ?_
   have g21 := w12 _ (jnat (x := a1) t1 (n := 20) (by omega) (of_decide_eq_true rfl))
   refine jtopr (y := (σ 70 a1.toNatClampNeg)) rfl ?_
   refine lv_iconst (v := 1) hx hb dX12_putsOn_6 (of_decide_eq_true rfl) ?_
   refine lv_icmp_ne (tgt := 17) hx hb dX12_putsOn_7 (of_decide_eq_true rfl) (fun c22 => ?_) (fun c22 => ?_)
   · have kc22 := jne c22 rfl jz_1
     refine lv_aload_n hx hb dX12_putsOn_17 rfl (lv_at hl 0 rfl) ?_
     refine va_get (D := D) hx hb hts inlX12 hown hK hP 55 (jc_55 cI cL ad σ τ) rfl 33 (of_decide_eq_true rfl) (hts _ kw_7_18) (fun _ h9 => h9) rfl dX12_putsOn_18 ?_
     refine lv_iload_n hx hb dX12_putsOn_21 rfl (lv_at hl 1 rfl) ?_
     exact by
      refine jald hx hb hK hP (jc_70 cI cL ad σ τ) (jin t1 (by omega) (by omega)) dX12_putsOn_22 ?_
      have g23 := w12 _ (jnat (x := a1) t1 (n := 20) (by omega) (of_decide_eq_true rfl))
      refine jtopr (y := (σ 70 a1.toNatClampNeg)) rfl ?_
      refine lv_iconst (v := 4) hx hb dX12_putsOn_23 (of_decide_eq_true rfl) ?_
      refine lv_icmp_ne (tgt := 86) hx hb dX12_putsOn_24 (of_decide_eq_true rfl) (fun c24 => ?_) (fun c24 => ?_)
      · have kc24 := jne c24 rfl jz_4
        refine lv_aload_n hx hb dX12_putsOn_86 rfl (lv_at hl 0 rfl) ?_
        refine va_get (D := D) hx hb hts inlX12 hown hK hP 55 (jc_55 cI cL ad σ τ) rfl 33 (of_decide_eq_true rfl) (hts _ kw_7_18) (fun _ h9 => h9) rfl dX12_putsOn_87 ?_
        refine lv_iload_n hx hb dX12_putsOn_90 rfl (lv_at hl 1 rfl) ?_
        exact by
         refine jald hx hb hK hP (jc_70 cI cL ad σ τ) (jin t1 (by omega) (by omega)) dX12_putsOn_91 ?_
         refine jtopr (y := (σ 70 a1.toNatClampNeg)) rfl ?_
         refine lv_iconst (v := 2) hx hb dX12_putsOn_92 (of_decide_eq_true rfl) ?_
         refine lv_icmp_ne (tgt := 106) hx hb dX12_putsOn_93 (of_decide_eq_true rfl) (fun c25 => ?_) (fun c25 => ?_)
         · have kc25 := jne c25 rfl jz_2
           refine lv_iconst (v := (-1)) hx hb dX12_putsOn_106 (of_decide_eq_true rfl) ?_
           refine lv_istore_n (lv' := [(2, .int (-1)), (0, .ref (ad 55)), (1, .int a1)]) hx hb dX12_putsOn_107 rfl hl (of_decide_eq_true rfl) rfl (fun ls hl => ?_)
           refine lv_iconst (v := 0) hx hb dX12_putsOn_108 (of_decide_eq_true rfl) ?_
           refine lv_istore_n (lv' := [(3, .int 0), (2, .int (-1)), (0, .ref (ad 55)), (1, .int a1)]) hx hb dX12_putsOn_109 rfl hl (of_decide_eq_true rfl) rfl (fun ls hl => ?_)
           refine lv_iconst (v := 0) hx hb dX12_putsOn_110 (of_decide_eq_true rfl) ?_
           refine lv_istore (lv' := [(4, .int 0), (3, .int 0), (2, .int (-1)), (0, .ref (ad 55)), (1, .int a1)]) hx hb dX12_putsOn_111 hl (of_decide_eq_true rfl) rfl (fun ls hl => ?_)
           have lp26 : ∀ (n27 : Nat) (x28 : Int32) (x29 : Int32) (x30 : Int32) (σ33 : Nat → Nat → Int32) (H : Heap) (locs : List Loc) (ls : Array Slot), (-x30.toInt + 4 : Int) < n27 → (-1) ≤ x28.toInt → x28.toInt ≤ 3 → 0 ≤ x30.toInt → x30.toInt ≤ 4 → ((0 ≤ x28.toInt) ∨ (x28.toInt = (-1) ∧ x30.toInt ≤ B0.toInt)) → (∀ i : Nat, (i < 55 ∨ 55 < i) ∧ (i < 66 ∨ 66 < i) → σ33 i = σ i) → (∀ k : Nat, (k < 18 ∨ 18 < k) ∧ (k < 19 ∨ 19 < k) ∧ (k < 20 ∨ 20 < k) ∧ (k < 21 ∨ 21 < k) ∧ (k < 22 ∨ 22 < k) → σ33 55 k = σ 55 k) → ((jrP σ → jrM σ → jrGt σ (A1) (x30 : Int32).toInt (x28 : Int32).toInt (x29 : Int32).toInt ∧ jrM σ33)) → jH D cI cL ad σ33 τ H → va_S (jA ad) s.heap H locs → lv_has ls 7 [(4, .int x30), (3, .int x29), (2, .int x28), (0, .ref (ad 55)), (1, .int a1)] → W p l e ({ frames := 103, cells := 0, slots := 0, locals := 5061 }) s m args below meth c H locs 0 0 Q (F0 m 113 ls []) := by
             intro n27
             induction n27 with
             | zero => intro x28 x29 x30 σ33 H locs ls h35 h36 h37 h38 h39 h40; have gx29 := jrg (rfl : x29.toInt = x29.toInt); exact absurd h35 (by omega)
             | succ n27 ihlp26 =>
               intro x28 x29 x30 σ33 H locs ls h35 h36 h37 h38 h39 h40 f41 f42 q43 hP hS hl
               exact by
                have gx29 := jrg (rfl : x29.toInt = x29.toInt)
                have H47 : σ33 55 27 = σ 55 27 := (f42 27 (of_decide_eq_true rfl))
                have H44 : jrP σ → jrP σ33 := fun pr => ((jrEq.v (σ := σ) (σ' := σ33) ⟨⟨(f41 56 (of_decide_eq_true rfl)), (f41 60 (of_decide_eq_true rfl)), (f41 61 (of_decide_eq_true rfl)), (f41 62 (of_decide_eq_true rfl)), (f41 64 (of_decide_eq_true rfl)), (f41 65 (of_decide_eq_true rfl))⟩, (f42 6 (of_decide_eq_true rfl)), (f42 9 (of_decide_eq_true rfl)), (f42 10 (of_decide_eq_true rfl)), (f42 12 (of_decide_eq_true rfl)), (f42 13 (of_decide_eq_true rfl)), (f42 30 (of_decide_eq_true rfl)), (f42 31 (of_decide_eq_true rfl)), (f42 42 (of_decide_eq_true rfl))⟩ (f41 68 (of_decide_eq_true rfl)) (f41 69 (of_decide_eq_true rfl)) (f42 25 (of_decide_eq_true rfl)) (f42 26 (of_decide_eq_true rfl)) (f42 27 (of_decide_eq_true rfl))).2 pr)
                have H45 : jrLf σ33 = jrLf σ := by unfold jrLf; rw [(show jrEq σ σ33 from ⟨⟨(f41 56 (of_decide_eq_true rfl)), (f41 60 (of_decide_eq_true rfl)), (f41 61 (of_decide_eq_true rfl)), (f41 62 (of_decide_eq_true rfl)), (f41 64 (of_decide_eq_true rfl)), (f41 65 (of_decide_eq_true rfl))⟩, (f42 6 (of_decide_eq_true rfl)), (f42 9 (of_decide_eq_true rfl)), (f42 10 (of_decide_eq_true rfl)), (f42 12 (of_decide_eq_true rfl)), (f42 13 (of_decide_eq_true rfl)), (f42 30 (of_decide_eq_true rfl)), (f42 31 (of_decide_eq_true rfl)), (f42 42 (of_decide_eq_true rfl))⟩).ov, show σ33 55 6 = σ 55 6 from (f42 6 (of_decide_eq_true rfl)), show jrW σ33 = jrW σ from by funext c; unfold jrW; rw [show σ33 69 = σ 69 from (f41 69 (of_decide_eq_true rfl))]]
                have H46 : jrRg σ33 = jrRg σ := jrEq.rg (σ := σ) (σ' := σ33) ⟨⟨(f41 56 (of_decide_eq_true rfl)), (f41 60 (of_decide_eq_true rfl)), (f41 61 (of_decide_eq_true rfl)), (f41 62 (of_decide_eq_true rfl)), (f41 64 (of_decide_eq_true rfl)), (f41 65 (of_decide_eq_true rfl))⟩, (f42 6 (of_decide_eq_true rfl)), (f42 9 (of_decide_eq_true rfl)), (f42 10 (of_decide_eq_true rfl)), (f42 12 (of_decide_eq_true rfl)), (f42 13 (of_decide_eq_true rfl)), (f42 30 (of_decide_eq_true rfl)), (f42 31 (of_decide_eq_true rfl)), (f42 42 (of_decide_eq_true rfl))⟩ (f41 68 (of_decide_eq_true rfl)) (f41 69 (of_decide_eq_true rfl)) (f42 25 (of_decide_eq_true rfl)) (f42 26 (of_decide_eq_true rfl)) (f41 70 (of_decide_eq_true rfl)) (f41 73 (of_decide_eq_true rfl))
                have z48 : (σ33 55 25).toInt = (σ 55 25).toInt := (congrArg Int32.toInt (show σ33 55 25 = (σ 55 25) from (f42 25 (of_decide_eq_true rfl))))
                have z49 : (σ33 55 26).toInt = (σ 55 26).toInt := (congrArg Int32.toInt (show σ33 55 26 = (σ 55 26) from (f42 26 (of_decide_eq_true rfl))))
                have z50 : (σ33 55 27).toInt = (σ 55 27).toInt := (congrArg Int32.toInt (show σ33 55 27 = (σ 55 27) from (f42 27 (of_decide_eq_true rfl))))
                have z51 : (σ33 55 6).toInt = (σ 55 6).toInt := (congrArg Int32.toInt (show σ33 55 6 = (σ 55 6) from (f42 6 (of_decide_eq_true rfl))))
                refine lv_iload hx hb dX12_putsOn_113 (lv_at hl 0 rfl) ?_
                refine lv_aload_n hx hb dX12_putsOn_115 rfl (lv_at hl 3 rfl) ?_
                refine va_get (D := D) hx hb hts inlX12 hown hK hP 55 (jc_55 cI cL ad σ33 τ) rfl 6 (of_decide_eq_true rfl) (hts _ kw_9_13) (fun _ h9 => h9) rfl dX12_putsOn_116 ?_
                have m52 : σ33 55 6 = (σ 55 6) := (f42 6 (of_decide_eq_true rfl))
                refine jtopr m52 ?_
                refine lv_icmp_ge (tgt := 255) hx hb dX12_putsOn_119 (of_decide_eq_true rfl) (fun c53 => ?_) (fun c53 => ?_)
                · have kc53 := jle c53 rfl rfl
                  refine lv_iload_n hx hb dX12_putsOn_255 rfl (lv_at hl 2 rfl) ?_
                  have p54 : jKept σ33 := jKept.fr (f41 75 (of_decide_eq_true rfl)) (f41 76 (of_decide_eq_true rfl)) (f41 77 (of_decide_eq_true rfl)) hs_jKept
                  have p55 : jTR σ33 := jTR.fr (f41 64 (of_decide_eq_true rfl)) (f41 65 (of_decide_eq_true rfl)) hs_jTR
                  have p56 : jqSt σ33 := jqSt.fr (f41 78 (of_decide_eq_true rfl)) (f42 42 (of_decide_eq_true rfl)) hs_jqSt
                  have z57 : (σ33 55 37).toInt = (σ 55 37).toInt := (congrArg Int32.toInt (show σ33 55 37 = (σ 55 37) from (f42 37 (of_decide_eq_true rfl))))
                  exact by exact hret x28 σ33 τ _ _ _ _ rfl ⟨rfl, (fun i hi => (f41 i (imp_204 i hi))), (fun i hi => (f42 i (imp_205 i hi))), p54, p55, p56, (fun pr mm => ⟨(q43 pr mm).1.fin (by omega) (by omega) (by omega) (by rw [(show (σ 70 (A1).toNat).toInt = (σ 70 a1.toNatClampNeg).toInt from by rw [jnc (show a1.toInt = A1 from t1)])]; omega), (q43 pr mm).2⟩), ⟨trivial, (by omega)⟩⟩ hP hS dX12_putsOn_256
                · have kc53 := jnle c53 rfl rfl
                  refine lv_aload_n hx hb dX12_putsOn_122 rfl (lv_at hl 3 rfl) ?_
                  refine lv_iload hx hb dX12_putsOn_123 (lv_at hl 0 rfl) ?_
                  exact by
                   refine jcallV (As := [.int x30]) (rest := []) ⟨hx, hb, hml, hown, hts⟩ hK hP hA hS hZ (c_X12_mayBowl l D cI cL ad zz hJ σ33 τ x30 (x30.toInt) rfl (by omega)) cw_RX12_249 (jc_55 cI cL ad σ33 τ) rfl ⟨Nat.le_of_ble_eq_true rfl, Nat.le_of_ble_eq_true rfl⟩ rfl rfl rfl hl.1 rfl (Nat.le_of_ble_eq_true rfl) dX12_putsOn_125 ⟨Nat.zero_le _, Nat.zero_le _⟩ (fun r59 σ58 τ58 H locs h58 hP hS => ?_)
                   obtain ⟨⟨rfl, rfl⟩, h58⟩ := h58
                   rcases h58 with h60 | h61
                   · obtain ⟨q63, k62⟩ := h60
                     have q63 := q63.symm
                     subst q63
                     refine lv_if_ne (tgt := 134) hx hb dX12_putsOn_128 (of_decide_eq_true rfl) (fun _ => ?_) (fun c => absurd c (of_decide_eq_true rfl))
                     refine lv_aload_n hx hb dX12_putsOn_134 rfl (lv_at hl 3 rfl) ?_
                     refine va_get (D := D) hx hb hts inlX12 hown hK hP 55 (jc_55 cI cL ad σ33 τ) rfl 33 (of_decide_eq_true rfl) (hts _ kw_7_18) (fun _ h9 => h9) rfl dX12_putsOn_135 ?_
                     refine lv_iload_n hx hb dX12_putsOn_138 rfl (lv_at hl 4 rfl) ?_
                     exact by
                      refine jald hx hb hK hP (jc_70 cI cL ad σ33 τ) (jin t1 (by omega) (by omega)) dX12_putsOn_139 ?_
                      refine jtopr (y := (σ 70 a1.toNatClampNeg)) (by rw [f41 70 (of_decide_eq_true rfl)]) ?_
                      refine lv_bipush (v := 6) hx hb dX12_putsOn_140 (of_decide_eq_true rfl) ?_
                      refine lv_icmp_ne (tgt := 149) hx hb dX12_putsOn_142 (of_decide_eq_true rfl) (fun c64 => ?_) (fun c64 => ?_)
                      · have kc64 := jne c64 rfl jz_6
                        refine lv_iconst (v := 0) hx hb dX12_putsOn_149 (of_decide_eq_true rfl) ?_
                        refine lv_istore (lv' := [(5, .int 0), (4, .int x30), (3, .int x29), (2, .int x28), (0, .ref (ad 55)), (1, .int a1)]) hx hb dX12_putsOn_150 hl (of_decide_eq_true rfl) rfl (fun ls hl => ?_)
                        refine lv_iload hx hb dX12_putsOn_152 (lv_at hl 0 rfl) ?_
                        refine lv_if_ne (tgt := 167) hx hb dX12_putsOn_154 (of_decide_eq_true rfl) (fun c => absurd (of_decide_eq_true rfl) c) (fun _ => ?_)
                        exact by
                         refine lv_aload_n hx hb dX12_putsOn_157 rfl (lv_at hl 4 rfl) ?_
                         refine lv_iload_n hx hb dX12_putsOn_158 rfl (lv_at hl 5 rfl) ?_
                         refine lv_iload hx hb dX12_putsOn_159 (lv_at hl 1 rfl) ?_
                         have I65 : jI101 σ33 := jI101_fr (f42 4 (of_decide_eq_true rfl)) (f42 5 (of_decide_eq_true rfl)) (f41 56 (of_decide_eq_true rfl)) (f41 57 (of_decide_eq_true rfl)) (f41 58 (of_decide_eq_true rfl)) (f41 59 (of_decide_eq_true rfl)) hI101
                         have I66 : jI102 σ33 := jI102_fr (f42 6 (of_decide_eq_true rfl)) (f41 60 (of_decide_eq_true rfl)) (f41 61 (of_decide_eq_true rfl)) hI102
                         have I67 : jI103 σ33 := jI103_fr (f42 9 (of_decide_eq_true rfl)) hI103
                         have I68 : jI104 σ33 := jI104_fr (f42 10 (of_decide_eq_true rfl)) (f42 12 (of_decide_eq_true rfl)) (f42 13 (of_decide_eq_true rfl)) (f41 62 (of_decide_eq_true rfl)) (f41 67 (of_decide_eq_true rfl)) hI104
                         have I69 : jI105 σ33 := jI105_fr (f42 15 (of_decide_eq_true rfl)) (f41 65 (of_decide_eq_true rfl)) hI105
                         have I70 : jI106 σ33 := jI106_fr (f42 32 (of_decide_eq_true rfl)) (f41 70 (of_decide_eq_true rfl)) (f41 71 (of_decide_eq_true rfl)) (f41 72 (of_decide_eq_true rfl)) hI106
                         have w71 : ∀ k : Nat, k < 4 → 0 ≤ (σ33 68 k).toInt ∧ (σ33 68 k).toInt ≤ 3 := (jrr_fr (f41 68 (of_decide_eq_true rfl)) w20)
                         have p72 : jTR σ33 := jTR.fr (f41 64 (of_decide_eq_true rfl)) (f41 65 (of_decide_eq_true rfl)) hs_jTR
                         exact by
                          refine jcallV (As := [.int a1, .int x30]) (rest := []) ⟨hx, hb, hml, hown, hts⟩ hK hP hA hS hZ (c_X12_worthBy l D cI cL ad zz hJ σ33 τ a1 (A1) t1 x30 (x30.toInt) rfl I65 I66 I67 I68 I69 I70 w71 p72 (by omega) (by omega) (by omega) (by omega)) cw_RX12_286 (jc_55 cI cL ad σ33 τ) rfl ⟨Nat.le_of_ble_eq_true rfl, Nat.le_of_ble_eq_true rfl⟩ rfl rfl rfl hl.1 rfl (Nat.le_of_ble_eq_true rfl) dX12_putsOn_161 ⟨Nat.zero_le _, Nat.zero_le _⟩ (fun r74 σ73 τ73 H locs h73 hP hS => ?_)
                          obtain ⟨rfl, f75, f76, p77, w78, h73⟩ := h73
                          have G80 : jrP σ → (r74 : Int32).toInt = -(jrRg σ (A1) (x30 : Int32).toInt.toNat) := fun pr => by have ge := w78 (H44 pr) k62 (by omega) (by rw [show σ33 70 = σ 70 from (f41 70 (of_decide_eq_true rfl)), (show (σ 70 (A1).toNat).toInt = (σ 70 a1.toNatClampNeg).toInt from by rw [jnc (show a1.toInt = A1 from t1)])]; omega); rw [H46] at ge; exact ge
                          refine lv_goto (tgt := 217) hx hb dX12_putsOn_164 (of_decide_eq_true rfl) ?_
                          refine lv_istore (lv' := [(6, .int r74), (5, .int 0), (4, .int x30), (3, .int x29), (2, .int x28), (0, .ref (ad 55)), (1, .int a1)]) hx hb dX12_putsOn_217 hl (of_decide_eq_true rfl) rfl (fun ls hl => ?_)
                          refine lv_iload_n hx hb dX12_putsOn_219 rfl (lv_at hl 4 rfl) ?_
                          refine lv_if_lt (tgt := 243) hx hb dX12_putsOn_220 (of_decide_eq_true rfl) (fun c81 => ?_) (fun c81 => ?_)
                          · have kc81 := jlt c81 rfl jz_0
                            refine lv_iload hx hb dX12_putsOn_243 (lv_at hl 2 rfl) ?_
                            exact by
                             refine lv_istore_n (lv' := [(2, .int x30), (6, .int r74), (5, .int 0), (4, .int x30), (3, .int x29), (0, .ref (ad 55)), (1, .int a1)]) hx hb dX12_putsOn_245 rfl hl (of_decide_eq_true rfl) rfl (fun ls hl => ?_)
                             refine lv_iload hx hb dX12_putsOn_246 (lv_at hl 1 rfl) ?_
                             refine lv_istore_n (lv' := [(3, .int r74), (2, .int x30), (6, .int r74), (5, .int 0), (4, .int x30), (0, .ref (ad 55)), (1, .int a1)]) hx hb dX12_putsOn_248 rfl hl (of_decide_eq_true rfl) rfl (fun ls hl => ?_)
                             obtain ⟨x82, ex82⟩ : ∃ y : Int32, y = x30 + 1 := ⟨_, rfl⟩
                             have tx82 : x82.toInt = x30.toInt + 1 := (jadd ex82 rfl jz_1 (by omega) (by omega)).trans (by omega)
                             refine lv_iinc (v := x82) (lv' := [(4, .int x82), (3, .int r74), (2, .int x30), (6, .int r74), (5, .int 0), (0, .ref (ad 55)), (1, .int a1)]) hx hb dX12_putsOn_249 hl (k := 4) rfl (by rw [ex82]; rfl) (of_decide_eq_true rfl) rfl (fun ls hl => ?_)
                             refine lv_goto (tgt := 113) hx hb dX12_putsOn_252 (of_decide_eq_true rfl) ?_
                             exact by exact ihlp26 x30 r74 x82 σ73 _ _ ls (by have h92 := tx82; omega) (by have h92 := tx82; omega) (by have h92 := tx82; omega) (by have h92 := tx82; omega) (by have h92 := tx82; omega) (by have h92 := tx82; omega) (fun i hi => ((f75 i hi).trans (f41 i hi))) (fun i hi => ((f76 i hi).trans (f42 i hi)))  (fun pr mm => by have prh := H44 pr; have q := q43 pr mm; have my := (prh.my (by omega) (by omega) (by omega)).mp k62; rw [H47, H45] at my; have ge := G80 pr; exact ⟨q.1.take (v := (r74 : Int32).toInt) (by omega) my (Or.inr ⟨by rw [(show (σ 70 (A1).toNat).toInt = (σ 70 a1.toNatClampNeg).toInt from by rw [jnc (show a1.toInt = A1 from t1)])]; omega, ge, (by omega)⟩) (by omega) (by omega) (by have h9 := tx82; omega), (jrEq.m (σ := σ33) (σ' := σ73) ⟨⟨(f75 56 (of_decide_eq_true rfl)), (f75 60 (of_decide_eq_true rfl)), (f75 61 (of_decide_eq_true rfl)), (f75 62 (of_decide_eq_true rfl)), (f75 64 (of_decide_eq_true rfl)), (f75 65 (of_decide_eq_true rfl))⟩, (f76 6 (of_decide_eq_true rfl)), (f76 9 (of_decide_eq_true rfl)), (f76 10 (of_decide_eq_true rfl)), (f76 12 (of_decide_eq_true rfl)), (f76 13 (of_decide_eq_true rfl)), (f76 30 (of_decide_eq_true rfl)), (f76 31 (of_decide_eq_true rfl)), (f76 42 (of_decide_eq_true rfl))⟩ (f75 78 (of_decide_eq_true rfl)) (f75 74 (of_decide_eq_true rfl)) (f75 75 (of_decide_eq_true rfl)) (f75 76 (of_decide_eq_true rfl)) (f75 77 (of_decide_eq_true rfl)) q.2)⟩) hP hS (lv_sub hl [0, 1, 2, 5, 6] rfl)
                          · have kc81 := jnlt c81 rfl jz_0
                            exact by
                             refine lv_iload hx hb dX12_putsOn_223 (lv_at hl 1 rfl) ?_
                             refine lv_if_eq (tgt := 237) hx hb dX12_putsOn_225 (of_decide_eq_true rfl) (fun _ => ?_) (fun c => absurd (of_decide_eq_true rfl) c)
                             refine lv_iload hx hb dX12_putsOn_237 (lv_at hl 0 rfl) ?_
                             refine lv_iload_n hx hb dX12_putsOn_239 rfl (lv_at hl 3 rfl) ?_
                             refine lv_icmp_ge (tgt := 249) hx hb dX12_putsOn_240 (of_decide_eq_true rfl) (fun c83 => ?_) (fun c83 => ?_)
                             · have kc83 := jle c83 rfl rfl
                               obtain ⟨x84, ex84⟩ : ∃ y : Int32, y = x30 + 1 := ⟨_, rfl⟩
                               have tx84 : x84.toInt = x30.toInt + 1 := (jadd ex84 rfl jz_1 (by omega) (by omega)).trans (by omega)
                               refine lv_iinc (v := x84) (lv' := [(4, .int x84), (6, .int r74), (5, .int 0), (3, .int x29), (2, .int x28), (0, .ref (ad 55)), (1, .int a1)]) hx hb dX12_putsOn_249 hl (k := 2) rfl (by rw [ex84]; rfl) (of_decide_eq_true rfl) rfl (fun ls hl => ?_)
                               exact by
                                refine lv_goto (tgt := 113) hx hb dX12_putsOn_252 (of_decide_eq_true rfl) ?_
                                exact by exact ihlp26 x28 x29 x84 σ73 _ _ ls (by have h92 := tx84; omega) (by have h92 := tx84; omega) (by have h92 := tx84; omega) (by have h92 := tx84; omega) (by have h92 := tx84; omega) (by have h92 := tx84; omega) (fun i hi => ((f75 i hi).trans (f41 i hi))) (fun i hi => ((f76 i hi).trans (f42 i hi)))  (fun pr mm => by have prh := H44 pr; have q := q43 pr mm; have ge := G80 pr; exact ⟨q.1.keep (v := (r74 : Int32).toInt) (by omega) (Or.inr ⟨by rw [(show (σ 70 (A1).toNat).toInt = (σ 70 a1.toNatClampNeg).toInt from by rw [jnc (show a1.toInt = A1 from t1)])]; omega, ge, (by omega)⟩) (by have h9 := tx84; omega), (jrEq.m (σ := σ33) (σ' := σ73) ⟨⟨(f75 56 (of_decide_eq_true rfl)), (f75 60 (of_decide_eq_true rfl)), (f75 61 (of_decide_eq_true rfl)), (f75 62 (of_decide_eq_true rfl)), (f75 64 (of_decide_eq_true rfl)), (f75 65 (of_decide_eq_true rfl))⟩, (f76 6 (of_decide_eq_true rfl)), (f76 9 (of_decide_eq_true rfl)), (f76 10 (of_decide_eq_true rfl)), (f76 12 (of_decide_eq_true rfl)), (f76 13 (of_decide_eq_true rfl)), (f76 30 (of_decide_eq_true rfl)), (f76 31 (of_decide_eq_true rfl)), (f76 42 (of_decide_eq_true rfl))⟩ (f75 78 (of_decide_eq_true rfl)) (f75 74 (of_decide_eq_true rfl)) (f75 75 (of_decide_eq_true rfl)) (f75 76 (of_decide_eq_true rfl)) (f75 77 (of_decide_eq_true rfl)) q.2)⟩) hP hS (lv_sub hl [0, 3, 4, 5, 6] rfl)
                             · have kc83 := jnle c83 rfl rfl
                               refine lv_iload hx hb dX12_putsOn_243 (lv_at hl 2 rfl) ?_
                               refine lv_istore_n (lv' := [(2, .int x30), (6, .int r74), (5, .int 0), (4, .int x30), (3, .int x29), (0, .ref (ad 55)), (1, .int a1)]) hx hb dX12_putsOn_245 rfl hl (of_decide_eq_true rfl) rfl (fun ls hl => ?_)
                               refine lv_iload hx hb dX12_putsOn_246 (lv_at hl 1 rfl) ?_
                               refine lv_istore_n (lv' := [(3, .int r74), (2, .int x30), (6, .int r74), (5, .int 0), (4, .int x30), (0, .ref (ad 55)), (1, .int a1)]) hx hb dX12_putsOn_248 rfl hl (of_decide_eq_true rfl) rfl (fun ls hl => ?_)
                               obtain ⟨x85, ex85⟩ : ∃ y : Int32, y = x30 + 1 := ⟨_, rfl⟩
                               have tx85 : x85.toInt = x30.toInt + 1 := (jadd ex85 rfl jz_1 (by omega) (by omega)).trans (by omega)
                               exact by
                                refine lv_iinc (v := x85) (lv' := [(4, .int x85), (3, .int r74), (2, .int x30), (6, .int r74), (5, .int 0), (0, .ref (ad 55)), (1, .int a1)]) hx hb dX12_putsOn_249 hl (k := 4) rfl (by rw [ex85]; rfl) (of_decide_eq_true rfl) rfl (fun ls hl => ?_)
                                refine lv_goto (tgt := 113) hx hb dX12_putsOn_252 (of_decide_eq_true rfl) ?_
                                exact by exact ihlp26 x30 r74 x85 σ73 _ _ ls (by have h92 := tx85; omega) (by have h92 := tx85; omega) (by have h92 := tx85; omega) (by have h92 := tx85; omega) (by have h92 := tx85; omega) (by have h92 := tx85; omega) (fun i hi => ((f75 i hi).trans (f41 i hi))) (fun i hi => ((f76 i hi).trans (f42 i hi)))  (fun pr mm => by have prh := H44 pr; have q := q43 pr mm; have my := (prh.my (by omega) (by omega) (by omega)).mp k62; rw [H47, H45] at my; have ge := G80 pr; exact ⟨q.1.take (v := (r74 : Int32).toInt) (by omega) my (Or.inr ⟨by rw [(show (σ 70 (A1).toNat).toInt = (σ 70 a1.toNatClampNeg).toInt from by rw [jnc (show a1.toInt = A1 from t1)])]; omega, ge, (by omega)⟩) (by omega) (by omega) (by have h9 := tx85; omega), (jrEq.m (σ := σ33) (σ' := σ73) ⟨⟨(f75 56 (of_decide_eq_true rfl)), (f75 60 (of_decide_eq_true rfl)), (f75 61 (of_decide_eq_true rfl)), (f75 62 (of_decide_eq_true rfl)), (f75 64 (of_decide_eq_true rfl)), (f75 65 (of_decide_eq_true rfl))⟩, (f76 6 (of_decide_eq_true rfl)), (f76 9 (of_decide_eq_true rfl)), (f76 10 (of_decide_eq_true rfl)), (f76 12 (of_decide_eq_true rfl)), (f76 13 (of_decide_eq_true rfl)), (f76 30 (of_decide_eq_true rfl)), (f76 31 (of_decide_eq_true rfl)), (f76 42 (of_decide_eq_true rfl))⟩ (f75 78 (of_decide_eq_true rfl)) (f75 74 (of_decide_eq_true rfl)) (f75 75 (of_decide_eq_true rfl)) (f75 76 (of_decide_eq_true rfl)) (f75 77 (of_decide_eq_true rfl)) q.2)⟩) hP hS (lv_sub hl [0, 1, 2, 5, 6] rfl)
                      · have kc64 := jeq c64 rfl jz_6
                        refine lv_iconst (v := 1) hx hb dX12_putsOn_145 (of_decide_eq_true rfl) ?_
                        refine lv_goto (tgt := 150) hx hb dX12_putsOn_146 (of_decide_eq_true rfl) ?_
                        refine lv_istore (lv' := [(5, .int 1), (4, .int x30), (3, .int x29), (2, .int x28), (0, .ref (ad 55)), (1, .int a1)]) hx hb dX12_putsOn_150 hl (of_decide_eq_true rfl) rfl (fun ls hl => ?_)
                        refine lv_iload hx hb dX12_putsOn_152 (lv_at hl 0 rfl) ?_
                        refine lv_if_ne (tgt := 167) hx hb dX12_putsOn_154 (of_decide_eq_true rfl) (fun _ => ?_) (fun c => absurd c (of_decide_eq_true rfl))
                        refine lv_aload_n hx hb dX12_putsOn_167 rfl (lv_at hl 4 rfl) ?_
                        refine va_get (D := D) hx hb hts inlX12 hown hK hP 55 (jc_55 cI cL ad σ33 τ) rfl 17 (of_decide_eq_true rfl) (hts _ kw_7_11) (fun _ h9 => h9) rfl dX12_putsOn_168 ?_
                        refine lv_iconst (v := 0) hx hb dX12_putsOn_171 (of_decide_eq_true rfl) ?_
                        exact by
                         refine jald hx hb hK hP (jc_65 cI cL ad σ33 τ) (jin jz_0 (by omega) (by omega)) dX12_putsOn_172 ?_
                         refine jtopr (y := σ33 65 0) rfl ?_
                         have m86 : σ33 65 0 = (σ 65 0) := (congrFun (f41 65 (of_decide_eq_true rfl)) 0)
                         refine jtopr m86 ?_
                         have w87 : ∀ k : Nat, k < 2 → (-1) ≤ (σ33 65 k).toInt ∧ (σ33 65 k).toInt ≤ 80 := (jrr_fr (f41 65 (of_decide_eq_true rfl)) w10)
                         have g88 := w87 0 (of_decide_eq_true rfl)
                         rw [m86] at g88
                         refine lv_if_ge (tgt := 180) hx hb dX12_putsOn_173 (of_decide_eq_true rfl) (fun c89 => ?_) (fun c89 => ?_)
                         · have kc89 := jle c89 jz_0 rfl
                           refine lv_aload_n hx hb dX12_putsOn_180 rfl (lv_at hl 4 rfl) ?_
                           refine lv_iconst (v := 0) hx hb dX12_putsOn_181 (of_decide_eq_true rfl) ?_
                           refine lv_iload hx hb dX12_putsOn_182 (lv_at hl 1 rfl) ?_
                           refine lv_aload_n hx hb dX12_putsOn_184 rfl (lv_at hl 4 rfl) ?_
                           refine va_get (D := D) hx hb hts inlX12 hown hK hP 55 (jc_55 cI cL ad σ33 τ) rfl 11 (of_decide_eq_true rfl) (hts _ kw_7_8) (fun _ h9 => h9) rfl dX12_putsOn_185 ?_
                           refine lv_aload_n hx hb dX12_putsOn_188 rfl (lv_at hl 4 rfl) ?_
                           refine va_get (D := D) hx hb hts inlX12 hown hK hP 55 (jc_55 cI cL ad σ33 τ) rfl 25 (of_decide_eq_true rfl) (hts _ kw_23_6) (fun _ h9 => h9) rfl dX12_putsOn_189 ?_
                           have m90 : σ33 55 25 = (σ 55 25) := (f42 25 (of_decide_eq_true rfl))
                           refine jtopr m90 ?_
                           exact by
                            refine jald hx hb hK hP (jc_62 cI cL ad σ33 τ) (jin rfl (by omega) (by omega)) dX12_putsOn_192 ?_
                            have w91 : ∀ k : Nat, k < 8 → 0 ≤ (σ33 62 k).toInt ∧ (σ33 62 k).toInt ≤ 3 := (jrr_fr (f41 62 (of_decide_eq_true rfl)) w7)
                            have g92 := w91 _ (jnat (x := (σ 55 25)) rfl (n := 8) (by omega) (of_decide_eq_true rfl))
                            refine jtopr (y := (σ 62 (σ 55 25).toNatClampNeg)) (by rw [f41 62 (of_decide_eq_true rfl)]) ?_
                            rw [f41 62 (of_decide_eq_true rfl)] at g92
                            refine lv_aload_n hx hb dX12_putsOn_193 rfl (lv_at hl 4 rfl) ?_
                            refine lv_iload hx hb dX12_putsOn_194 (lv_at hl 1 rfl) ?_
                            refine lv_aload_n hx hb dX12_putsOn_196 rfl (lv_at hl 4 rfl) ?_
                            refine va_get (D := D) hx hb hts inlX12 hown hK hP 55 (jc_55 cI cL ad σ33 τ) rfl 11 (of_decide_eq_true rfl) (hts _ kw_7_8) (fun _ h9 => h9) rfl dX12_putsOn_197 ?_
                            exact by
                             refine lv_aload_n hx hb dX12_putsOn_200 rfl (lv_at hl 4 rfl) ?_
                             refine va_get (D := D) hx hb hts inlX12 hown hK hP 55 (jc_55 cI cL ad σ33 τ) rfl 25 (of_decide_eq_true rfl) (hts _ kw_23_6) (fun _ h9 => h9) rfl dX12_putsOn_201 ?_
                             refine jtopr m90 ?_
                             refine jald hx hb hK hP (jc_62 cI cL ad σ33 τ) (jin rfl (by omega) (by omega)) dX12_putsOn_204 ?_
                             refine jtopr (y := (σ 62 (σ 55 25).toNatClampNeg)) (by rw [f41 62 (of_decide_eq_true rfl)]) ?_
                             have I93 : jI101 σ33 := jI101_fr (f42 4 (of_decide_eq_true rfl)) (f42 5 (of_decide_eq_true rfl)) (f41 56 (of_decide_eq_true rfl)) (f41 57 (of_decide_eq_true rfl)) (f41 58 (of_decide_eq_true rfl)) (f41 59 (of_decide_eq_true rfl)) hI101
                             have I94 : jI102 σ33 := jI102_fr (f42 6 (of_decide_eq_true rfl)) (f41 60 (of_decide_eq_true rfl)) (f41 61 (of_decide_eq_true rfl)) hI102
                             have I95 : jI103 σ33 := jI103_fr (f42 9 (of_decide_eq_true rfl)) hI103
                             have I96 : jI105 σ33 := jI105_fr (f42 15 (of_decide_eq_true rfl)) (f41 65 (of_decide_eq_true rfl)) hI105
                             exact by
                              have w97 : ∀ k : Nat, k < 4 → 0 ≤ (σ33 68 k).toInt ∧ (σ33 68 k).toInt ≤ 3 := (jrr_fr (f41 68 (of_decide_eq_true rfl)) w20)
                              have p98 : jTR σ33 := jTR.fr (f41 64 (of_decide_eq_true rfl)) (f41 65 (of_decide_eq_true rfl)) hs_jTR
                              refine jcallV (As := [.int x30, .int (σ 62 (σ 55 25).toNatClampNeg)]) (rest := [.int (σ 62 (σ 55 25).toNatClampNeg), .int x30, .int 0, .ref (ad 55)]) ⟨hx, hb, hml, hown, hts⟩ hK hP hA hS hZ (c_X12_outBy l D cI cL ad zz hJ σ33 τ x30 (x30.toInt) rfl (σ 62 (σ 55 25).toNatClampNeg) ((σ 62 (σ 55 25).toNatClampNeg).toInt) rfl I93 I94 I95 I96 w97 p98 (by omega) (by omega)) cw_RX12_259 (jc_55 cI cL ad σ33 τ) rfl ⟨Nat.le_of_ble_eq_true rfl, Nat.le_of_ble_eq_true rfl⟩ rfl rfl rfl hl.1 rfl (Nat.le_of_ble_eq_true rfl) dX12_putsOn_205 ⟨Nat.zero_le _, Nat.zero_le _⟩ (fun r100 σ99 τ99 H locs h99 hP hS => ?_)
                              obtain ⟨rfl, f101, f102, p103, w104, h99⟩ := h99
                              have h106 := h99
                              obtain ⟨q108, k107⟩ := h106
                              refine lv_aload_n hx hb dX12_putsOn_208 rfl (lv_at hl 4 rfl) ?_
                              refine va_get (D := D) hx hb hts inlX12 hown hK hP 55 (jc_55 cI cL ad σ99 τ) rfl 36 (of_decide_eq_true rfl) (hts _ kw_7_21) (fun _ h9 => h9) rfl dX12_putsOn_209 ?_
                              refine lv_iload_n hx hb dX12_putsOn_212 rfl (lv_at hl 5 rfl) ?_
                              exact by
                               refine jald hx hb hK hP (jc_73 cI cL ad σ99 τ) (jin t1 (by omega) (by omega)) dX12_putsOn_213 ?_
                               refine jtopr (y := (σ 73 a1.toNatClampNeg)) (by rw [f101 73 (of_decide_eq_true rfl), f41 73 (of_decide_eq_true rfl)]) ?_
                               have I109 : jI105 σ99 := jI105_fr (f102 15 (of_decide_eq_true rfl)) (f101 65 (of_decide_eq_true rfl)) I96
                               have z110 : (σ99 65 0).toInt = (σ 65 0).toInt := (congrArg Int32.toInt (show σ99 65 0 = (σ 65 0) from ((congrFun (f101 65 (of_decide_eq_true rfl)) 0).trans m86)))
                               refine jcallV (As := [.int 0, .int x30, .int (σ 62 (σ 55 25).toNatClampNeg), .int r100, .int (σ 73 a1.toNatClampNeg)]) (rest := []) ⟨hx, hb, hml, hown, hts⟩ hK hP hA hS hZ (c_X12_textGives_0 l D cI cL ad zz hJ σ99 τ x30 (x30.toInt) rfl (σ 62 (σ 55 25).toNatClampNeg) ((σ 62 (σ 55 25).toNatClampNeg).toInt) rfl r100 (r100.toInt) rfl (σ 73 a1.toNatClampNeg) ((σ 73 a1.toNatClampNeg).toInt) rfl I109 p103 (by omega) (by omega)) cw_RX12_252 (jc_55 cI cL ad σ99 τ) rfl ⟨Nat.le_of_ble_eq_true rfl, Nat.le_of_ble_eq_true rfl⟩ rfl rfl rfl hl.1 rfl (Nat.le_of_ble_eq_true rfl) dX12_putsOn_214 ⟨Nat.zero_le _, Nat.zero_le _⟩ (fun r112 σ111 τ111 H locs h111 hP hS => ?_)
                               obtain ⟨rfl, f113, f114, p115, w116, h111⟩ := h111
                               have z118 : (σ99 55 25).toInt = (σ 55 25).toInt := (congrArg Int32.toInt (show σ99 55 25 = (σ 55 25) from ((f102 25 (of_decide_eq_true rfl)).trans m90)))
                               have z119 : (σ99 55 26).toInt = (σ 55 26).toInt := (congrArg Int32.toInt (show σ99 55 26 = (σ 55 26) from ((f102 26 (of_decide_eq_true rfl)).trans (f42 26 (of_decide_eq_true rfl)))))
                               have z120 : (σ99 55 6).toInt = (σ 55 6).toInt := (congrArg Int32.toInt (show σ99 55 6 = (σ 55 6) from ((f102 6 (of_decide_eq_true rfl)).trans m52)))
                               exact by
                                have G121 : jrP σ → (r112 : Int32).toInt = jrRg σ (A1) (x30 : Int32).toInt.toNat := fun pr => by have c := jrCh_of (c := (x30 : Int32).toInt.toNat) (X := (σ 62 (σ 55 25).toInt.toNat).toInt) w104 ((jrEq.v (σ := σ) (σ' := σ33) ⟨⟨(f41 56 (of_decide_eq_true rfl)), (f41 60 (of_decide_eq_true rfl)), (f41 61 (of_decide_eq_true rfl)), (f41 62 (of_decide_eq_true rfl)), (f41 64 (of_decide_eq_true rfl)), (f41 65 (of_decide_eq_true rfl))⟩, (f42 6 (of_decide_eq_true rfl)), (f42 9 (of_decide_eq_true rfl)), (f42 10 (of_decide_eq_true rfl)), (f42 12 (of_decide_eq_true rfl)), (f42 13 (of_decide_eq_true rfl)), (f42 30 (of_decide_eq_true rfl)), (f42 31 (of_decide_eq_true rfl)), (f42 42 (of_decide_eq_true rfl))⟩ (f41 68 (of_decide_eq_true rfl)) (f41 69 (of_decide_eq_true rfl)) (f42 25 (of_decide_eq_true rfl)) (f42 26 (of_decide_eq_true rfl)) (f42 27 (of_decide_eq_true rfl))).2 pr) (by omega) (by omega) (by omega) rfl (w7 _ (by omega)) (by omega) (by omega) ((jmb_fr rfl rfl rfl rfl rfl x30).trans k62); rw [(jrEq.ch (σ := σ) (σ' := σ33) ⟨⟨(f41 56 (of_decide_eq_true rfl)), (f41 60 (of_decide_eq_true rfl)), (f41 61 (of_decide_eq_true rfl)), (f41 62 (of_decide_eq_true rfl)), (f41 64 (of_decide_eq_true rfl)), (f41 65 (of_decide_eq_true rfl))⟩, (f42 6 (of_decide_eq_true rfl)), (f42 9 (of_decide_eq_true rfl)), (f42 10 (of_decide_eq_true rfl)), (f42 12 (of_decide_eq_true rfl)), (f42 13 (of_decide_eq_true rfl)), (f42 30 (of_decide_eq_true rfl)), (f42 31 (of_decide_eq_true rfl)), (f42 42 (of_decide_eq_true rfl))⟩ (f41 68 (of_decide_eq_true rfl)) (f41 69 (of_decide_eq_true rfl)) (f42 25 (of_decide_eq_true rfl)) (f42 26 (of_decide_eq_true rfl))).1, (jrEq.ch (σ := σ) (σ' := σ33) ⟨⟨(f41 56 (of_decide_eq_true rfl)), (f41 60 (of_decide_eq_true rfl)), (f41 61 (of_decide_eq_true rfl)), (f41 62 (of_decide_eq_true rfl)), (f41 64 (of_decide_eq_true rfl)), (f41 65 (of_decide_eq_true rfl))⟩, (f42 6 (of_decide_eq_true rfl)), (f42 9 (of_decide_eq_true rfl)), (f42 10 (of_decide_eq_true rfl)), (f42 12 (of_decide_eq_true rfl)), (f42 13 (of_decide_eq_true rfl)), (f42 30 (of_decide_eq_true rfl)), (f42 31 (of_decide_eq_true rfl)), (f42 42 (of_decide_eq_true rfl))⟩ (f41 68 (of_decide_eq_true rfl)) (f41 69 (of_decide_eq_true rfl)) (f42 25 (of_decide_eq_true rfl)) (f42 26 (of_decide_eq_true rfl))).2.2.1, (jrEq.ch (σ := σ) (σ' := σ33) ⟨⟨(f41 56 (of_decide_eq_true rfl)), (f41 60 (of_decide_eq_true rfl)), (f41 61 (of_decide_eq_true rfl)), (f41 62 (of_decide_eq_true rfl)), (f41 64 (of_decide_eq_true rfl)), (f41 65 (of_decide_eq_true rfl))⟩, (f42 6 (of_decide_eq_true rfl)), (f42 9 (of_decide_eq_true rfl)), (f42 10 (of_decide_eq_true rfl)), (f42 12 (of_decide_eq_true rfl)), (f42 13 (of_decide_eq_true rfl)), (f42 30 (of_decide_eq_true rfl)), (f42 31 (of_decide_eq_true rfl)), (f42 42 (of_decide_eq_true rfl))⟩ (f41 68 (of_decide_eq_true rfl)) (f41 69 (of_decide_eq_true rfl)) (f42 25 (of_decide_eq_true rfl)) (f42 26 (of_decide_eq_true rfl))).2.2.2, show σ33 55 25 = σ 55 25 from (f42 25 (of_decide_eq_true rfl)), show σ33 55 26 = σ 55 26 from (f42 26 (of_decide_eq_true rfl))] at c; have tt := jrTx_of (c := (x30 : Int32).toInt.toNat) (X := (σ 62 (σ 55 25).toInt.toNat).toInt) (ρ := A1) w116 ((jrEq.v (σ := σ) (σ' := σ99) ⟨⟨((f101 56 (of_decide_eq_true rfl)).trans (f41 56 (of_decide_eq_true rfl))), ((f101 60 (of_decide_eq_true rfl)).trans (f41 60 (of_decide_eq_true rfl))), ((f101 61 (of_decide_eq_true rfl)).trans (f41 61 (of_decide_eq_true rfl))), ((f101 62 (of_decide_eq_true rfl)).trans (f41 62 (of_decide_eq_true rfl))), ((f101 64 (of_decide_eq_true rfl)).trans (f41 64 (of_decide_eq_true rfl))), ((f101 65 (of_decide_eq_true rfl)).trans (f41 65 (of_decide_eq_true rfl)))⟩, ((f102 6 (of_decide_eq_true rfl)).trans (f42 6 (of_decide_eq_true rfl))), ((f102 9 (of_decide_eq_true rfl)).trans (f42 9 (of_decide_eq_true rfl))), ((f102 10 (of_decide_eq_true rfl)).trans (f42 10 (of_decide_eq_true rfl))), ((f102 12 (of_decide_eq_true rfl)).trans (f42 12 (of_decide_eq_true rfl))), ((f102 13 (of_decide_eq_true rfl)).trans (f42 13 (of_decide_eq_true rfl))), ((f102 30 (of_decide_eq_true rfl)).trans (f42 30 (of_decide_eq_true rfl))), ((f102 31 (of_decide_eq_true rfl)).trans (f42 31 (of_decide_eq_true rfl))), ((f102 42 (of_decide_eq_true rfl)).trans (f42 42 (of_decide_eq_true rfl)))⟩ ((f101 68 (of_decide_eq_true rfl)).trans (f41 68 (of_decide_eq_true rfl))) ((f101 69 (of_decide_eq_true rfl)).trans (f41 69 (of_decide_eq_true rfl))) ((f102 25 (of_decide_eq_true rfl)).trans (f42 25 (of_decide_eq_true rfl))) ((f102 26 (of_decide_eq_true rfl)).trans (f42 26 (of_decide_eq_true rfl))) ((f102 27 (of_decide_eq_true rfl)).trans (f42 27 (of_decide_eq_true rfl)))).2 pr) (by omega) (by omega) (by omega) (by first | rfl | (rw [show σ99 62 = σ 62 from ((f101 62 (of_decide_eq_true rfl)).trans (f41 62 (of_decide_eq_true rfl)))]; rfl)) (w7 _ (by omega)) (by omega) (by omega) ((jmb_fr (f102 27 (of_decide_eq_true rfl)) (f102 30 (of_decide_eq_true rfl)) (f102 31 (of_decide_eq_true rfl)) (f101 56 (of_decide_eq_true rfl)) (f101 69 (of_decide_eq_true rfl)) x30).trans k62) (by omega) (by omega) (by rw [show σ99 73 = σ 73 from ((f101 73 (of_decide_eq_true rfl)).trans (f41 73 (of_decide_eq_true rfl)))]; rw [← jnc (show a1.toInt = A1 from t1)]); rw [(show jrEq σ σ99 from ⟨⟨((f101 56 (of_decide_eq_true rfl)).trans (f41 56 (of_decide_eq_true rfl))), ((f101 60 (of_decide_eq_true rfl)).trans (f41 60 (of_decide_eq_true rfl))), ((f101 61 (of_decide_eq_true rfl)).trans (f41 61 (of_decide_eq_true rfl))), ((f101 62 (of_decide_eq_true rfl)).trans (f41 62 (of_decide_eq_true rfl))), ((f101 64 (of_decide_eq_true rfl)).trans (f41 64 (of_decide_eq_true rfl))), ((f101 65 (of_decide_eq_true rfl)).trans (f41 65 (of_decide_eq_true rfl)))⟩, ((f102 6 (of_decide_eq_true rfl)).trans (f42 6 (of_decide_eq_true rfl))), ((f102 9 (of_decide_eq_true rfl)).trans (f42 9 (of_decide_eq_true rfl))), ((f102 10 (of_decide_eq_true rfl)).trans (f42 10 (of_decide_eq_true rfl))), ((f102 12 (of_decide_eq_true rfl)).trans (f42 12 (of_decide_eq_true rfl))), ((f102 13 (of_decide_eq_true rfl)).trans (f42 13 (of_decide_eq_true rfl))), ((f102 30 (of_decide_eq_true rfl)).trans (f42 30 (of_decide_eq_true rfl))), ((f102 31 (of_decide_eq_true rfl)).trans (f42 31 (of_decide_eq_true rfl))), ((f102 42 (of_decide_eq_true rfl)).trans (f42 42 (of_decide_eq_true rfl)))⟩).tx ((f101 73 (of_decide_eq_true rfl)).trans (f41 73 (of_decide_eq_true rfl))), ((show jrEq σ σ99 from ⟨⟨((f101 56 (of_decide_eq_true rfl)).trans (f41 56 (of_decide_eq_true rfl))), ((f101 60 (of_decide_eq_true rfl)).trans (f41 60 (of_decide_eq_true rfl))), ((f101 61 (of_decide_eq_true rfl)).trans (f41 61 (of_decide_eq_true rfl))), ((f101 62 (of_decide_eq_true rfl)).trans (f41 62 (of_decide_eq_true rfl))), ((f101 64 (of_decide_eq_true rfl)).trans (f41 64 (of_decide_eq_true rfl))), ((f101 65 (of_decide_eq_true rfl)).trans (f41 65 (of_decide_eq_true rfl)))⟩, ((f102 6 (of_decide_eq_true rfl)).trans (f42 6 (of_decide_eq_true rfl))), ((f102 9 (of_decide_eq_true rfl)).trans (f42 9 (of_decide_eq_true rfl))), ((f102 10 (of_decide_eq_true rfl)).trans (f42 10 (of_decide_eq_true rfl))), ((f102 12 (of_decide_eq_true rfl)).trans (f42 12 (of_decide_eq_true rfl))), ((f102 13 (of_decide_eq_true rfl)).trans (f42 13 (of_decide_eq_true rfl))), ((f102 30 (of_decide_eq_true rfl)).trans (f42 30 (of_decide_eq_true rfl))), ((f102 31 (of_decide_eq_true rfl)).trans (f42 31 (of_decide_eq_true rfl))), ((f102 42 (of_decide_eq_true rfl)).trans (f42 42 (of_decide_eq_true rfl)))⟩).ch ((f101 68 (of_decide_eq_true rfl)).trans (f41 68 (of_decide_eq_true rfl))) ((f101 69 (of_decide_eq_true rfl)).trans (f41 69 (of_decide_eq_true rfl))) ((f102 25 (of_decide_eq_true rfl)).trans (f42 25 (of_decide_eq_true rfl))) ((f102 26 (of_decide_eq_true rfl)).trans (f42 26 (of_decide_eq_true rfl)))).2.2.1, ((show jrEq σ σ99 from ⟨⟨((f101 56 (of_decide_eq_true rfl)).trans (f41 56 (of_decide_eq_true rfl))), ((f101 60 (of_decide_eq_true rfl)).trans (f41 60 (of_decide_eq_true rfl))), ((f101 61 (of_decide_eq_true rfl)).trans (f41 61 (of_decide_eq_true rfl))), ((f101 62 (of_decide_eq_true rfl)).trans (f41 62 (of_decide_eq_true rfl))), ((f101 64 (of_decide_eq_true rfl)).trans (f41 64 (of_decide_eq_true rfl))), ((f101 65 (of_decide_eq_true rfl)).trans (f41 65 (of_decide_eq_true rfl)))⟩, ((f102 6 (of_decide_eq_true rfl)).trans (f42 6 (of_decide_eq_true rfl))), ((f102 9 (of_decide_eq_true rfl)).trans (f42 9 (of_decide_eq_true rfl))), ((f102 10 (of_decide_eq_true rfl)).trans (f42 10 (of_decide_eq_true rfl))), ((f102 12 (of_decide_eq_true rfl)).trans (f42 12 (of_decide_eq_true rfl))), ((f102 13 (of_decide_eq_true rfl)).trans (f42 13 (of_decide_eq_true rfl))), ((f102 30 (of_decide_eq_true rfl)).trans (f42 30 (of_decide_eq_true rfl))), ((f102 31 (of_decide_eq_true rfl)).trans (f42 31 (of_decide_eq_true rfl))), ((f102 42 (of_decide_eq_true rfl)).trans (f42 42 (of_decide_eq_true rfl)))⟩).ch ((f101 68 (of_decide_eq_true rfl)).trans (f41 68 (of_decide_eq_true rfl))) ((f101 69 (of_decide_eq_true rfl)).trans (f41 69 (of_decide_eq_true rfl))) ((f102 25 (of_decide_eq_true rfl)).trans (f42 25 (of_decide_eq_true rfl))) ((f102 26 (of_decide_eq_true rfl)).trans (f42 26 (of_decide_eq_true rfl)))).2.2.2, show σ99 55 25 = σ 55 25 from ((f102 25 (of_decide_eq_true rfl)).trans (f42 25 (of_decide_eq_true rfl))), show σ99 55 26 = σ 55 26 from ((f102 26 (of_decide_eq_true rfl)).trans (f42 26 (of_decide_eq_true rfl))), c] at tt; rw [jrRg_6 (by rw [(show (σ 70 (A1).toNat).toInt = (σ 70 a1.toNatClampNeg).toInt from by rw [jnc (show a1.toInt = A1 from t1)])]; omega)]; exact tt
                                refine lv_istore (lv' := [(6, .int r112), (5, .int 1), (4, .int x30), (3, .int x29), (2, .int x28), (0, .ref (ad 55)), (1, .int a1)]) hx hb dX12_putsOn_217 hl (of_decide_eq_true rfl) rfl (fun ls hl => ?_)
                                refine lv_iload_n hx hb dX12_putsOn_219 rfl (lv_at hl 4 rfl) ?_
                                refine lv_if_lt (tgt := 243) hx hb dX12_putsOn_220 (of_decide_eq_true rfl) (fun c122 => ?_) (fun c122 => ?_)
                                · have kc122 := jlt c122 rfl jz_0
                                  refine lv_iload hx hb dX12_putsOn_243 (lv_at hl 2 rfl) ?_
                                  refine lv_istore_n (lv' := [(2, .int x30), (6, .int r112), (5, .int 1), (4, .int x30), (3, .int x29), (0, .ref (ad 55)), (1, .int a1)]) hx hb dX12_putsOn_245 rfl hl (of_decide_eq_true rfl) rfl (fun ls hl => ?_)
                                  refine lv_iload hx hb dX12_putsOn_246 (lv_at hl 1 rfl) ?_
                                  refine lv_istore_n (lv' := [(3, .int r112), (2, .int x30), (6, .int r112), (5, .int 1), (4, .int x30), (0, .ref (ad 55)), (1, .int a1)]) hx hb dX12_putsOn_248 rfl hl (of_decide_eq_true rfl) rfl (fun ls hl => ?_)
                                  obtain ⟨x123, ex123⟩ : ∃ y : Int32, y = x30 + 1 := ⟨_, rfl⟩
                                  exact by
                                   have tx123 : x123.toInt = x30.toInt + 1 := (jadd ex123 rfl jz_1 (by omega) (by omega)).trans (by omega)
                                   refine lv_iinc (v := x123) (lv' := [(4, .int x123), (3, .int r112), (2, .int x30), (6, .int r112), (5, .int 1), (0, .ref (ad 55)), (1, .int a1)]) hx hb dX12_putsOn_249 hl (k := 4) rfl (by rw [ex123]; rfl) (of_decide_eq_true rfl) rfl (fun ls hl => ?_)
                                   refine lv_goto (tgt := 113) hx hb dX12_putsOn_252 (of_decide_eq_true rfl) ?_
                                   exact by exact ihlp26 x30 r112 x123 σ111 _ _ ls (by have h92 := tx123; omega) (by have h92 := tx123; omega) (by have h92 := tx123; omega) (by have h92 := tx123; omega) (by have h92 := tx123; omega) (by have h92 := tx123; omega) (fun i hi => ((f113 i hi).trans ((f101 i hi).trans (f41 i hi)))) (fun i hi => ((f114 i hi).trans ((f102 i hi).trans (f42 i hi))))  (fun pr mm => by have prh := H44 pr; have q := q43 pr mm; have my := (prh.my (by omega) (by omega) (by omega)).mp k62; rw [H47, H45] at my; have ge := G121 pr; exact ⟨q.1.take (v := (r112 : Int32).toInt) (by omega) my (Or.inl ⟨by rw [(show (σ 70 (A1).toNat).toInt = (σ 70 a1.toNatClampNeg).toInt from by rw [jnc (show a1.toInt = A1 from t1)])]; omega, ge, (by omega)⟩) (by omega) (by omega) (by have h9 := tx123; omega), (jrEq.m (σ := σ33) (σ' := σ111) ⟨⟨((f113 56 (of_decide_eq_true rfl)).trans (f101 56 (of_decide_eq_true rfl))), ((f113 60 (of_decide_eq_true rfl)).trans (f101 60 (of_decide_eq_true rfl))), ((f113 61 (of_decide_eq_true rfl)).trans (f101 61 (of_decide_eq_true rfl))), ((f113 62 (of_decide_eq_true rfl)).trans (f101 62 (of_decide_eq_true rfl))), ((f113 64 (of_decide_eq_true rfl)).trans (f101 64 (of_decide_eq_true rfl))), ((f113 65 (of_decide_eq_true rfl)).trans (f101 65 (of_decide_eq_true rfl)))⟩, ((f114 6 (of_decide_eq_true rfl)).trans (f102 6 (of_decide_eq_true rfl))), ((f114 9 (of_decide_eq_true rfl)).trans (f102 9 (of_decide_eq_true rfl))), ((f114 10 (of_decide_eq_true rfl)).trans (f102 10 (of_decide_eq_true rfl))), ((f114 12 (of_decide_eq_true rfl)).trans (f102 12 (of_decide_eq_true rfl))), ((f114 13 (of_decide_eq_true rfl)).trans (f102 13 (of_decide_eq_true rfl))), ((f114 30 (of_decide_eq_true rfl)).trans (f102 30 (of_decide_eq_true rfl))), ((f114 31 (of_decide_eq_true rfl)).trans (f102 31 (of_decide_eq_true rfl))), ((f114 42 (of_decide_eq_true rfl)).trans (f102 42 (of_decide_eq_true rfl)))⟩ ((f113 78 (of_decide_eq_true rfl)).trans (f101 78 (of_decide_eq_true rfl))) ((f113 74 (of_decide_eq_true rfl)).trans (f101 74 (of_decide_eq_true rfl))) ((f113 75 (of_decide_eq_true rfl)).trans (f101 75 (of_decide_eq_true rfl))) ((f113 76 (of_decide_eq_true rfl)).trans (f101 76 (of_decide_eq_true rfl))) ((f113 77 (of_decide_eq_true rfl)).trans (f101 77 (of_decide_eq_true rfl))) q.2)⟩) hP hS (lv_sub hl [0, 1, 2, 5, 6] rfl)
                                · have kc122 := jnlt c122 rfl jz_0
                                  refine lv_iload hx hb dX12_putsOn_223 (lv_at hl 1 rfl) ?_
                                  refine lv_if_eq (tgt := 237) hx hb dX12_putsOn_225 (of_decide_eq_true rfl) (fun c => absurd c (of_decide_eq_true rfl)) (fun _ => ?_)
                                  refine lv_iload hx hb dX12_putsOn_228 (lv_at hl 0 rfl) ?_
                                  refine lv_iload_n hx hb dX12_putsOn_230 rfl (lv_at hl 3 rfl) ?_
                                  exact by
                                   refine lv_icmp_le (tgt := 249) hx hb dX12_putsOn_231 (of_decide_eq_true rfl) (fun c124 => ?_) (fun c124 => ?_)
                                   · have kc124 := jle c124 rfl rfl
                                     obtain ⟨x125, ex125⟩ : ∃ y : Int32, y = x30 + 1 := ⟨_, rfl⟩
                                     have tx125 : x125.toInt = x30.toInt + 1 := (jadd ex125 rfl jz_1 (by omega) (by omega)).trans (by omega)
                                     refine lv_iinc (v := x125) (lv' := [(4, .int x125), (6, .int r112), (5, .int 1), (3, .int x29), (2, .int x28), (0, .ref (ad 55)), (1, .int a1)]) hx hb dX12_putsOn_249 hl (k := 2) rfl (by rw [ex125]; rfl) (of_decide_eq_true rfl) rfl (fun ls hl => ?_)
                                     refine lv_goto (tgt := 113) hx hb dX12_putsOn_252 (of_decide_eq_true rfl) ?_
                                     exact by exact ihlp26 x28 x29 x125 σ111 _ _ ls (by have h92 := tx125; omega) (by have h92 := tx125; omega) (by have h92 := tx125; omega) (by have h92 := tx125; omega) (by have h92 := tx125; omega) (by have h92 := tx125; omega) (fun i hi => ((f113 i hi).trans ((f101 i hi).trans (f41 i hi)))) (fun i hi => ((f114 i hi).trans ((f102 i hi).trans (f42 i hi))))  (fun pr mm => by have prh := H44 pr; have q := q43 pr mm; have ge := G121 pr; exact ⟨q.1.keep (v := (r112 : Int32).toInt) (by omega) (Or.inl ⟨by rw [(show (σ 70 (A1).toNat).toInt = (σ 70 a1.toNatClampNeg).toInt from by rw [jnc (show a1.toInt = A1 from t1)])]; omega, ge, (by omega)⟩) (by have h9 := tx125; omega), (jrEq.m (σ := σ33) (σ' := σ111) ⟨⟨((f113 56 (of_decide_eq_true rfl)).trans (f101 56 (of_decide_eq_true rfl))), ((f113 60 (of_decide_eq_true rfl)).trans (f101 60 (of_decide_eq_true rfl))), ((f113 61 (of_decide_eq_true rfl)).trans (f101 61 (of_decide_eq_true rfl))), ((f113 62 (of_decide_eq_true rfl)).trans (f101 62 (of_decide_eq_true rfl))), ((f113 64 (of_decide_eq_true rfl)).trans (f101 64 (of_decide_eq_true rfl))), ((f113 65 (of_decide_eq_true rfl)).trans (f101 65 (of_decide_eq_true rfl)))⟩, ((f114 6 (of_decide_eq_true rfl)).trans (f102 6 (of_decide_eq_true rfl))), ((f114 9 (of_decide_eq_true rfl)).trans (f102 9 (of_decide_eq_true rfl))), ((f114 10 (of_decide_eq_true rfl)).trans (f102 10 (of_decide_eq_true rfl))), ((f114 12 (of_decide_eq_true rfl)).trans (f102 12 (of_decide_eq_true rfl))), ((f114 13 (of_decide_eq_true rfl)).trans (f102 13 (of_decide_eq_true rfl))), ((f114 30 (of_decide_eq_true rfl)).trans (f102 30 (of_decide_eq_true rfl))), ((f114 31 (of_decide_eq_true rfl)).trans (f102 31 (of_decide_eq_true rfl))), ((f114 42 (of_decide_eq_true rfl)).trans (f102 42 (of_decide_eq_true rfl)))⟩ ((f113 78 (of_decide_eq_true rfl)).trans (f101 78 (of_decide_eq_true rfl))) ((f113 74 (of_decide_eq_true rfl)).trans (f101 74 (of_decide_eq_true rfl))) ((f113 75 (of_decide_eq_true rfl)).trans (f101 75 (of_decide_eq_true rfl))) ((f113 76 (of_decide_eq_true rfl)).trans (f101 76 (of_decide_eq_true rfl))) ((f113 77 (of_decide_eq_true rfl)).trans (f101 77 (of_decide_eq_true rfl))) q.2)⟩) hP hS (lv_sub hl [0, 3, 4, 5, 6] rfl)
                                   · have kc124 := jnle c124 rfl rfl
                                     refine lv_goto (tgt := 243) hx hb dX12_putsOn_234 (of_decide_eq_true rfl) ?_
                                     exact by
                                      refine lv_iload hx hb dX12_putsOn_243 (lv_at hl 2 rfl) ?_
                                      refine lv_istore_n (lv' := [(2, .int x30), (6, .int r112), (5, .int 1), (4, .int x30), (3, .int x29), (0, .ref (ad 55)), (1, .int a1)]) hx hb dX12_putsOn_245 rfl hl (of_decide_eq_true rfl) rfl (fun ls hl => ?_)
                                      refine lv_iload hx hb dX12_putsOn_246 (lv_at hl 1 rfl) ?_
                                      refine lv_istore_n (lv' := [(3, .int r112), (2, .int x30), (6, .int r112), (5, .int 1), (4, .int x30), (0, .ref (ad 55)), (1, .int a1)]) hx hb dX12_putsOn_248 rfl hl (of_decide_eq_true rfl) rfl (fun ls hl => ?_)
                                      obtain ⟨x126, ex126⟩ : ∃ y : Int32, y = x30 + 1 := ⟨_, rfl⟩
                                      have tx126 : x126.toInt = x30.toInt + 1 := (jadd ex126 rfl jz_1 (by omega) (by omega)).trans (by omega)
                                      refine lv_iinc (v := x126) (lv' := [(4, .int x126), (3, .int r112), (2, .int x30), (6, .int r112), (5, .int 1), (0, .ref (ad 55)), (1, .int a1)]) hx hb dX12_putsOn_249 hl (k := 4) rfl (by rw [ex126]; rfl) (of_decide_eq_true rfl) rfl (fun ls hl => ?_)
                                      refine lv_goto (tgt := 113) hx hb dX12_putsOn_252 (of_decide_eq_true rfl) ?_
                                      exact by exact ihlp26 x30 r112 x126 σ111 _ _ ls (by have h92 := tx126; omega) (by have h92 := tx126; omega) (by have h92 := tx126; omega) (by have h92 := tx126; omega) (by have h92 := tx126; omega) (by have h92 := tx126; omega) (fun i hi => ((f113 i hi).trans ((f101 i hi).trans (f41 i hi)))) (fun i hi => ((f114 i hi).trans ((f102 i hi).trans (f42 i hi))))  (fun pr mm => by have prh := H44 pr; have q := q43 pr mm; have my := (prh.my (by omega) (by omega) (by omega)).mp k62; rw [H47, H45] at my; have ge := G121 pr; exact ⟨q.1.take (v := (r112 : Int32).toInt) (by omega) my (Or.inl ⟨by rw [(show (σ 70 (A1).toNat).toInt = (σ 70 a1.toNatClampNeg).toInt from by rw [jnc (show a1.toInt = A1 from t1)])]; omega, ge, (by omega)⟩) (by omega) (by omega) (by have h9 := tx126; omega), (jrEq.m (σ := σ33) (σ' := σ111) ⟨⟨((f113 56 (of_decide_eq_true rfl)).trans (f101 56 (of_decide_eq_true rfl))), ((f113 60 (of_decide_eq_true rfl)).trans (f101 60 (of_decide_eq_true rfl))), ((f113 61 (of_decide_eq_true rfl)).trans (f101 61 (of_decide_eq_true rfl))), ((f113 62 (of_decide_eq_true rfl)).trans (f101 62 (of_decide_eq_true rfl))), ((f113 64 (of_decide_eq_true rfl)).trans (f101 64 (of_decide_eq_true rfl))), ((f113 65 (of_decide_eq_true rfl)).trans (f101 65 (of_decide_eq_true rfl)))⟩, ((f114 6 (of_decide_eq_true rfl)).trans (f102 6 (of_decide_eq_true rfl))), ((f114 9 (of_decide_eq_true rfl)).trans (f102 9 (of_decide_eq_true rfl))), ((f114 10 (of_decide_eq_true rfl)).trans (f102 10 (of_decide_eq_true rfl))), ((f114 12 (of_decide_eq_true rfl)).trans (f102 12 (of_decide_eq_true rfl))), ((f114 13 (of_decide_eq_true rfl)).trans (f102 13 (of_decide_eq_true rfl))), ((f114 30 (of_decide_eq_true rfl)).trans (f102 30 (of_decide_eq_true rfl))), ((f114 31 (of_decide_eq_true rfl)).trans (f102 31 (of_decide_eq_true rfl))), ((f114 42 (of_decide_eq_true rfl)).trans (f102 42 (of_decide_eq_true rfl)))⟩ ((f113 78 (of_decide_eq_true rfl)).trans (f101 78 (of_decide_eq_true rfl))) ((f113 74 (of_decide_eq_true rfl)).trans (f101 74 (of_decide_eq_true rfl))) ((f113 75 (of_decide_eq_true rfl)).trans (f101 75 (of_decide_eq_true rfl))) ((f113 76 (of_decide_eq_true rfl)).trans (f101 76 (of_decide_eq_true rfl))) ((f113 77 (of_decide_eq_true rfl)).trans (f101 77 (of_decide_eq_true rfl))) q.2)⟩) hP hS (lv_sub hl [0, 1, 2, 5, 6] rfl)
                         · exact by
                            have kc89 := jnle c89 jz_0 rfl
                            refine lv_iconst (v := 0) hx hb dX12_putsOn_176 (of_decide_eq_true rfl) ?_
                            refine lv_goto (tgt := 217) hx hb dX12_putsOn_177 (of_decide_eq_true rfl) ?_
                            refine lv_istore (lv' := [(6, .int 0), (5, .int 1), (4, .int x30), (3, .int x29), (2, .int x28), (0, .ref (ad 55)), (1, .int a1)]) hx hb dX12_putsOn_217 hl (of_decide_eq_true rfl) rfl (fun ls hl => ?_)
                            refine lv_iload_n hx hb dX12_putsOn_219 rfl (lv_at hl 4 rfl) ?_
                            refine lv_if_lt (tgt := 243) hx hb dX12_putsOn_220 (of_decide_eq_true rfl) (fun c127 => ?_) (fun c127 => ?_)
                            · have kc127 := jlt c127 rfl jz_0
                              refine lv_iload hx hb dX12_putsOn_243 (lv_at hl 2 rfl) ?_
                              refine lv_istore_n (lv' := [(2, .int x30), (6, .int 0), (5, .int 1), (4, .int x30), (3, .int x29), (0, .ref (ad 55)), (1, .int a1)]) hx hb dX12_putsOn_245 rfl hl (of_decide_eq_true rfl) rfl (fun ls hl => ?_)
                              refine lv_iload hx hb dX12_putsOn_246 (lv_at hl 1 rfl) ?_
                              refine lv_istore_n (lv' := [(3, .int 0), (2, .int x30), (6, .int 0), (5, .int 1), (4, .int x30), (0, .ref (ad 55)), (1, .int a1)]) hx hb dX12_putsOn_248 rfl hl (of_decide_eq_true rfl) rfl (fun ls hl => ?_)
                              obtain ⟨x128, ex128⟩ : ∃ y : Int32, y = x30 + 1 := ⟨_, rfl⟩
                              exact by
                               have tx128 : x128.toInt = x30.toInt + 1 := (jadd ex128 rfl jz_1 (by omega) (by omega)).trans (by omega)
                               refine lv_iinc (v := x128) (lv' := [(4, .int x128), (3, .int 0), (2, .int x30), (6, .int 0), (5, .int 1), (0, .ref (ad 55)), (1, .int a1)]) hx hb dX12_putsOn_249 hl (k := 4) rfl (by rw [ex128]; rfl) (of_decide_eq_true rfl) rfl (fun ls hl => ?_)
                               refine lv_goto (tgt := 113) hx hb dX12_putsOn_252 (of_decide_eq_true rfl) ?_
                               exact by exact ihlp26 x30 0 x128 σ33 _ _ ls (by have h91 := jz_0; have h92 := tx128; omega) (by have h91 := jz_0; have h92 := tx128; omega) (by have h91 := jz_0; have h92 := tx128; omega) (by have h91 := jz_0; have h92 := tx128; omega) (by have h91 := jz_0; have h92 := tx128; omega) (by have h91 := jz_0; have h92 := tx128; omega) (fun i hi => (f41 i hi)) (fun i hi => (f42 i hi))  (fun pr mm => by have prh := H44 pr; have q := q43 pr mm; have my := (prh.my (by omega) (by omega) (by omega)).mp k62; rw [H47, H45] at my; have ge : (0 : Int) = jrRg σ (A1) (x30 : Int32).toInt.toNat := (by rw [jrRg_6 (by rw [(show (σ 70 (A1).toNat).toInt = (σ 70 a1.toNatClampNeg).toInt from by rw [jnc (show a1.toInt = A1 from t1)])]; omega), jrTx_no (by omega)]); exact ⟨q.1.take (v := 0) (by omega) my (Or.inl ⟨by rw [(show (σ 70 (A1).toNat).toInt = (σ 70 a1.toNatClampNeg).toInt from by rw [jnc (show a1.toInt = A1 from t1)])]; omega, ge, (by omega)⟩) (by omega) (by have h9 := jz_0; omega) (by have h9 := tx128; omega), q.2⟩) hP hS (lv_sub hl [0, 1, 2, 5, 6] rfl)
                            · have kc127 := jnlt c127 rfl jz_0
                              refine lv_iload hx hb dX12_putsOn_223 (lv_at hl 1 rfl) ?_
                              refine lv_if_eq (tgt := 237) hx hb dX12_putsOn_225 (of_decide_eq_true rfl) (fun c => absurd c (of_decide_eq_true rfl)) (fun _ => ?_)
                              refine lv_iload hx hb dX12_putsOn_228 (lv_at hl 0 rfl) ?_
                              refine lv_iload_n hx hb dX12_putsOn_230 rfl (lv_at hl 3 rfl) ?_
                              exact by
                               refine lv_icmp_le (tgt := 249) hx hb dX12_putsOn_231 (of_decide_eq_true rfl) (fun c129 => ?_) (fun c129 => ?_)
                               · have kc129 := jle c129 jz_0 rfl
                                 obtain ⟨x130, ex130⟩ : ∃ y : Int32, y = x30 + 1 := ⟨_, rfl⟩
                                 have tx130 : x130.toInt = x30.toInt + 1 := (jadd ex130 rfl jz_1 (by omega) (by omega)).trans (by omega)
                                 refine lv_iinc (v := x130) (lv' := [(4, .int x130), (6, .int 0), (5, .int 1), (3, .int x29), (2, .int x28), (0, .ref (ad 55)), (1, .int a1)]) hx hb dX12_putsOn_249 hl (k := 2) rfl (by rw [ex130]; rfl) (of_decide_eq_true rfl) rfl (fun ls hl => ?_)
                                 refine lv_goto (tgt := 113) hx hb dX12_putsOn_252 (of_decide_eq_true rfl) ?_
                                 exact by exact ihlp26 x28 x29 x130 σ33 _ _ ls (by have h92 := tx130; omega) (by have h92 := tx130; omega) (by have h92 := tx130; omega) (by have h92 := tx130; omega) (by have h92 := tx130; omega) (by have h92 := tx130; omega) (fun i hi => (f41 i hi)) (fun i hi => (f42 i hi))  (fun pr mm => by have prh := H44 pr; have q := q43 pr mm; have ge : (0 : Int) = jrRg σ (A1) (x30 : Int32).toInt.toNat := (by rw [jrRg_6 (by rw [(show (σ 70 (A1).toNat).toInt = (σ 70 a1.toNatClampNeg).toInt from by rw [jnc (show a1.toInt = A1 from t1)])]; omega), jrTx_no (by omega)]); exact ⟨q.1.keep (v := 0) (by omega) (Or.inl ⟨by rw [(show (σ 70 (A1).toNat).toInt = (σ 70 a1.toNatClampNeg).toInt from by rw [jnc (show a1.toInt = A1 from t1)])]; omega, ge, (by omega)⟩) (by have h9 := tx130; omega), q.2⟩) hP hS (lv_sub hl [0, 3, 4, 5, 6] rfl)
                               · have kc129 := jnle c129 jz_0 rfl
                                 refine lv_goto (tgt := 243) hx hb dX12_putsOn_234 (of_decide_eq_true rfl) ?_
                                 exact by
                                  refine lv_iload hx hb dX12_putsOn_243 (lv_at hl 2 rfl) ?_
                                  refine lv_istore_n (lv' := [(2, .int x30), (6, .int 0), (5, .int 1), (4, .int x30), (3, .int x29), (0, .ref (ad 55)), (1, .int a1)]) hx hb dX12_putsOn_245 rfl hl (of_decide_eq_true rfl) rfl (fun ls hl => ?_)
                                  refine lv_iload hx hb dX12_putsOn_246 (lv_at hl 1 rfl) ?_
                                  refine lv_istore_n (lv' := [(3, .int 0), (2, .int x30), (6, .int 0), (5, .int 1), (4, .int x30), (0, .ref (ad 55)), (1, .int a1)]) hx hb dX12_putsOn_248 rfl hl (of_decide_eq_true rfl) rfl (fun ls hl => ?_)
                                  obtain ⟨x131, ex131⟩ : ∃ y : Int32, y = x30 + 1 := ⟨_, rfl⟩
                                  have tx131 : x131.toInt = x30.toInt + 1 := (jadd ex131 rfl jz_1 (by omega) (by omega)).trans (by omega)
                                  refine lv_iinc (v := x131) (lv' := [(4, .int x131), (3, .int 0), (2, .int x30), (6, .int 0), (5, .int 1), (0, .ref (ad 55)), (1, .int a1)]) hx hb dX12_putsOn_249 hl (k := 4) rfl (by rw [ex131]; rfl) (of_decide_eq_true rfl) rfl (fun ls hl => ?_)
                                  refine lv_goto (tgt := 113) hx hb dX12_putsOn_252 (of_decide_eq_true rfl) ?_
                                  exact by exact ihlp26 x30 0 x131 σ33 _ _ ls (by have h91 := jz_0; have h92 := tx131; omega) (by have h91 := jz_0; have h92 := tx131; omega) (by have h91 := jz_0; have h92 := tx131; omega) (by have h91 := jz_0; have h92 := tx131; omega) (by have h91 := jz_0; have h92 := tx131; omega) (by have h91 := jz_0; have h92 := tx131; omega) (fun i hi => (f41 i hi)) (fun i hi => (f42 i hi))  (fun pr mm => by have prh := H44 pr; have q := q43 pr mm; have my := (prh.my (by omega) (by omega) (by omega)).mp k62; rw [H47, H45] at my; have ge : (0 : Int) = jrRg σ (A1) (x30 : Int32).toInt.toNat := (by rw [jrRg_6 (by rw [(show (σ 70 (A1).toNat).toInt = (σ 70 a1.toNatClampNeg).toInt from by rw [jnc (show a1.toInt = A1 from t1)])]; omega), jrTx_no (by omega)]); exact ⟨q.1.take (v := 0) (by omega) my (Or.inl ⟨by rw [(show (σ 70 (A1).toNat).toInt = (σ 70 a1.toNatClampNeg).toInt from by rw [jnc (show a1.toInt = A1 from t1)])]; omega, ge, (by omega)⟩) (by omega) (by have h9 := jz_0; omega) (by have h9 := tx131; omega), q.2⟩) hP hS (lv_sub hl [0, 1, 2, 5, 6] rfl)
                   · exact by
                      obtain ⟨q133, k132⟩ := h61
                      have q133 := q133.symm
                      subst q133
                      have e134 : jmb σ33 x30 = jmb σ x30 := (jmb_fr (f42 27 (of_decide_eq_true rfl)) (f42 30 (of_decide_eq_true rfl)) (f42 31 (of_decide_eq_true rfl)) (f41 56 (of_decide_eq_true rfl)) (f41 69 (of_decide_eq_true rfl)) x30)
                      have n135 : ¬ x30 = B0 := fun h => absurd ((hB0).symm.trans (by rw [← h]; exact e134.symm.trans k132) : (1 : Int32) = 0) (of_decide_eq_true rfl)
                      have k136 := jne n135 rfl rfl
                      refine lv_if_ne (tgt := 134) hx hb dX12_putsOn_128 (of_decide_eq_true rfl) (fun c => absurd (of_decide_eq_true rfl) c) (fun _ => ?_)
                      refine lv_goto (tgt := 249) hx hb dX12_putsOn_131 (of_decide_eq_true rfl) ?_
                      obtain ⟨x137, ex137⟩ : ∃ y : Int32, y = x30 + 1 := ⟨_, rfl⟩
                      exact by
                       have tx137 : x137.toInt = x30.toInt + 1 := (jadd ex137 rfl jz_1 (by omega) (by omega)).trans (by omega)
                       refine lv_iinc (v := x137) (lv' := [(4, .int x137), (3, .int x29), (2, .int x28), (0, .ref (ad 55)), (1, .int a1)]) hx hb dX12_putsOn_249 hl (k := 0) rfl (by rw [ex137]; rfl) (of_decide_eq_true rfl) rfl (fun ls hl => ?_)
                       refine lv_goto (tgt := 113) hx hb dX12_putsOn_252 (of_decide_eq_true rfl) ?_
                       exact by exact ihlp26 x28 x29 x137 σ33 _ _ ls (by have h92 := tx137; omega) (by have h92 := tx137; omega) (by have h92 := tx137; omega) (by have h92 := tx137; omega) (by have h92 := tx137; omega) (by have h92 := tx137; omega) (fun i hi => (f41 i hi)) (fun i hi => (f42 i hi))  (fun pr mm => by have prh := H44 pr; have q := q43 pr mm; have my : ¬ jMy4 (σ33 55 27).toInt (jrLf σ33) (x30 : Int32).toInt.toNat = true := fun z => absurd ((prh.my (by omega) (by omega) (by omega)).mpr z) (by rw [k132]; decide); rw [H47, H45] at my; exact ⟨q.1.skip (by omega) my (by have h9 := tx137; omega), q.2⟩) hP hS (lv_sub hl [0, 1, 2, 3, 4] rfl)
           exact by exact lp26 1000000 (-1) 0 0 σ _ _ ls (by have h90 := jz_m1; have h91 := jz_0; have h92 := jz_0; omega) (by have h90 := jz_m1; have h91 := jz_0; have h92 := jz_0; omega) (by have h90 := jz_m1; have h91 := jz_0; have h92 := jz_0; omega) (by have h90 := jz_m1; have h91 := jz_0; have h92 := jz_0; omega) (by have h90 := jz_m1; have h91 := jz_0; have h92 := jz_0; omega) (by have h90 := jz_m1; have h91 := jz_0; have h92 := jz_0; omega) (fun _ _ => rfl) (fun _ _ => rfl)  (fun pr mm => ⟨jrGt.first (by have h9 := jz_0; omega) (by have h9 := jz_m1; omega) (by have h9 := jz_0; omega), mm⟩) hP hS hl
         · have kc25 := jeq c25 rfl jz_2
           refine lv_aload_n hx hb dX12_putsOn_96 rfl (lv_at hl 0 rfl) ?_
           have p138 : jmb σ B0 = 1 := (jmb_fr rfl rfl rfl rfl rfl B0).trans hB0
           refine jcallV (As := []) (rest := []) ⟨hx, hb, hml, hown, hts⟩ hK hP hA hS hZ ((c_X12_bests l D cI cL ad zz hJ 8).2.2 σ τ B0 p138 hI101 hI102 hI103 hI104 hI105 hI106 hI120 hs_jKept hs_jTR hs_jqSt (by omega) (by omega) (by omega) (by omega)) cw_RX12_280 (jc_55 cI cL ad σ τ) rfl ⟨Nat.le_of_ble_eq_true rfl, Nat.le_of_ble_eq_true rfl⟩ rfl rfl rfl hl.1 rfl (Nat.le_of_ble_eq_true rfl) dX12_putsOn_97 ⟨Nat.zero_le _, Nat.zero_le _⟩ (fun r140 σ139 τ139 H locs h139 hP hS => ?_)
           exact by
            obtain ⟨rfl, f141, f142, p143, p144, p145, w146, h139⟩ := h139
            obtain ⟨k148, h139⟩ := h139
            have h149 := h139
            obtain ⟨q151, k150⟩ := h149
            refine lv_istore_n (lv' := [(2, .int r140), (0, .ref (ad 55)), (1, .int a1)]) hx hb dX12_putsOn_100 rfl hl (of_decide_eq_true rfl) rfl (fun ls hl => ?_)
            refine lv_aload_n hx hb dX12_putsOn_101 rfl (lv_at hl 1 rfl) ?_
            refine va_get (D := D) hx hb hts inlX12 hown hK hP 55 (jc_55 cI cL ad σ139 τ) rfl 37 (of_decide_eq_true rfl) (hts _ kw_33_15) (fun _ h9 => h9) rfl dX12_putsOn_102 ?_
            have z152 : (σ139 55 25).toInt = (σ 55 25).toInt := (congrArg Int32.toInt (show σ139 55 25 = (σ 55 25) from (f142 25 (of_decide_eq_true rfl))))
            have z153 : (σ139 55 26).toInt = (σ 55 26).toInt := (congrArg Int32.toInt (show σ139 55 26 = (σ 55 26) from (f142 26 (of_decide_eq_true rfl))))
            have z154 : (σ139 55 27).toInt = (σ 55 27).toInt := (congrArg Int32.toInt (show σ139 55 27 = (σ 55 27) from (f142 27 (of_decide_eq_true rfl))))
            exact by exact hret (σ139 55 37) σ139 τ _ _ _ _ rfl ⟨rfl, (fun i hi => (f141 i hi)), (fun i hi => (f142 i hi)), p143, p144, p145, (fun pr mm => by have r9 := w146 pr mm; exact ⟨jrP.best (w := (σ139 55 37).toInt) (by rw [(show (σ 70 (A1).toNat).toInt = (σ 70 a1.toNatClampNeg).toInt from by rw [jnc (show a1.toInt = A1 from t1)])]; omega) r9.1.1 (by omega) (by omega), r9.2⟩), ⟨trivial, (by omega)⟩⟩ hP hS dX12_putsOn_105
      · have kc24 := jeq c24 rfl jz_4
        refine lv_aload_n hx hb dX12_putsOn_27 rfl (lv_at hl 0 rfl) ?_
        refine va_get (D := D) hx hb hts inlX12 hown hK hP 55 (jc_55 cI cL ad σ τ) rfl 34 (of_decide_eq_true rfl) (hts _ kw_7_19) (fun _ h9 => h9) rfl dX12_putsOn_28 ?_
        refine lv_iload_n hx hb dX12_putsOn_31 rfl (lv_at hl 1 rfl) ?_
        exact by
         refine jald hx hb hK hP (jc_71 cI cL ad σ τ) (jin t1 (by omega) (by omega)) dX12_putsOn_32 ?_
         have g155 := w13 _ (jnat (x := a1) t1 (n := 20) (by omega) (of_decide_eq_true rfl))
         refine jtopr (y := (σ 71 a1.toNatClampNeg)) rfl ?_
         refine lv_if_le (tgt := 61) hx hb dX12_putsOn_33 (of_decide_eq_true rfl) (fun c156 => ?_) (fun c156 => ?_)
         · have kc156 := jle c156 rfl jz_0
           refine lv_iconst (v := (-1)) hx hb dX12_putsOn_61 (of_decide_eq_true rfl) ?_
           refine lv_istore_n (lv' := [(2, .int (-1)), (0, .ref (ad 55)), (1, .int a1)]) hx hb dX12_putsOn_62 rfl hl (of_decide_eq_true rfl) rfl (fun ls hl => ?_)
           refine lv_aload_n hx hb dX12_putsOn_63 rfl (lv_at hl 1 rfl) ?_
           refine lv_iload_n hx hb dX12_putsOn_64 rfl (lv_at hl 2 rfl) ?_
           exact by
            refine lv_iload_n hx hb dX12_putsOn_65 rfl (lv_at hl 0 rfl) ?_
            refine lv_if_lt (tgt := 81) hx hb dX12_putsOn_66 (of_decide_eq_true rfl) (fun _ => ?_) (fun c => absurd (of_decide_eq_true rfl) c)
            refine lv_iconst (v := (-1)) hx hb dX12_putsOn_81 (of_decide_eq_true rfl) ?_
            have p157 : jmb σ B0 = 1 := (jmb_fr rfl rfl rfl rfl rfl B0).trans hB0
            refine jcallV (As := [.int a1, .int (-1)]) (rest := []) ⟨hx, hb, hml, hown, hts⟩ hK hP hA hS hZ (c_X12_turnOf l D cI cL ad zz hJ σ τ B0 p157 a1 (A1) t1 (-1) ((-1)) jz_m1 hI102 hI106 (by omega) (by omega) (by omega) (by omega)) cw_RX12_277 (jc_55 cI cL ad σ τ) rfl ⟨Nat.le_of_ble_eq_true rfl, Nat.le_of_ble_eq_true rfl⟩ rfl rfl rfl hl.1 rfl (Nat.le_of_ble_eq_true rfl) dX12_putsOn_82 ⟨Nat.zero_le _, Nat.zero_le _⟩ (fun r159 σ158 τ158 H locs h158 hP hS => ?_)
            obtain ⟨⟨rfl, rfl⟩, w160, h158⟩ := h158
            have h161 := h158
            obtain ⟨q163, k162⟩ := h161
            exact by exact hret r159 σ τ _ _ _ _ rfl ⟨rfl, (fun _ _ => rfl), (fun _ _ => rfl), hs_jKept, hs_jTR, hs_jqSt, (fun pr mm => ⟨pr.keep (x := (-1)) (b := (-1)) (by omega) (by omega) (by rw [(show (σ 70 (A1).toNat).toInt = (σ 70 a1.toNatClampNeg).toInt from by rw [jnc (show a1.toInt = A1 from t1)])]; omega) (Or.inl ⟨by omega, by rw [(show (σ 71 (A1).toNat) = (σ 71 a1.toNatClampNeg) from by rw [jnc (show a1.toInt = A1 from t1)]), (show (σ 73 (A1).toNat) = (σ 73 a1.toNatClampNeg) from by rw [jnc (show a1.toInt = A1 from t1)])]; omega⟩) (by rw [(show (σ 71 (A1).toNat) = (σ 71 a1.toNatClampNeg) from by rw [jnc (show a1.toInt = A1 from t1)])]; omega) (Or.inr ⟨by omega, Or.inl (by omega)⟩) w160, mm⟩), ⟨trivial, (by omega)⟩⟩ hP hS dX12_putsOn_85
         · exact by
            have kc156 := jnle c156 rfl jz_0
            refine lv_aload_n hx hb dX12_putsOn_36 rfl (lv_at hl 0 rfl) ?_
            refine va_get (D := D) hx hb hts inlX12 hown hK hP 55 (jc_55 cI cL ad σ τ) rfl 26 (of_decide_eq_true rfl) (hts _ kw_23_5) (fun _ h9 => h9) rfl dX12_putsOn_37 ?_
            refine lv_aload_n hx hb dX12_putsOn_40 rfl (lv_at hl 0 rfl) ?_
            refine va_get (D := D) hx hb hts inlX12 hown hK hP 55 (jc_55 cI cL ad σ τ) rfl 36 (of_decide_eq_true rfl) (hts _ kw_7_21) (fun _ h9 => h9) rfl dX12_putsOn_41 ?_
            refine lv_iload_n hx hb dX12_putsOn_44 rfl (lv_at hl 1 rfl) ?_
            refine jald hx hb hK hP (jc_73 cI cL ad σ τ) (jin t1 (by omega) (by omega)) dX12_putsOn_45 ?_
            refine jtopr (y := (σ 73 a1.toNatClampNeg)) rfl ?_
            refine lv_icmp_ge (tgt := 61) hx hb dX12_putsOn_46 (of_decide_eq_true rfl) (fun c164 => ?_) (fun c164 => ?_)
            · exact by
               have kc164 := jle c164 rfl rfl
               refine lv_iconst (v := (-1)) hx hb dX12_putsOn_61 (of_decide_eq_true rfl) ?_
               refine lv_istore_n (lv' := [(2, .int (-1)), (0, .ref (ad 55)), (1, .int a1)]) hx hb dX12_putsOn_62 rfl hl (of_decide_eq_true rfl) rfl (fun ls hl => ?_)
               refine lv_aload_n hx hb dX12_putsOn_63 rfl (lv_at hl 1 rfl) ?_
               refine lv_iload_n hx hb dX12_putsOn_64 rfl (lv_at hl 2 rfl) ?_
               refine lv_iload_n hx hb dX12_putsOn_65 rfl (lv_at hl 0 rfl) ?_
               refine lv_if_lt (tgt := 81) hx hb dX12_putsOn_66 (of_decide_eq_true rfl) (fun _ => ?_) (fun c => absurd (of_decide_eq_true rfl) c)
               refine lv_iconst (v := (-1)) hx hb dX12_putsOn_81 (of_decide_eq_true rfl) ?_
               have p165 : jmb σ B0 = 1 := (jmb_fr rfl rfl rfl rfl rfl B0).trans hB0
               exact by
                refine jcallV (As := [.int a1, .int (-1)]) (rest := []) ⟨hx, hb, hml, hown, hts⟩ hK hP hA hS hZ (c_X12_turnOf l D cI cL ad zz hJ σ τ B0 p165 a1 (A1) t1 (-1) ((-1)) jz_m1 hI102 hI106 (by omega) (by omega) (by omega) (by omega)) cw_RX12_277 (jc_55 cI cL ad σ τ) rfl ⟨Nat.le_of_ble_eq_true rfl, Nat.le_of_ble_eq_true rfl⟩ rfl rfl rfl hl.1 rfl (Nat.le_of_ble_eq_true rfl) dX12_putsOn_82 ⟨Nat.zero_le _, Nat.zero_le _⟩ (fun r167 σ166 τ166 H locs h166 hP hS => ?_)
                obtain ⟨⟨rfl, rfl⟩, w168, h166⟩ := h166
                have h169 := h166
                obtain ⟨q171, k170⟩ := h169
                exact by exact hret r167 σ τ _ _ _ _ rfl ⟨rfl, (fun _ _ => rfl), (fun _ _ => rfl), hs_jKept, hs_jTR, hs_jqSt, (fun pr mm => ⟨pr.keep (x := (-1)) (b := (-1)) (by omega) (by omega) (by rw [(show (σ 70 (A1).toNat).toInt = (σ 70 a1.toNatClampNeg).toInt from by rw [jnc (show a1.toInt = A1 from t1)])]; omega) (Or.inl ⟨by omega, by rw [(show (σ 71 (A1).toNat) = (σ 71 a1.toNatClampNeg) from by rw [jnc (show a1.toInt = A1 from t1)]), (show (σ 73 (A1).toNat) = (σ 73 a1.toNatClampNeg) from by rw [jnc (show a1.toInt = A1 from t1)])]; omega⟩) (by rw [(show (σ 71 (A1).toNat) = (σ 71 a1.toNatClampNeg) from by rw [jnc (show a1.toInt = A1 from t1)])]; omega) (Or.inr ⟨by omega, Or.inl (by omega)⟩) w168, mm⟩), ⟨trivial, (by omega)⟩⟩ hP hS dX12_putsOn_85
            · have kc164 := jnle c164 rfl rfl
              refine lv_aload_n hx hb dX12_putsOn_49 rfl (lv_at hl 0 rfl) ?_
              refine va_get (D := D) hx hb hts inlX12 hown hK hP 55 (jc_55 cI cL ad σ τ) rfl 35 (of_decide_eq_true rfl) (hts _ kw_7_20) (fun _ h9 => h9) rfl dX12_putsOn_50 ?_
              refine lv_bipush (v := 8) hx hb dX12_putsOn_53 (of_decide_eq_true rfl) ?_
              refine lv_iload_n hx hb dX12_putsOn_55 rfl (lv_at hl 1 rfl) ?_
              refine lv_imul hx hb dX12_putsOn_56 ?_
              refine lv_topi (fun x172 ex172 => ?_)
              exact by
               have tx172 : x172.toInt = 8 * A1 := (jmul ex172 jz_8 t1 (by omega) (by omega)).trans (by omega)
               refine jald hx hb hK hP (jc_72 cI cL ad σ τ) (jin tx172 (by omega) (by omega)) dX12_putsOn_57 ?_
               have g173 := w14 _ (jnat (x := x172) tx172 (n := 160) (by omega) (of_decide_eq_true rfl))
               refine jtopr (y := (σ 72 x172.toNatClampNeg)) rfl ?_
               refine lv_goto (tgt := 62) hx hb dX12_putsOn_58 (of_decide_eq_true rfl) ?_
               refine lv_istore_n (lv' := [(2, .int (σ 72 x172.toNatClampNeg)), (0, .ref (ad 55)), (1, .int a1)]) hx hb dX12_putsOn_62 rfl hl (of_decide_eq_true rfl) rfl (fun ls hl => ?_)
               refine lv_aload_n hx hb dX12_putsOn_63 rfl (lv_at hl 1 rfl) ?_
               refine lv_iload_n hx hb dX12_putsOn_64 rfl (lv_at hl 2 rfl) ?_
               refine lv_iload_n hx hb dX12_putsOn_65 rfl (lv_at hl 0 rfl) ?_
               exact by
                refine lv_if_lt (tgt := 81) hx hb dX12_putsOn_66 (of_decide_eq_true rfl) (fun c => absurd (jlt c rfl jz_0) (by omega)) (fun c174 => ?_)
                have kc174 := jnlt c174 rfl jz_0
                refine lv_aload_n hx hb dX12_putsOn_69 rfl (lv_at hl 1 rfl) ?_
                refine lv_iload_n hx hb dX12_putsOn_70 rfl (lv_at hl 0 rfl) ?_
                refine jcallV (As := [.int (σ 72 x172.toNatClampNeg)]) (rest := [.int a1, .ref (ad 55)]) ⟨hx, hb, hml, hown, hts⟩ hK hP hA hS hZ (c_X12_leastBut l D cI cL ad zz hJ σ τ (σ 72 x172.toNatClampNeg) ((σ 72 x172.toNatClampNeg).toInt) rfl hI102) cw_RX12_274 (jc_55 cI cL ad σ τ) rfl ⟨Nat.le_of_ble_eq_true rfl, Nat.le_of_ble_eq_true rfl⟩ rfl rfl rfl hl.1 rfl (Nat.le_of_ble_eq_true rfl) dX12_putsOn_71 ⟨Nat.zero_le _, Nat.zero_le _⟩ (fun r176 σ175 τ175 H locs h175 hP hS => ?_)
                obtain ⟨⟨rfl, rfl⟩, w177, h175⟩ := h175
                rcases h175 with h178 | h179
                · obtain ⟨q184, k180, k181, k182, k183⟩ := h178
                  refine lv_if_lt (tgt := 81) hx hb dX12_putsOn_74 (of_decide_eq_true rfl) (fun c => absurd (jlt c rfl jz_0) (by omega)) (fun c185 => ?_)
                  exact by
                   have kc185 := jnlt c185 rfl jz_0
                   refine lv_iload_n hx hb dX12_putsOn_77 rfl (lv_at hl 0 rfl) ?_
                   refine lv_goto (tgt := 82) hx hb dX12_putsOn_78 (of_decide_eq_true rfl) ?_
                   have p186 : jmb σ r176 = 1 := (jmb_fr rfl rfl rfl rfl rfl r176).trans k183
                   refine jcallV (As := [.int a1, .int (σ 72 x172.toNatClampNeg)]) (rest := []) ⟨hx, hb, hml, hown, hts⟩ hK hP hA hS hZ (c_X12_turnOf l D cI cL ad zz hJ σ τ r176 p186 a1 (A1) t1 (σ 72 x172.toNatClampNeg) ((σ 72 x172.toNatClampNeg).toInt) rfl hI102 hI106 (by omega) (by omega) (by omega) (by omega)) cw_RX12_277 (jc_55 cI cL ad σ τ) rfl ⟨Nat.le_of_ble_eq_true rfl, Nat.le_of_ble_eq_true rfl⟩ rfl rfl rfl hl.1 rfl (Nat.le_of_ble_eq_true rfl) dX12_putsOn_82 ⟨Nat.zero_le _, Nat.zero_le _⟩ (fun r188 σ187 τ187 H locs h187 hP hS => ?_)
                   obtain ⟨⟨rfl, rfl⟩, w189, h187⟩ := h187
                   have h190 := h187
                   obtain ⟨q192, k191⟩ := h190
                   exact by exact hret r188 σ τ _ _ _ _ rfl ⟨rfl, (fun _ _ => rfl), (fun _ _ => rfl), hs_jKept, hs_jTR, hs_jqSt, (fun pr mm => ⟨pr.keep (x := ((σ 72 x172.toNatClampNeg) : Int32).toInt) (b := (σ 72 x172.toNatClampNeg).toInt) (by omega) (by omega) (by rw [(show (σ 70 (A1).toNat).toInt = (σ 70 a1.toNatClampNeg).toInt from by rw [jnc (show a1.toInt = A1 from t1)])]; omega) (Or.inr ⟨by rw [(show (σ 71 (A1).toNat) = (σ 71 a1.toNatClampNeg) from by rw [jnc (show a1.toInt = A1 from t1)])]; omega, by rw [(show (σ 73 (A1).toNat) = (σ 73 a1.toNatClampNeg) from by rw [jnc (show a1.toInt = A1 from t1)])]; omega, (by rw [jnc (show x172.toInt = 8 * (A1) by omega)])⟩) (by rw [(show (σ 71 (A1).toNat) = (σ 71 a1.toNatClampNeg) from by rw [jnc (show a1.toInt = A1 from t1)])]; omega) (Or.inl ⟨rfl, by omega, (by rw [← w177]; omega)⟩) w189, mm⟩), ⟨trivial, (by omega)⟩⟩ hP hS dX12_putsOn_85
                · exact by
                   obtain ⟨q194, k193⟩ := h179
                   have q194 := q194.symm
                   subst q194
                   refine lv_if_lt (tgt := 81) hx hb dX12_putsOn_74 (of_decide_eq_true rfl) (fun _ => ?_) (fun c => absurd (of_decide_eq_true rfl) c)
                   refine lv_iconst (v := (-1)) hx hb dX12_putsOn_81 (of_decide_eq_true rfl) ?_
                   have p195 : jmb σ B0 = 1 := (jmb_fr rfl rfl rfl rfl rfl B0).trans hB0
                   refine jcallV (As := [.int a1, .int (-1)]) (rest := []) ⟨hx, hb, hml, hown, hts⟩ hK hP hA hS hZ (c_X12_turnOf l D cI cL ad zz hJ σ τ B0 p195 a1 (A1) t1 (-1) ((-1)) jz_m1 hI102 hI106 (by omega) (by omega) (by omega) (by omega)) cw_RX12_277 (jc_55 cI cL ad σ τ) rfl ⟨Nat.le_of_ble_eq_true rfl, Nat.le_of_ble_eq_true rfl⟩ rfl rfl rfl hl.1 rfl (Nat.le_of_ble_eq_true rfl) dX12_putsOn_82 ⟨Nat.zero_le _, Nat.zero_le _⟩ (fun r197 σ196 τ196 H locs h196 hP hS => ?_)
                   obtain ⟨⟨rfl, rfl⟩, w198, h196⟩ := h196
                   have h199 := h196
                   exact by
                    obtain ⟨q201, k200⟩ := h199
                    exact by exact hret r197 σ τ _ _ _ _ rfl ⟨rfl, (fun _ _ => rfl), (fun _ _ => rfl), hs_jKept, hs_jTR, hs_jqSt, (fun pr mm => ⟨pr.keep (x := ((σ 72 x172.toNatClampNeg) : Int32).toInt) (b := (-1)) (by omega) (by omega) (by rw [(show (σ 70 (A1).toNat).toInt = (σ 70 a1.toNatClampNeg).toInt from by rw [jnc (show a1.toInt = A1 from t1)])]; omega) (Or.inr ⟨by rw [(show (σ 71 (A1).toNat) = (σ 71 a1.toNatClampNeg) from by rw [jnc (show a1.toInt = A1 from t1)])]; omega, by rw [(show (σ 73 (A1).toNat) = (σ 73 a1.toNatClampNeg) from by rw [jnc (show a1.toInt = A1 from t1)])]; omega, (by rw [jnc (show x172.toInt = 8 * (A1) by omega)])⟩) (by rw [(show (σ 71 (A1).toNat) = (σ 71 a1.toNatClampNeg) from by rw [jnc (show a1.toInt = A1 from t1)])]; omega) (Or.inr ⟨by omega, Or.inr (by rw [← w177]; first | decide | omega)⟩) w198, mm⟩), ⟨trivial, (by omega)⟩⟩ hP hS dX12_putsOn_85
   · have kc22 := jeq c22 rfl jz_1
     refine lv_aload_n hx hb dX12_putsOn_10 rfl (lv_at hl 0 rfl) ?_
     refine lv_iload_n hx hb dX12_putsOn_11 rfl (lv_at hl 1 rfl) ?_
     refine lv_iconst (v := (-1)) hx hb dX12_putsOn_12 (of_decide_eq_true rfl) ?_
     have p202 : jmb σ B0 = 1 := (jmb_fr rfl rfl rfl rfl rfl B0).trans hB0
     refine jcallV (As := [.int a1, .int (-1)]) (rest := []) ⟨hx, hb, hml, hown, hts⟩ hK hP hA hS hZ (c_X12_turnOf l D cI cL ad zz hJ σ τ B0 p202 a1 (A1) t1 (-1) ((-1)) jz_m1 hI102 hI106 (by omega) (by omega) (by omega) (by omega)) cw_RX12_277 (jc_55 cI cL ad σ τ) rfl ⟨Nat.le_of_ble_eq_true rfl, Nat.le_of_ble_eq_true rfl⟩ rfl rfl rfl hl.1 rfl (Nat.le_of_ble_eq_true rfl) dX12_putsOn_13 ⟨Nat.zero_le _, Nat.zero_le _⟩ (fun r204 σ203 τ203 H locs h203 hP hS => ?_)
     obtain ⟨⟨rfl, rfl⟩, w205, h203⟩ := h203
     exact by
      have h206 := h203
      obtain ⟨q208, k207⟩ := h206
      exact by exact hret r204 σ τ _ _ _ _ rfl ⟨rfl, (fun _ _ => rfl), (fun _ _ => rfl), hs_jKept, hs_jTR, hs_jqSt, (fun pr mm => ⟨pr.turn (b := (-1)) (by omega) (by omega) (by rw [(show (σ 70 (A1).toNat).toInt = (σ 70 a1.toNatClampNeg).toInt from by rw [jnc (show a1.toInt = A1 from t1)])]; omega) w205, mm⟩), ⟨trivial, (by omega)⟩⟩ hP hS dX12_putsOn_16
set_option maxHeartbeats 4000000 in
set_option maxRecDepth 100000 in
theorem c_X12_means_mf_g (l : Launch) (D : va_G) (cI cL : ClassId) (ad zz : Nat → Nat) (hJ : jD ad) (n : Nat) (h_mf : ∀ (σ : Nat → Nat → Int32) (τ : Nat → Nat → Int64) (a1 : Int32) (A1 : Int) (t1 : a1.toInt = A1) (hI101 : jI101 σ) (hI102 : jI102 σ) (hI103 : jI103 σ) (hI104 : jI104 σ) (hI105 : jI105 σ) (hI106 : jI106 σ) (hI120 : jI120 σ) (hs_jKept : jKept σ) (hs_jTR : jTR σ) (hs_jqSt : jqSt σ) (hp0 : 0 ≤ A1 ∧ A1 ≤ 19) (hp1 : (σ 55 12).toInt - (σ 55 26).toInt ≤ 8) (hp2 : (σ 55 12).toInt - (σ 55 26).toInt ≤ (((n) : Nat) : Int)), jM l yX12_meanFrom cX12_meanFrom 9 (some .int) ({ frames := (106 + 4 * (n)), cells := 0, slots := 0, locals := (5261 + 240 * (n)) }) D cI cL ad zz [.ref (ad 55), .int a1] σ τ (fun r σ' τ' => τ = τ' ∧ (∀ i : Nat, (i < 55 ∨ 55 < i) ∧ (i < 66 ∨ 66 < i) ∧ (i < 74 ∨ 78 < i) → σ' i = σ i) ∧ (∀ k : Nat, (k < 18 ∨ 18 < k) ∧ (k < 19 ∨ 19 < k) ∧ (k < 20 ∨ 20 < k) ∧ (k < 21 ∨ 21 < k) ∧ (k < 22 ∨ 22 < k) ∧ (k < 37 ∨ 37 < k) → σ' 55 k = σ 55 k) ∧ (jKept σ') ∧ (jTR σ') ∧ (jqSt σ') ∧ True)) (σ : Nat → Nat → Int32) (τ : Nat → Nat → Int64) (a1 : Int32) (A1 : Int) (t1 : a1.toInt = A1) (hI101 : jI101 σ) (hI102 : jI102 σ) (hI103 : jI103 σ) (hI104 : jI104 σ) (hI105 : jI105 σ) (hI106 : jI106 σ) (hI120 : jI120 σ) (hs_jKept : jKept σ) (hs_jTR : jTR σ) (hs_jqSt : jqSt σ) (hp0 : 0 ≤ A1 ∧ A1 ≤ 19) (hp1 : (σ 55 12).toInt - (σ 55 26).toInt ≤ 8) (hp2 : (σ 55 12).toInt - (σ 55 26).toInt ≤ (((n + 1) : Nat) : Int)) : jM l yX12_meanFrom cX12_meanFrom 9 (some .int) ({ frames := (106 + 4 * (n + 1)), cells := 0, slots := 0, locals := (5261 + 240 * (n + 1)) }) D cI cL ad zz [.ref (ad 55), .int a1] σ τ (fun r σ' τ' => τ = τ' ∧ (∀ i : Nat, (i < 55 ∨ 55 < i) ∧ (i < 66 ∨ 66 < i) ∧ (i < 74 ∨ 78 < i) → σ' i = σ i) ∧ (∀ k : Nat, (k < 18 ∨ 18 < k) ∧ (k < 19 ∨ 19 < k) ∧ (k < 20 ∨ 20 < k) ∧ (k < 21 ∨ 21 < k) ∧ (k < 22 ∨ 22 < k) ∧ (k < 37 ∨ 37 < k) → σ' 55 k = σ 55 k) ∧ (jKept σ') ∧ (jTR σ') ∧ (jqSt σ') ∧ True) := by
  refine jM.of hJ (by decide +kernel) (nt := .int) rfl (Nat.le_of_ble_eq_true rfl) ?_
  intro p e s m args below meth c Q ls hC hret hl hP
  obtain ⟨hx, hb, hr, hml, hown, hts, hK, -, hlocks, hZ⟩ := hC
  have hown : s.vm.findClass RX12 = some m.cls := hown
  have hS : va_S (jA ad) s.heap s.heap [] := va_S.rf
  have hA : ∀ q, jA ad q → jA ad q := fun _ h => h
  have hl : lv_has ls 9 [(0, .ref (ad 55)), (1, .int a1)] := hl
  have g1 := jrg t1
  obtain ⟨i1, w2, w3⟩ : (0 ≤ (σ 55 6).toInt ∧ (σ 55 6).toInt ≤ 4) ∧ (∀ k : Nat, k < 4 → 0 ≤ (σ 60 k).toInt ∧ (σ 60 k).toInt ≤ 50) ∧ (∀ k : Nat, k < 4 → 0 ≤ (σ 61 k).toInt ∧ (σ 61 k).toInt ≤ 20) := id hI102
  obtain ⟨i4, i5, i6, w7, w8⟩ : (1 ≤ (σ 55 10).toInt ∧ (σ 55 10).toInt ≤ 8) ∧ (1 ≤ (σ 55 12).toInt ∧ (σ 55 12).toInt ≤ 12) ∧ (0 ≤ (σ 55 13).toInt ∧ (σ 55 13).toInt ≤ 999) ∧ (∀ k : Nat, k < 8 → 0 ≤ (σ 62 k).toInt ∧ (σ 62 k).toInt ≤ 3) ∧ (∀ k : Nat, k < 8 → 0 ≤ (σ 67 k).toInt ∧ (σ 67 k).toInt ≤ 3) := id hI104
  obtain ⟨i9, i10, i11, i12, i13, w14⟩ : (0 ≤ (σ 55 25).toInt) ∧ ((σ 55 25).toInt ≤ (σ 55 10).toInt) ∧ (0 ≤ (σ 55 26).toInt) ∧ ((σ 55 26).toInt ≤ (σ 55 12).toInt) ∧ ((-1) ≤ (σ 55 27).toInt ∧ (σ 55 27).toInt ≤ 3) ∧ (∀ k : Nat, k < 4 → 0 ≤ (σ 68 k).toInt ∧ (σ 68 k).toInt ≤ 3) := id hI120
  refine lv_aload_n hx hb dX12_meanFrom_0 rfl (lv_at hl 0 rfl) ?_
  refine jcallV (As := []) (rest := []) ⟨hx, hb, hml, hown, hts⟩ hK hP hA hS hZ (c_X12_isEnded l D cI cL ad zz hJ σ τ hI102 hI104 hI120) cw_RX12_307 (jc_55 cI cL ad σ τ) rfl ⟨by dsimp only; omega, by dsimp only; omega⟩ rfl rfl rfl hl.1 rfl (Nat.le_of_ble_eq_true rfl) dX12_meanFrom_1 ⟨Nat.zero_le _, Nat.zero_le _⟩ (fun r16 σ15 τ15 H locs h15 hP hS => ?_)
  obtain ⟨⟨rfl, rfl⟩, h15⟩ := h15
  rcases h15 with h17 | h18
  · obtain ⟨q20, k19⟩ := h17
    have q20 := q20.symm
    subst q20
    refine lv_if_eq (tgt := 9) hx hb dX12_meanFrom_4 (of_decide_eq_true rfl) (fun c => absurd c (of_decide_eq_true rfl)) (fun _ => ?_)
    refine lv_iconst (v := 0) hx hb dX12_meanFrom_7 (of_decide_eq_true rfl) ?_
    exact hret 0 σ τ _ _ _ _ rfl ⟨rfl, (fun _ _ => rfl), (fun _ _ => rfl), hs_jKept, hs_jTR, hs_jqSt, trivial⟩ hP hS dX12_meanFrom_8
  · obtain ⟨q24, k21, k22, k23⟩ := h18
    have q24 := q24.symm
    subst q24
    obtain ⟨B25, k26, k27, w28⟩ := k23
    refine lv_if_eq (tgt := 9) hx hb dX12_meanFrom_4 (of_decide_eq_true rfl) (fun _ => ?_) (fun c => absurd (of_decide_eq_true rfl) c)
    refine lv_aload_n hx hb dX12_meanFrom_9 rfl (lv_at hl 0 rfl) ?_
    refine lv_iload_n hx hb dX12_meanFrom_10 rfl (lv_at hl 1 rfl) ?_
    have p29 : jmb σ B25 = 1 := (jmb_fr rfl rfl rfl rfl rfl B25).trans w28
    exact by
     refine jcallV (As := [.int a1]) (rest := []) ⟨hx, hb, hml, hown, hts⟩ hK hP hA hS hZ (c_X12_putsOn l D cI cL ad zz hJ σ τ B25 p29 a1 (A1) t1 hI101 hI102 hI103 hI104 hI105 hI106 hI120 hs_jKept hs_jTR hs_jqSt (by omega) (by omega) (by omega) (by omega) (by omega)) cw_RX12_321 (jc_55 cI cL ad σ τ) rfl ⟨by dsimp only; omega, by dsimp only; omega⟩ rfl rfl rfl hl.1 rfl (Nat.le_of_ble_eq_true rfl) dX12_meanFrom_11 ⟨Nat.zero_le _, Nat.zero_le _⟩ (fun r31 σ30 τ30 H locs h30 hP hS => ?_)
     obtain ⟨rfl, f32, f33, p34, p35, p36, w37, h30⟩ := h30
     have h39 := h30
     obtain ⟨q41, k40⟩ := h39
     refine lv_istore_n (lv' := [(2, .int r31), (0, .ref (ad 55)), (1, .int a1)]) hx hb dX12_meanFrom_14 rfl hl (of_decide_eq_true rfl) rfl (fun ls hl => ?_)
     refine lv_aload_n hx hb dX12_meanFrom_15 rfl (lv_at hl 1 rfl) ?_
     refine va_get (D := D) hx hb hts inlX12 hown hK hP 55 (jc_55 cI cL ad σ30 τ) rfl 11 (of_decide_eq_true rfl) (hts _ kw_7_8) (fun _ h9 => h9) rfl dX12_meanFrom_16 ?_
     refine lv_aload_n hx hb dX12_meanFrom_19 rfl (lv_at hl 1 rfl) ?_
     refine va_get (D := D) hx hb hts inlX12 hown hK hP 55 (jc_55 cI cL ad σ30 τ) rfl 25 (of_decide_eq_true rfl) (hts _ kw_23_6) (fun _ h9 => h9) rfl dX12_meanFrom_20 ?_
     have m42 : σ30 55 25 = (σ 55 25) := (f33 25 (of_decide_eq_true rfl))
     refine jtopr m42 ?_
     exact by
      refine jald hx hb hK hP (jc_62 cI cL ad σ30 τ) (jin rfl (by omega) (by omega)) dX12_meanFrom_23 ?_
      have w43 : ∀ k : Nat, k < 8 → 0 ≤ (σ30 62 k).toInt ∧ (σ30 62 k).toInt ≤ 3 := (jrr_fr (f32 62 (of_decide_eq_true rfl)) w7)
      have g44 := w43 _ (jnat (x := (σ 55 25)) rfl (n := 8) (by omega) (of_decide_eq_true rfl))
      refine lv_topi (fun x45 ex45 => ?_)
      rw [← ex45] at g44
      refine lv_istore_n (lv' := [(3, .int x45), (2, .int r31), (0, .ref (ad 55)), (1, .int a1)]) hx hb dX12_meanFrom_24 rfl hl (of_decide_eq_true rfl) rfl (fun ls hl => ?_)
      refine lv_aload_n hx hb dX12_meanFrom_25 rfl (lv_at hl 2 rfl) ?_
      refine lv_iload_n hx hb dX12_meanFrom_26 rfl (lv_at hl 1 rfl) ?_
      refine lv_iload_n hx hb dX12_meanFrom_27 rfl (lv_at hl 0 rfl) ?_
      exact by
       have I46 : jI101 σ30 := jI101_fr (f33 4 (of_decide_eq_true rfl)) (f33 5 (of_decide_eq_true rfl)) (f32 56 (of_decide_eq_true rfl)) (f32 57 (of_decide_eq_true rfl)) (f32 58 (of_decide_eq_true rfl)) (f32 59 (of_decide_eq_true rfl)) hI101
       have I47 : jI102 σ30 := jI102_fr (f33 6 (of_decide_eq_true rfl)) (f32 60 (of_decide_eq_true rfl)) (f32 61 (of_decide_eq_true rfl)) hI102
       have I48 : jI103 σ30 := jI103_fr (f33 9 (of_decide_eq_true rfl)) hI103
       have I49 : jI105 σ30 := jI105_fr (f33 15 (of_decide_eq_true rfl)) (f32 65 (of_decide_eq_true rfl)) hI105
       have w50 : ∀ k : Nat, k < 4 → 0 ≤ (σ30 68 k).toInt ∧ (σ30 68 k).toInt ≤ 3 := (jrr_fr (f32 68 (of_decide_eq_true rfl)) w14)
       refine jcallV (As := [.int r31, .int x45]) (rest := []) ⟨hx, hb, hml, hown, hts⟩ hK hP hA hS hZ (c_X12_outBy l D cI cL ad zz hJ σ30 τ r31 (r31.toInt) rfl x45 (x45.toInt) rfl I46 I47 I48 I49 w50 p35 (by omega) (by omega)) cw_RX12_259 (jc_55 cI cL ad σ30 τ) rfl ⟨by dsimp only; omega, by dsimp only; omega⟩ rfl rfl rfl hl.1 rfl (Nat.le_of_ble_eq_true rfl) dX12_meanFrom_28 ⟨Nat.zero_le _, Nat.zero_le _⟩ (fun r52 σ51 τ51 H locs h51 hP hS => ?_)
       obtain ⟨rfl, f53, f54, p55, w56, h51⟩ := h51
       have h58 := h51
       obtain ⟨q60, k59⟩ := h58
       exact by
        refine lv_istore (lv' := [(4, .int r52), (3, .int x45), (2, .int r31), (0, .ref (ad 55)), (1, .int a1)]) hx hb dX12_meanFrom_31 hl (of_decide_eq_true rfl) rfl (fun ls hl => ?_)
        refine lv_sipush (v := 1000) hx hb dX12_meanFrom_33 (of_decide_eq_true rfl) ?_
        refine lv_aload_n hx hb dX12_meanFrom_36 rfl (lv_at hl 3 rfl) ?_
        refine lv_iload_n hx hb dX12_meanFrom_37 rfl (lv_at hl 2 rfl) ?_
        refine lv_iload_n hx hb dX12_meanFrom_38 rfl (lv_at hl 1 rfl) ?_
        have I61 : jI101 σ51 := jI101_fr (f54 4 (of_decide_eq_true rfl)) (f54 5 (of_decide_eq_true rfl)) (f53 56 (of_decide_eq_true rfl)) (f53 57 (of_decide_eq_true rfl)) (f53 58 (of_decide_eq_true rfl)) (f53 59 (of_decide_eq_true rfl)) I46
        have I62 : jI102 σ51 := jI102_fr (f54 6 (of_decide_eq_true rfl)) (f53 60 (of_decide_eq_true rfl)) (f53 61 (of_decide_eq_true rfl)) I47
        have I63 : jI103 σ51 := jI103_fr (f54 9 (of_decide_eq_true rfl)) I48
        have w64 : ∀ k : Nat, k < 4 → 0 ≤ (σ51 68 k).toInt ∧ (σ51 68 k).toInt ≤ 3 := (jrr_fr (f53 68 (of_decide_eq_true rfl)) w50)
        exact by
         refine jcallV (As := [.int r31, .int x45]) (rest := [.int 1000]) ⟨hx, hb, hml, hown, hts⟩ hK hP hA hS hZ (c_X12_runsBy l D cI cL ad zz hJ σ51 τ r31 (r31.toInt) rfl x45 (x45.toInt) rfl I61 I62 I63 w64 (by omega) (by omega)) cw_RX12_262 (jc_55 cI cL ad σ51 τ) rfl ⟨by dsimp only; omega, by dsimp only; omega⟩ rfl rfl rfl hl.1 rfl (Nat.le_of_ble_eq_true rfl) dX12_meanFrom_39 ⟨Nat.zero_le _, Nat.zero_le _⟩ (fun r66 σ65 τ65 H locs h65 hP hS => ?_)
         obtain ⟨⟨rfl, rfl⟩, w67, h65⟩ := h65
         have h68 := h65
         obtain ⟨q70, k69⟩ := h68
         have g71 := jrg (rfl : r66.toInt = r66.toInt)
         refine lv_imul hx hb dX12_meanFrom_42 ?_
         refine lv_topi (fun x72 ex72 => ?_)
         have tx72 : x72.toInt = 1000 * r66.toInt := (jmul ex72 jz_1000 rfl (by omega) (by omega)).trans (by omega)
         refine lv_istore (lv' := [(5, .int x72), (4, .int r52), (3, .int x45), (2, .int r31), (0, .ref (ad 55)), (1, .int a1)]) hx hb dX12_meanFrom_43 hl (of_decide_eq_true rfl) rfl (fun ls hl => ?_)
         exact by
          refine lv_aload_n hx hb dX12_meanFrom_45 rfl (lv_at hl 4 rfl) ?_
          refine lv_iload_n hx hb dX12_meanFrom_46 rfl (lv_at hl 3 rfl) ?_
          refine lv_iconst (v := 1) hx hb dX12_meanFrom_47 (of_decide_eq_true rfl) ?_
          have z73 : (σ51 55 6).toInt = (σ 55 6).toInt := (congrArg Int32.toInt (show σ51 55 6 = (σ 55 6) from ((f54 6 (of_decide_eq_true rfl)).trans (f33 6 (of_decide_eq_true rfl)))))
          have z74 : (σ51 55 27).toInt = (σ 55 27).toInt := (congrArg Int32.toInt (show σ51 55 27 = (σ 55 27) from ((f54 27 (of_decide_eq_true rfl)).trans (f33 27 (of_decide_eq_true rfl)))))
          have z75 : (σ51 55 25).toInt = (σ 55 25).toInt := (congrArg Int32.toInt (show σ51 55 25 = (σ 55 25) from ((f54 25 (of_decide_eq_true rfl)).trans m42)))
          have z76 : (σ51 55 26).toInt = (σ 55 26).toInt := (congrArg Int32.toInt (show σ51 55 26 = (σ 55 26) from ((f54 26 (of_decide_eq_true rfl)).trans (f33 26 (of_decide_eq_true rfl)))))
          have z77 : (σ51 68 0).toInt = (σ 68 0).toInt := (congrArg Int32.toInt (show σ51 68 0 = (σ 68 0) from ((congrFun (f53 68 (of_decide_eq_true rfl)) 0).trans (congrFun (f32 68 (of_decide_eq_true rfl)) 0))))
          have z78 : (σ51 68 1).toInt = (σ 68 1).toInt := (congrArg Int32.toInt (show σ51 68 1 = (σ 68 1) from ((congrFun (f53 68 (of_decide_eq_true rfl)) 1).trans (congrFun (f32 68 (of_decide_eq_true rfl)) 1))))
          have z79 : (σ51 68 2).toInt = (σ 68 2).toInt := (congrArg Int32.toInt (show σ51 68 2 = (σ 68 2) from ((congrFun (f53 68 (of_decide_eq_true rfl)) 2).trans (congrFun (f32 68 (of_decide_eq_true rfl)) 2))))
          have z80 : (σ51 68 3).toInt = (σ 68 3).toInt := (congrArg Int32.toInt (show σ51 68 3 = (σ 68 3) from ((congrFun (f53 68 (of_decide_eq_true rfl)) 3).trans (congrFun (f32 68 (of_decide_eq_true rfl)) 3))))
          exact by
           refine jcallV (As := [.int r31, .int 1]) (rest := []) ⟨hx, hb, hml, hown, hts⟩ hK hP hA hS hZ (c_X12_goes_1 l D cI cL ad zz hJ σ51 τ r31 (r31.toInt) rfl w64 (by omega) (by omega) (by omega) (by omega) (by omega)) cw_RX12_296 (jc_55 cI cL ad σ51 τ) rfl ⟨by dsimp only; omega, by dsimp only; omega⟩ rfl rfl rfl hl.1 rfl (Nat.le_of_ble_eq_true rfl) dX12_meanFrom_48 ⟨Nat.zero_le _, Nat.zero_le _⟩ (fun r82 σ81 τ81 H locs h81 hP hS => ?_)
           obtain ⟨rfl, f83, f84, w85, w86, w87, w88, h81⟩ := h81
           obtain ⟨k90, k91, k92, h81⟩ := h81
           have h93 := h81
           obtain ⟨q99, k94, k95, k96, k97, k98⟩ := h93
           refine lv_istore (lv' := [(6, .int r82), (5, .int x72), (4, .int r52), (3, .int x45), (2, .int r31), (0, .ref (ad 55)), (1, .int a1)]) hx hb dX12_meanFrom_51 hl (of_decide_eq_true rfl) rfl (fun ls hl => ?_)
           refine lv_aload_n hx hb dX12_meanFrom_53 rfl (lv_at hl 5 rfl) ?_
           refine lv_iload_n hx hb dX12_meanFrom_54 rfl (lv_at hl 6 rfl) ?_
           have I100 : jI101 σ81 := jI101_fr (f84 4 (of_decide_eq_true rfl)) (f84 5 (of_decide_eq_true rfl)) (f83 56 (of_decide_eq_true rfl)) (f83 57 (of_decide_eq_true rfl)) (f83 58 (of_decide_eq_true rfl)) (f83 59 (of_decide_eq_true rfl)) I61
           have I101 : jI102 σ81 := jI102_fr (f84 6 (of_decide_eq_true rfl)) (f83 60 (of_decide_eq_true rfl)) (f83 61 (of_decide_eq_true rfl)) I62
           have I102 : jI103 σ81 := jI103_fr (f84 9 (of_decide_eq_true rfl)) I63
           have I103 : jI104 σ81 := jI104_fr ((f84 10 (of_decide_eq_true rfl)).trans ((f54 10 (of_decide_eq_true rfl)).trans (f33 10 (of_decide_eq_true rfl)))) ((f84 12 (of_decide_eq_true rfl)).trans ((f54 12 (of_decide_eq_true rfl)).trans (f33 12 (of_decide_eq_true rfl)))) ((f84 13 (of_decide_eq_true rfl)).trans ((f54 13 (of_decide_eq_true rfl)).trans (f33 13 (of_decide_eq_true rfl)))) ((f83 62 (of_decide_eq_true rfl)).trans ((f53 62 (of_decide_eq_true rfl)).trans (f32 62 (of_decide_eq_true rfl)))) ((f83 67 (of_decide_eq_true rfl)).trans ((f53 67 (of_decide_eq_true rfl)).trans (f32 67 (of_decide_eq_true rfl)))) hI104
           have I104 : jI105 σ81 := jI105_fr ((f84 15 (of_decide_eq_true rfl)).trans (f54 15 (of_decide_eq_true rfl))) ((f83 65 (of_decide_eq_true rfl)).trans (f53 65 (of_decide_eq_true rfl))) I49
           have I105 : jI106 σ81 := jI106_fr ((f84 32 (of_decide_eq_true rfl)).trans ((f54 32 (of_decide_eq_true rfl)).trans (f33 32 (of_decide_eq_true rfl)))) ((f83 70 (of_decide_eq_true rfl)).trans ((f53 70 (of_decide_eq_true rfl)).trans (f32 70 (of_decide_eq_true rfl)))) ((f83 71 (of_decide_eq_true rfl)).trans ((f53 71 (of_decide_eq_true rfl)).trans (f32 71 (of_decide_eq_true rfl)))) ((f83 72 (of_decide_eq_true rfl)).trans ((f53 72 (of_decide_eq_true rfl)).trans (f32 72 (of_decide_eq_true rfl)))) hI106
           have z106 : (σ81 55 10).toInt = (σ 55 10).toInt := (congrArg Int32.toInt (show σ81 55 10 = (σ 55 10) from ((f84 10 (of_decide_eq_true rfl)).trans ((f54 10 (of_decide_eq_true rfl)).trans (f33 10 (of_decide_eq_true rfl))))))
           have z107 : (σ81 55 12).toInt = (σ 55 12).toInt := (congrArg Int32.toInt (show σ81 55 12 = (σ 55 12) from ((f84 12 (of_decide_eq_true rfl)).trans ((f54 12 (of_decide_eq_true rfl)).trans (f33 12 (of_decide_eq_true rfl))))))
           exact by
            have I108 : jI120 σ81 := ⟨(by omega), (by omega), (by omega), (by omega), (by omega), w85⟩
            have p109 : jKept σ81 := jKept.fr ((f83 75 (of_decide_eq_true rfl)).trans (f53 75 (of_decide_eq_true rfl))) ((f83 76 (of_decide_eq_true rfl)).trans (f53 76 (of_decide_eq_true rfl))) ((f83 77 (of_decide_eq_true rfl)).trans (f53 77 (of_decide_eq_true rfl))) p34
            have p110 : jTR σ81 := jTR.fr (f83 64 (of_decide_eq_true rfl)) (f83 65 (of_decide_eq_true rfl)) p55
            have p111 : jqSt σ81 := jqSt.fr ((f83 78 (of_decide_eq_true rfl)).trans (f53 78 (of_decide_eq_true rfl))) ((f84 42 (of_decide_eq_true rfl)).trans (f54 42 (of_decide_eq_true rfl))) p36
            refine jcallV (As := [.int a1]) (rest := []) ⟨hx, hb, hml, hown, hts⟩ hK hP hA hS hZ (h_mf σ81 τ a1 (A1) t1 I100 I101 I102 I103 I104 I105 I108 p109 p110 p111 (by omega) (by omega) (by omega)) cw_RX12_324 (jc_55 cI cL ad σ81 τ) rfl ⟨by dsimp only; omega, by dsimp only; omega⟩ rfl rfl rfl hl.1 rfl (Nat.le_of_ble_eq_true rfl) dX12_meanFrom_55 ⟨Nat.zero_le _, Nat.zero_le _⟩ (fun r113 σ112 τ112 H locs h112 hP hS => ?_)
            obtain ⟨rfl, f114, f115, p116, p117, p118, h112⟩ := h112
            refine lv_istore (lv' := [(7, .int r113), (6, .int r82), (5, .int x72), (4, .int r52), (3, .int x45), (2, .int r31), (0, .ref (ad 55)), (1, .int a1)]) hx hb dX12_meanFrom_58 hl (of_decide_eq_true rfl) rfl (fun ls hl => ?_)
            refine lv_aload_n hx hb dX12_meanFrom_60 rfl (lv_at hl 6 rfl) ?_
            refine lv_iload_n hx hb dX12_meanFrom_61 rfl (lv_at hl 5 rfl) ?_
            exact by
             refine lv_iconst (v := 1) hx hb dX12_meanFrom_62 (of_decide_eq_true rfl) ?_
             refine lv_iload hx hb dX12_meanFrom_63 (lv_at hl 1 rfl) ?_
             have w120 : ∀ k : Nat, k < 4 → 0 ≤ (σ112 68 k).toInt ∧ (σ112 68 k).toInt ≤ 3 := (jrr_fr (f114 68 (of_decide_eq_true rfl)) w85)
             have z121 : (σ112 55 25).toInt = (σ81 55 25).toInt := (congrArg Int32.toInt (show σ112 55 25 = (σ81 55 25) from (f115 25 (of_decide_eq_true rfl))))
             have z122 : (σ112 55 26).toInt = (σ81 55 26).toInt := (congrArg Int32.toInt (show σ112 55 26 = (σ81 55 26) from (f115 26 (of_decide_eq_true rfl))))
             have z123 : (σ112 55 6).toInt = (σ 55 6).toInt := (congrArg Int32.toInt (show σ112 55 6 = (σ 55 6) from ((f115 6 (of_decide_eq_true rfl)).trans ((f84 6 (of_decide_eq_true rfl)).trans ((f54 6 (of_decide_eq_true rfl)).trans (f33 6 (of_decide_eq_true rfl)))))))
             have w124 : ∀ k : Nat, k < 4 → 0 ≤ (σ51 68 k).toInt ∧ (σ51 68 k).toInt ≤ 3 := w64
             have z126 : (σ51 55 27).toInt = (σ 55 27).toInt := (congrArg Int32.toInt (show σ51 55 27 = (σ 55 27) from ((f54 27 (of_decide_eq_true rfl)).trans (f33 27 (of_decide_eq_true rfl)))))
             have k125 := jwas (by omega) (w124 0 (of_decide_eq_true rfl)) (w124 1 (of_decide_eq_true rfl)) (w124 2 (of_decide_eq_true rfl)) (w124 3 (of_decide_eq_true rfl)) k94
             rw [← (show σ112 55 6 = σ51 55 6 from ((f115 6 (of_decide_eq_true rfl)).trans (f84 6 (of_decide_eq_true rfl))))] at k125
             exact by
              refine jcallVv (As := [.int r31, .int 1, .int r82]) (rest := []) ⟨hx, hb, hml, hown, hts⟩ hK hP hA hS hZ (c_X12_goesBack_1 l D cI cL ad zz hJ σ112 τ r31 (r31.toInt) rfl r82 (r82.toInt) rfl w120 (by omega) (by omega) (by omega) k125) cw_RX12_300 (jc_55 cI cL ad σ112 τ) rfl ⟨by dsimp only; omega, by dsimp only; omega⟩ rfl rfl rfl hl.1 rfl (Nat.le_of_ble_eq_true rfl) dX12_meanFrom_65 ⟨Nat.zero_le _, Nat.zero_le _⟩ (fun σ127 τ127 H locs h127 hP hS => ?_)
              obtain ⟨rfl, f129, f130, w131, w132, w133, h127⟩ := h127
              obtain ⟨k135, k136, k137, k138, h127⟩ := h127
              have p139 : jKept σ127 := jKept.fr (f129 75 (of_decide_eq_true rfl)) (f129 76 (of_decide_eq_true rfl)) (f129 77 (of_decide_eq_true rfl)) p116
              have p140 : jTR σ127 := jTR.fr (f129 64 (of_decide_eq_true rfl)) (f129 65 (of_decide_eq_true rfl)) p117
              have p141 : jqSt σ127 := jqSt.fr (f129 78 (of_decide_eq_true rfl)) (f130 42 (of_decide_eq_true rfl)) p118
              have M142 : jrM σ112 → jrM σ127 := fun q => (jrEq.m (σ := σ112) (σ' := σ127) ⟨⟨(f129 56 (of_decide_eq_true rfl)), (f129 60 (of_decide_eq_true rfl)), (f129 61 (of_decide_eq_true rfl)), (f129 62 (of_decide_eq_true rfl)), (f129 64 (of_decide_eq_true rfl)), (f129 65 (of_decide_eq_true rfl))⟩, (f130 6 (of_decide_eq_true rfl)), (f130 9 (of_decide_eq_true rfl)), (f130 10 (of_decide_eq_true rfl)), (f130 12 (of_decide_eq_true rfl)), (f130 13 (of_decide_eq_true rfl)), (f130 30 (of_decide_eq_true rfl)), (f130 31 (of_decide_eq_true rfl)), (f130 42 (of_decide_eq_true rfl))⟩ (f129 78 (of_decide_eq_true rfl)) (f129 74 (of_decide_eq_true rfl)) (f129 75 (of_decide_eq_true rfl)) (f129 76 (of_decide_eq_true rfl)) (f129 77 (of_decide_eq_true rfl)) q)
              have e143 : σ112 69 = σ81 69 := (f114 69 (of_decide_eq_true rfl))
              have e144 : σ127 69 = σ51 69 := jback69 w86 e143 w132
              have e145 : σ112 68 = σ81 68 := (f114 68 (of_decide_eq_true rfl))
              have e146 : σ112 55 6 = σ51 55 6 := ((f115 6 (of_decide_eq_true rfl)).trans (f84 6 (of_decide_eq_true rfl)))
              have w154 : ∀ k : Nat, k < 4 → 0 ≤ (σ51 68 k).toInt ∧ (σ51 68 k).toInt ≤ 3 := w64
              have w155 : ∀ k : Nat, k < 4 → 0 ≤ (σ127 68 k).toInt ∧ (σ127 68 k).toInt ≤ 3 := w131
              have k156 := k138
              rw [e146] at k156
              have D147 := jdig (w154 0 (of_decide_eq_true rfl)) (w154 1 (of_decide_eq_true rfl)) (w154 2 (of_decide_eq_true rfl)) (w154 3 (of_decide_eq_true rfl)) (w155 0 (of_decide_eq_true rfl)) (w155 1 (of_decide_eq_true rfl)) (w155 2 (of_decide_eq_true rfl)) (w155 3 (of_decide_eq_true rfl)) k94 k156
              exact by
               have e148 : σ127 55 27 = σ51 55 27 := Int32.toInt_inj.mp (by have h9 := D147.1; omega)
               have z157 : (σ112 55 26).toInt = (σ81 55 26).toInt := (congrArg Int32.toInt (show σ112 55 26 = (σ81 55 26) from (f115 26 (of_decide_eq_true rfl))))
               have z158 : (σ51 55 26).toInt = (σ 55 26).toInt := (congrArg Int32.toInt (show σ51 55 26 = (σ 55 26) from ((f54 26 (of_decide_eq_true rfl)).trans (f33 26 (of_decide_eq_true rfl)))))
               have z159 : (σ112 55 25).toInt = (σ81 55 25).toInt := (congrArg Int32.toInt (show σ112 55 25 = (σ81 55 25) from (f115 25 (of_decide_eq_true rfl))))
               have z160 : (σ51 55 25).toInt = (σ 55 25).toInt := (congrArg Int32.toInt (show σ51 55 25 = (σ 55 25) from ((f54 25 (of_decide_eq_true rfl)).trans (f33 25 (of_decide_eq_true rfl)))))
               have e149 : σ127 55 26 = σ51 55 26 := Int32.toInt_inj.mp (by omega)
               have e150 : σ127 55 25 = σ51 55 25 := Int32.toInt_inj.mp (by omega)
               have z161 : (σ51 55 6).toInt = (σ 55 6).toInt := (congrArg Int32.toInt (show σ51 55 6 = (σ 55 6) from ((f54 6 (of_decide_eq_true rfl)).trans (f33 6 (of_decide_eq_true rfl)))))
               have e151 : σ127 68 = σ51 68 := jback68 (nb := (σ51 55 6).toInt) (by omega) w87 e145 (fun k hk => w133 k (by rw [e146]; exact hk)) D147.2
               exact by
                have f152 : (∀ i : Nat, (i < 55 ∨ 55 < i) ∧ (i < 66 ∨ 66 < i) ∧ (i < 74 ∨ 78 < i) → σ127 i = σ51 i) := fun i hi0 => by
                  by_cases h8 : i = 68
                  · rw [h8]; exact e151
                  by_cases h9 : i = 69
                  · rw [h9]; exact e144
                  have hi : ((i < 55 ∨ 55 < i) ∧ (i < 66 ∨ 66 < i) ∧ (i < 74 ∨ 78 < i)) ∧ i ≠ 68 ∧ i ≠ 69 := ⟨hi0, h8, h9⟩
                  exact ((f129 i (imp_200 i hi)).trans ((f114 i (imp_201 i hi)).trans (f83 i (imp_200 i hi))))
                have f153 : ∀ i : Nat, (i < 18 ∨ 18 < i) ∧ (i < 19 ∨ 19 < i) ∧ (i < 20 ∨ 20 < i) ∧ (i < 21 ∨ 21 < i) ∧ (i < 22 ∨ 22 < i) ∧ (i < 37 ∨ 37 < i) → σ127 55 i = σ51 55 i := fun i hi0 => by
                  by_cases h25 : i = 25
                  · rw [h25]; exact e150
                  by_cases h26 : i = 26
                  · rw [h26]; exact e149
                  by_cases h27 : i = 27
                  · rw [h27]; exact e148
                  have hi : ((i < 18 ∨ 18 < i) ∧ (i < 19 ∨ 19 < i) ∧ (i < 20 ∨ 20 < i) ∧ (i < 21 ∨ 21 < i) ∧ (i < 22 ∨ 22 < i) ∧ (i < 37 ∨ 37 < i)) ∧ i ≠ 25 ∧ i ≠ 26 ∧ i ≠ 27 := ⟨hi0, h25, h26, h27⟩
                  exact ((f130 i (imp_202 i hi)).trans ((f115 i (imp_203 i hi)).trans (f84 i (imp_202 i hi))))
                clear k156 k138 k94
                refine lv_aload_n hx hb dX12_meanFrom_68 rfl (lv_at hl 6 rfl) ?_
                refine lv_iload_n hx hb dX12_meanFrom_69 rfl (lv_at hl 5 rfl) ?_
                refine lv_iconst (v := 0) hx hb dX12_meanFrom_70 (of_decide_eq_true rfl) ?_
                have w162 : ∀ k : Nat, k < 4 → 0 ≤ (σ127 68 k).toInt ∧ (σ127 68 k).toInt ≤ 3 := (jrr_fr (f152 68 (of_decide_eq_true rfl)) w64)
                have z163 : (σ127 55 6).toInt = (σ 55 6).toInt := (congrArg Int32.toInt (show σ127 55 6 = (σ 55 6) from ((f153 6 (of_decide_eq_true rfl)).trans ((f54 6 (of_decide_eq_true rfl)).trans (f33 6 (of_decide_eq_true rfl))))))
                have z164 : (σ127 55 27).toInt = (σ 55 27).toInt := (congrArg Int32.toInt (show σ127 55 27 = (σ 55 27) from ((f153 27 (of_decide_eq_true rfl)).trans ((f54 27 (of_decide_eq_true rfl)).trans (f33 27 (of_decide_eq_true rfl))))))
                have z165 : (σ127 55 25).toInt = (σ 55 25).toInt := (congrArg Int32.toInt (show σ127 55 25 = (σ 55 25) from ((f153 25 (of_decide_eq_true rfl)).trans ((f54 25 (of_decide_eq_true rfl)).trans m42))))
                have z166 : (σ127 55 26).toInt = (σ 55 26).toInt := (congrArg Int32.toInt (show σ127 55 26 = (σ 55 26) from ((f153 26 (of_decide_eq_true rfl)).trans ((f54 26 (of_decide_eq_true rfl)).trans (f33 26 (of_decide_eq_true rfl))))))
                have z167 : (σ127 68 0).toInt = (σ 68 0).toInt := (congrArg Int32.toInt (show σ127 68 0 = (σ 68 0) from ((congrFun (f152 68 (of_decide_eq_true rfl)) 0).trans ((congrFun (f53 68 (of_decide_eq_true rfl)) 0).trans (congrFun (f32 68 (of_decide_eq_true rfl)) 0)))))
                have z168 : (σ127 68 1).toInt = (σ 68 1).toInt := (congrArg Int32.toInt (show σ127 68 1 = (σ 68 1) from ((congrFun (f152 68 (of_decide_eq_true rfl)) 1).trans ((congrFun (f53 68 (of_decide_eq_true rfl)) 1).trans (congrFun (f32 68 (of_decide_eq_true rfl)) 1)))))
                have z169 : (σ127 68 2).toInt = (σ 68 2).toInt := (congrArg Int32.toInt (show σ127 68 2 = (σ 68 2) from ((congrFun (f152 68 (of_decide_eq_true rfl)) 2).trans ((congrFun (f53 68 (of_decide_eq_true rfl)) 2).trans (congrFun (f32 68 (of_decide_eq_true rfl)) 2)))))
                have z170 : (σ127 68 3).toInt = (σ 68 3).toInt := (congrArg Int32.toInt (show σ127 68 3 = (σ 68 3) from ((congrFun (f152 68 (of_decide_eq_true rfl)) 3).trans ((congrFun (f53 68 (of_decide_eq_true rfl)) 3).trans (congrFun (f32 68 (of_decide_eq_true rfl)) 3)))))
                exact by
                 refine jcallV (As := [.int r31, .int 0]) (rest := []) ⟨hx, hb, hml, hown, hts⟩ hK hP hA hS hZ (c_X12_goes_0 l D cI cL ad zz hJ σ127 τ r31 (r31.toInt) rfl w162 (by omega) (by omega) (by omega) (by omega) (by omega)) cw_RX12_296 (jc_55 cI cL ad σ127 τ) rfl ⟨by dsimp only; omega, by dsimp only; omega⟩ rfl rfl rfl hl.1 rfl (Nat.le_of_ble_eq_true rfl) dX12_meanFrom_71 ⟨Nat.zero_le _, Nat.zero_le _⟩ (fun r172 σ171 τ171 H locs h171 hP hS => ?_)
                 obtain ⟨rfl, f173, f174, w175, w176, w177, w178, h171⟩ := h171
                 obtain ⟨k180, k181, k182, h171⟩ := h171
                 have h183 := h171
                 obtain ⟨q189, k184, k185, k186, k187, k188⟩ := h183
                 refine lv_istore (lv' := [(6, .int r172), (7, .int r113), (5, .int x72), (4, .int r52), (3, .int x45), (2, .int r31), (0, .ref (ad 55)), (1, .int a1)]) hx hb dX12_meanFrom_74 hl (of_decide_eq_true rfl) rfl (fun ls hl => ?_)
                 refine lv_aload_n hx hb dX12_meanFrom_76 rfl (lv_at hl 6 rfl) ?_
                 refine lv_iload_n hx hb dX12_meanFrom_77 rfl (lv_at hl 7 rfl) ?_
                 have I190 : jI101 σ171 := jI101_fr ((f174 4 (of_decide_eq_true rfl)).trans (f153 4 (of_decide_eq_true rfl))) ((f174 5 (of_decide_eq_true rfl)).trans (f153 5 (of_decide_eq_true rfl))) ((f173 56 (of_decide_eq_true rfl)).trans (f152 56 (of_decide_eq_true rfl))) ((f173 57 (of_decide_eq_true rfl)).trans (f152 57 (of_decide_eq_true rfl))) ((f173 58 (of_decide_eq_true rfl)).trans (f152 58 (of_decide_eq_true rfl))) ((f173 59 (of_decide_eq_true rfl)).trans (f152 59 (of_decide_eq_true rfl))) I61
                 have I191 : jI102 σ171 := jI102_fr ((f174 6 (of_decide_eq_true rfl)).trans (f153 6 (of_decide_eq_true rfl))) ((f173 60 (of_decide_eq_true rfl)).trans (f152 60 (of_decide_eq_true rfl))) ((f173 61 (of_decide_eq_true rfl)).trans (f152 61 (of_decide_eq_true rfl))) I62
                 have I192 : jI103 σ171 := jI103_fr ((f174 9 (of_decide_eq_true rfl)).trans (f153 9 (of_decide_eq_true rfl))) I63
                 have I193 : jI104 σ171 := jI104_fr ((f174 10 (of_decide_eq_true rfl)).trans ((f153 10 (of_decide_eq_true rfl)).trans ((f54 10 (of_decide_eq_true rfl)).trans (f33 10 (of_decide_eq_true rfl))))) ((f174 12 (of_decide_eq_true rfl)).trans ((f153 12 (of_decide_eq_true rfl)).trans ((f54 12 (of_decide_eq_true rfl)).trans (f33 12 (of_decide_eq_true rfl))))) ((f174 13 (of_decide_eq_true rfl)).trans ((f153 13 (of_decide_eq_true rfl)).trans ((f54 13 (of_decide_eq_true rfl)).trans (f33 13 (of_decide_eq_true rfl))))) ((f173 62 (of_decide_eq_true rfl)).trans ((f152 62 (of_decide_eq_true rfl)).trans ((f53 62 (of_decide_eq_true rfl)).trans (f32 62 (of_decide_eq_true rfl))))) ((f173 67 (of_decide_eq_true rfl)).trans ((f152 67 (of_decide_eq_true rfl)).trans ((f53 67 (of_decide_eq_true rfl)).trans (f32 67 (of_decide_eq_true rfl))))) hI104
                 have I194 : jI105 σ171 := jI105_fr ((f174 15 (of_decide_eq_true rfl)).trans ((f153 15 (of_decide_eq_true rfl)).trans (f54 15 (of_decide_eq_true rfl)))) ((f173 65 (of_decide_eq_true rfl)).trans ((f152 65 (of_decide_eq_true rfl)).trans (f53 65 (of_decide_eq_true rfl)))) I49
                 have I195 : jI106 σ171 := jI106_fr ((f174 32 (of_decide_eq_true rfl)).trans ((f153 32 (of_decide_eq_true rfl)).trans ((f54 32 (of_decide_eq_true rfl)).trans (f33 32 (of_decide_eq_true rfl))))) ((f173 70 (of_decide_eq_true rfl)).trans ((f152 70 (of_decide_eq_true rfl)).trans ((f53 70 (of_decide_eq_true rfl)).trans (f32 70 (of_decide_eq_true rfl))))) ((f173 71 (of_decide_eq_true rfl)).trans ((f152 71 (of_decide_eq_true rfl)).trans ((f53 71 (of_decide_eq_true rfl)).trans (f32 71 (of_decide_eq_true rfl))))) ((f173 72 (of_decide_eq_true rfl)).trans ((f152 72 (of_decide_eq_true rfl)).trans ((f53 72 (of_decide_eq_true rfl)).trans (f32 72 (of_decide_eq_true rfl))))) hI106
                 have z196 : (σ171 55 10).toInt = (σ 55 10).toInt := (congrArg Int32.toInt (show σ171 55 10 = (σ 55 10) from ((f174 10 (of_decide_eq_true rfl)).trans ((f153 10 (of_decide_eq_true rfl)).trans ((f54 10 (of_decide_eq_true rfl)).trans (f33 10 (of_decide_eq_true rfl)))))))
                 have z197 : (σ171 55 12).toInt = (σ 55 12).toInt := (congrArg Int32.toInt (show σ171 55 12 = (σ 55 12) from ((f174 12 (of_decide_eq_true rfl)).trans ((f153 12 (of_decide_eq_true rfl)).trans ((f54 12 (of_decide_eq_true rfl)).trans (f33 12 (of_decide_eq_true rfl)))))))
                 exact by
                  have I198 : jI120 σ171 := ⟨(by omega), (by omega), (by omega), (by omega), (by omega), w175⟩
                  have p199 : jKept σ171 := jKept.fr (f173 75 (of_decide_eq_true rfl)) (f173 76 (of_decide_eq_true rfl)) (f173 77 (of_decide_eq_true rfl)) p139
                  have p200 : jTR σ171 := jTR.fr (f173 64 (of_decide_eq_true rfl)) (f173 65 (of_decide_eq_true rfl)) p140
                  have p201 : jqSt σ171 := jqSt.fr (f173 78 (of_decide_eq_true rfl)) (f174 42 (of_decide_eq_true rfl)) p141
                  refine jcallV (As := [.int a1]) (rest := []) ⟨hx, hb, hml, hown, hts⟩ hK hP hA hS hZ (h_mf σ171 τ a1 (A1) t1 I190 I191 I192 I193 I194 I195 I198 p199 p200 p201 (by omega) (by omega) (by omega)) cw_RX12_324 (jc_55 cI cL ad σ171 τ) rfl ⟨by dsimp only; omega, by dsimp only; omega⟩ rfl rfl rfl hl.1 rfl (Nat.le_of_ble_eq_true rfl) dX12_meanFrom_78 ⟨Nat.zero_le _, Nat.zero_le _⟩ (fun r203 σ202 τ202 H locs h202 hP hS => ?_)
                  obtain ⟨rfl, f204, f205, p206, p207, p208, h202⟩ := h202
                  refine lv_istore (lv' := [(8, .int r203), (6, .int r172), (7, .int r113), (5, .int x72), (4, .int r52), (3, .int x45), (2, .int r31), (0, .ref (ad 55)), (1, .int a1)]) hx hb dX12_meanFrom_81 hl (of_decide_eq_true rfl) rfl (fun ls hl => ?_)
                  refine lv_aload_n hx hb dX12_meanFrom_83 rfl (lv_at hl 7 rfl) ?_
                  refine lv_iload_n hx hb dX12_meanFrom_84 rfl (lv_at hl 6 rfl) ?_
                  exact by
                   refine lv_iconst (v := 0) hx hb dX12_meanFrom_85 (of_decide_eq_true rfl) ?_
                   refine lv_iload hx hb dX12_meanFrom_86 (lv_at hl 1 rfl) ?_
                   have w210 : ∀ k : Nat, k < 4 → 0 ≤ (σ202 68 k).toInt ∧ (σ202 68 k).toInt ≤ 3 := (jrr_fr (f204 68 (of_decide_eq_true rfl)) w175)
                   have z211 : (σ202 55 25).toInt = (σ171 55 25).toInt := (congrArg Int32.toInt (show σ202 55 25 = (σ171 55 25) from (f205 25 (of_decide_eq_true rfl))))
                   have z212 : (σ202 55 26).toInt = (σ171 55 26).toInt := (congrArg Int32.toInt (show σ202 55 26 = (σ171 55 26) from (f205 26 (of_decide_eq_true rfl))))
                   have z213 : (σ202 55 6).toInt = (σ 55 6).toInt := (congrArg Int32.toInt (show σ202 55 6 = (σ 55 6) from ((f205 6 (of_decide_eq_true rfl)).trans ((f174 6 (of_decide_eq_true rfl)).trans ((f153 6 (of_decide_eq_true rfl)).trans ((f54 6 (of_decide_eq_true rfl)).trans (f33 6 (of_decide_eq_true rfl))))))))
                   have w214 : ∀ k : Nat, k < 4 → 0 ≤ (σ127 68 k).toInt ∧ (σ127 68 k).toInt ≤ 3 := w162
                   have z216 : (σ127 55 27).toInt = (σ 55 27).toInt := (congrArg Int32.toInt (show σ127 55 27 = (σ 55 27) from ((f153 27 (of_decide_eq_true rfl)).trans ((f54 27 (of_decide_eq_true rfl)).trans (f33 27 (of_decide_eq_true rfl))))))
                   have k215 := jwas (by omega) (w214 0 (of_decide_eq_true rfl)) (w214 1 (of_decide_eq_true rfl)) (w214 2 (of_decide_eq_true rfl)) (w214 3 (of_decide_eq_true rfl)) k184
                   rw [← (show σ202 55 6 = σ127 55 6 from ((f205 6 (of_decide_eq_true rfl)).trans (f174 6 (of_decide_eq_true rfl))))] at k215
                   exact by
                    refine jcallVv (As := [.int r31, .int 0, .int r172]) (rest := []) ⟨hx, hb, hml, hown, hts⟩ hK hP hA hS hZ (c_X12_goesBack_0 l D cI cL ad zz hJ σ202 τ r31 (r31.toInt) rfl r172 (r172.toInt) rfl w210 (by omega) (by omega) (by omega) k215) cw_RX12_300 (jc_55 cI cL ad σ202 τ) rfl ⟨by dsimp only; omega, by dsimp only; omega⟩ rfl rfl rfl hl.1 rfl (Nat.le_of_ble_eq_true rfl) dX12_meanFrom_88 ⟨Nat.zero_le _, Nat.zero_le _⟩ (fun σ217 τ217 H locs h217 hP hS => ?_)
                    obtain ⟨rfl, f219, f220, w221, w222, w223, h217⟩ := h217
                    obtain ⟨k225, k226, k227, k228, h217⟩ := h217
                    have p229 : jKept σ217 := jKept.fr (f219 75 (of_decide_eq_true rfl)) (f219 76 (of_decide_eq_true rfl)) (f219 77 (of_decide_eq_true rfl)) p206
                    have p230 : jTR σ217 := jTR.fr (f219 64 (of_decide_eq_true rfl)) (f219 65 (of_decide_eq_true rfl)) p207
                    have p231 : jqSt σ217 := jqSt.fr (f219 78 (of_decide_eq_true rfl)) (f220 42 (of_decide_eq_true rfl)) p208
                    have M232 : jrM σ202 → jrM σ217 := fun q => (jrEq.m (σ := σ202) (σ' := σ217) ⟨⟨(f219 56 (of_decide_eq_true rfl)), (f219 60 (of_decide_eq_true rfl)), (f219 61 (of_decide_eq_true rfl)), (f219 62 (of_decide_eq_true rfl)), (f219 64 (of_decide_eq_true rfl)), (f219 65 (of_decide_eq_true rfl))⟩, (f220 6 (of_decide_eq_true rfl)), (f220 9 (of_decide_eq_true rfl)), (f220 10 (of_decide_eq_true rfl)), (f220 12 (of_decide_eq_true rfl)), (f220 13 (of_decide_eq_true rfl)), (f220 30 (of_decide_eq_true rfl)), (f220 31 (of_decide_eq_true rfl)), (f220 42 (of_decide_eq_true rfl))⟩ (f219 78 (of_decide_eq_true rfl)) (f219 74 (of_decide_eq_true rfl)) (f219 75 (of_decide_eq_true rfl)) (f219 76 (of_decide_eq_true rfl)) (f219 77 (of_decide_eq_true rfl)) q)
                    have e233 : σ202 69 = σ171 69 := (f204 69 (of_decide_eq_true rfl))
                    have e234 : σ217 69 = σ127 69 := jback69 w176 e233 w222
                    have e235 : σ202 68 = σ171 68 := (f204 68 (of_decide_eq_true rfl))
                    have e236 : σ202 55 6 = σ127 55 6 := ((f205 6 (of_decide_eq_true rfl)).trans (f174 6 (of_decide_eq_true rfl)))
                    have w244 : ∀ k : Nat, k < 4 → 0 ≤ (σ127 68 k).toInt ∧ (σ127 68 k).toInt ≤ 3 := w162
                    have w245 : ∀ k : Nat, k < 4 → 0 ≤ (σ217 68 k).toInt ∧ (σ217 68 k).toInt ≤ 3 := w221
                    have k246 := k228
                    rw [e236] at k246
                    have D237 := jdig (w244 0 (of_decide_eq_true rfl)) (w244 1 (of_decide_eq_true rfl)) (w244 2 (of_decide_eq_true rfl)) (w244 3 (of_decide_eq_true rfl)) (w245 0 (of_decide_eq_true rfl)) (w245 1 (of_decide_eq_true rfl)) (w245 2 (of_decide_eq_true rfl)) (w245 3 (of_decide_eq_true rfl)) k184 k246
                    exact by
                     have e238 : σ217 55 27 = σ127 55 27 := Int32.toInt_inj.mp (by have h9 := D237.1; omega)
                     have z247 : (σ202 55 26).toInt = (σ171 55 26).toInt := (congrArg Int32.toInt (show σ202 55 26 = (σ171 55 26) from (f205 26 (of_decide_eq_true rfl))))
                     have z248 : (σ127 55 26).toInt = (σ 55 26).toInt := (congrArg Int32.toInt (show σ127 55 26 = (σ 55 26) from ((f153 26 (of_decide_eq_true rfl)).trans ((f54 26 (of_decide_eq_true rfl)).trans (f33 26 (of_decide_eq_true rfl))))))
                     have z249 : (σ202 55 25).toInt = (σ171 55 25).toInt := (congrArg Int32.toInt (show σ202 55 25 = (σ171 55 25) from (f205 25 (of_decide_eq_true rfl))))
                     have z250 : (σ127 55 25).toInt = (σ 55 25).toInt := (congrArg Int32.toInt (show σ127 55 25 = (σ 55 25) from ((f153 25 (of_decide_eq_true rfl)).trans ((f54 25 (of_decide_eq_true rfl)).trans (f33 25 (of_decide_eq_true rfl))))))
                     have e239 : σ217 55 26 = σ127 55 26 := Int32.toInt_inj.mp (by omega)
                     have e240 : σ217 55 25 = σ127 55 25 := Int32.toInt_inj.mp (by omega)
                     have z251 : (σ127 55 6).toInt = (σ 55 6).toInt := (congrArg Int32.toInt (show σ127 55 6 = (σ 55 6) from ((f153 6 (of_decide_eq_true rfl)).trans ((f54 6 (of_decide_eq_true rfl)).trans (f33 6 (of_decide_eq_true rfl))))))
                     have e241 : σ217 68 = σ127 68 := jback68 (nb := (σ127 55 6).toInt) (by omega) w177 e235 (fun k hk => w223 k (by rw [e236]; exact hk)) D237.2
                     exact by
                      have f242 : (∀ i : Nat, (i < 55 ∨ 55 < i) ∧ (i < 66 ∨ 66 < i) ∧ (i < 74 ∨ 78 < i) → σ217 i = σ127 i) := fun i hi0 => by
                        by_cases h8 : i = 68
                        · rw [h8]; exact e241
                        by_cases h9 : i = 69
                        · rw [h9]; exact e234
                        have hi : ((i < 55 ∨ 55 < i) ∧ (i < 66 ∨ 66 < i) ∧ (i < 74 ∨ 78 < i)) ∧ i ≠ 68 ∧ i ≠ 69 := ⟨hi0, h8, h9⟩
                        exact ((f219 i (imp_200 i hi)).trans ((f204 i (imp_201 i hi)).trans (f173 i (imp_200 i hi))))
                      have f243 : ∀ i : Nat, (i < 18 ∨ 18 < i) ∧ (i < 19 ∨ 19 < i) ∧ (i < 20 ∨ 20 < i) ∧ (i < 21 ∨ 21 < i) ∧ (i < 22 ∨ 22 < i) ∧ (i < 37 ∨ 37 < i) → σ217 55 i = σ127 55 i := fun i hi0 => by
                        by_cases h25 : i = 25
                        · rw [h25]; exact e240
                        by_cases h26 : i = 26
                        · rw [h26]; exact e239
                        by_cases h27 : i = 27
                        · rw [h27]; exact e238
                        have hi : ((i < 18 ∨ 18 < i) ∧ (i < 19 ∨ 19 < i) ∧ (i < 20 ∨ 20 < i) ∧ (i < 21 ∨ 21 < i) ∧ (i < 22 ∨ 22 < i) ∧ (i < 37 ∨ 37 < i)) ∧ i ≠ 25 ∧ i ≠ 26 ∧ i ≠ 27 := ⟨hi0, h25, h26, h27⟩
                        exact ((f220 i (imp_202 i hi)).trans ((f205 i (imp_203 i hi)).trans (f174 i (imp_202 i hi))))
                      clear k246 k228 k184
                      refine lv_iload hx hb dX12_meanFrom_91 (lv_at hl 3 rfl) ?_
                      refine lv_sipush (v := 1000) hx hb dX12_meanFrom_93 (of_decide_eq_true rfl) ?_
                      refine lv_aload_n hx hb dX12_meanFrom_96 rfl (lv_at hl 7 rfl) ?_
                      refine va_get (D := D) hx hb hts inlX12 hown hK hP 55 (jc_55 cI cL ad σ217 τ) rfl 13 (of_decide_eq_true rfl) (hts _ kw_15_14) (fun _ h9 => h9) rfl dX12_meanFrom_97 ?_
                      have m252 : σ217 55 13 = (σ 55 13) := ((f243 13 (of_decide_eq_true rfl)).trans ((f153 13 (of_decide_eq_true rfl)).trans ((f54 13 (of_decide_eq_true rfl)).trans (f33 13 (of_decide_eq_true rfl)))))
                      refine jtopr m252 ?_
                      have g253 := jrg (rfl : (σ 55 13).toInt = (σ 55 13).toInt)
                      refine lv_isub hx hb dX12_meanFrom_100 ?_
                      refine lv_topi (fun x254 ex254 => ?_)
                      exact by
                       have tx254 : x254.toInt = -(σ 55 13).toInt + 1000 := (jsub ex254 jz_1000 rfl (by omega) (by omega)).trans (by omega)
                       refine lv_i2l (v := x254.toInt64) hx hb dX12_meanFrom_101 rfl ?_
                       refine lv_iload hx hb dX12_meanFrom_102 (lv_at hl 2 rfl) ?_
                       refine lv_iload hx hb dX12_meanFrom_104 (lv_at hl 0 rfl) ?_
                       refine lv_iload hx hb dX12_meanFrom_106 (lv_at hl 4 rfl) ?_
                       refine jcallS (As := [.int r113, .int r203, .int r52]) (rest := [.long x254.toInt64, .int x72]) ⟨hx, hb, hml, hown, hts⟩ hK hP hA hS hZ (c_X12_mixed l D cI cL ad zz hJ σ217 τ r113 (r113.toInt) rfl r203 (r203.toInt) rfl r52 (r52.toInt) rfl) cw_RX12_304 ⟨by dsimp only; omega, by dsimp only; omega⟩ rfl rfl rfl hl.1 rfl (Nat.le_of_ble_eq_true rfl) dX12_meanFrom_108 ⟨Nat.zero_le _, Nat.zero_le _⟩ (fun r256 σ255 τ255 H locs h255 hP hS => ?_)
                       obtain ⟨⟨rfl, rfl⟩, h255⟩ := h255
                       refine lv_i2l (v := r256.toInt64) hx hb dX12_meanFrom_111 rfl ?_
                       refine lv_lmul hx hb dX12_meanFrom_112 ?_
                       refine lv_topl (fun lx257 elx257 => ?_)
                       refine lv_ldc2 (v := 1000) hx hb hown (hts _ kw_34_19) dX12_meanFrom_113 ?_
                       refine lv_ldiv hx hb dX12_meanFrom_116 (of_decide_eq_true rfl) ?_
                       refine lv_topl (fun lx258 elx258 => ?_)
                       refine lv_l2i hx hb dX12_meanFrom_117 rfl ?_
                       refine lv_topi (fun x259 ex259 => ?_)
                       have gx259 := jrg (rfl : x259.toInt = x259.toInt)
                       have g260 := jrg (rfl : x259.toInt = x259.toInt)
                       refine lv_iadd hx hb dX12_meanFrom_118 ?_
                       refine lv_topi (fun x261 ex261 => ?_)
                       have gx261 := jrg (rfl : x261.toInt = x261.toInt)
                       exact hret x261 σ217 τ _ _ _ _ rfl ⟨rfl, (fun i hi => ((f242 i hi).trans ((f152 i hi).trans ((f53 i (imp_204 i hi)).trans (f32 i hi))))), (fun i hi => ((f243 i hi).trans ((f153 i hi).trans ((f54 i (imp_205 i hi)).trans (f33 i hi))))), p229, p230, p231, trivial⟩ hP hS dX12_meanFrom_119
set_option maxHeartbeats 4000000 in
set_option maxRecDepth 100000 in
theorem c_X12_means_mf_z (l : Launch) (D : va_G) (cI cL : ClassId) (ad zz : Nat → Nat) (hJ : jD ad) (σ : Nat → Nat → Int32) (τ : Nat → Nat → Int64) (a1 : Int32) (A1 : Int) (t1 : a1.toInt = A1) (hI101 : jI101 σ) (hI102 : jI102 σ) (hI103 : jI103 σ) (hI104 : jI104 σ) (hI105 : jI105 σ) (hI106 : jI106 σ) (hI120 : jI120 σ) (hs_jKept : jKept σ) (hs_jTR : jTR σ) (hs_jqSt : jqSt σ) (hp0 : 0 ≤ A1 ∧ A1 ≤ 19) (hp1 : (σ 55 12).toInt - (σ 55 26).toInt ≤ 8) (hp2 : (σ 55 12).toInt - (σ 55 26).toInt ≤ (((0) : Nat) : Int)) : jM l yX12_meanFrom cX12_meanFrom 9 (some .int) ({ frames := (106 + 4 * (0)), cells := 0, slots := 0, locals := (5261 + 240 * (0)) }) D cI cL ad zz [.ref (ad 55), .int a1] σ τ (fun r σ' τ' => τ = τ' ∧ (∀ i : Nat, (i < 55 ∨ 55 < i) ∧ (i < 66 ∨ 66 < i) ∧ (i < 74 ∨ 78 < i) → σ' i = σ i) ∧ (∀ k : Nat, (k < 18 ∨ 18 < k) ∧ (k < 19 ∨ 19 < k) ∧ (k < 20 ∨ 20 < k) ∧ (k < 21 ∨ 21 < k) ∧ (k < 22 ∨ 22 < k) ∧ (k < 37 ∨ 37 < k) → σ' 55 k = σ 55 k) ∧ (jKept σ') ∧ (jTR σ') ∧ (jqSt σ') ∧ True) := by
  refine jM.of hJ (by decide +kernel) (nt := .int) rfl (Nat.le_of_ble_eq_true rfl) ?_
  intro p e s m args below meth c Q ls hC hret hl hP
  obtain ⟨hx, hb, hr, hml, hown, hts, hK, -, hlocks, hZ⟩ := hC
  have hown : s.vm.findClass RX12 = some m.cls := hown
  have hS : va_S (jA ad) s.heap s.heap [] := va_S.rf
  have hA : ∀ q, jA ad q → jA ad q := fun _ h => h
  have hl : lv_has ls 9 [(0, .ref (ad 55)), (1, .int a1)] := hl
  have g1 := jrg t1
  obtain ⟨i1, w2, w3⟩ : (0 ≤ (σ 55 6).toInt ∧ (σ 55 6).toInt ≤ 4) ∧ (∀ k : Nat, k < 4 → 0 ≤ (σ 60 k).toInt ∧ (σ 60 k).toInt ≤ 50) ∧ (∀ k : Nat, k < 4 → 0 ≤ (σ 61 k).toInt ∧ (σ 61 k).toInt ≤ 20) := id hI102
  obtain ⟨i4, i5, i6, w7, w8⟩ : (1 ≤ (σ 55 10).toInt ∧ (σ 55 10).toInt ≤ 8) ∧ (1 ≤ (σ 55 12).toInt ∧ (σ 55 12).toInt ≤ 12) ∧ (0 ≤ (σ 55 13).toInt ∧ (σ 55 13).toInt ≤ 999) ∧ (∀ k : Nat, k < 8 → 0 ≤ (σ 62 k).toInt ∧ (σ 62 k).toInt ≤ 3) ∧ (∀ k : Nat, k < 8 → 0 ≤ (σ 67 k).toInt ∧ (σ 67 k).toInt ≤ 3) := id hI104
  obtain ⟨i9, i10, i11, i12, i13, w14⟩ : (0 ≤ (σ 55 25).toInt) ∧ ((σ 55 25).toInt ≤ (σ 55 10).toInt) ∧ (0 ≤ (σ 55 26).toInt) ∧ ((σ 55 26).toInt ≤ (σ 55 12).toInt) ∧ ((-1) ≤ (σ 55 27).toInt ∧ (σ 55 27).toInt ≤ 3) ∧ (∀ k : Nat, k < 4 → 0 ≤ (σ 68 k).toInt ∧ (σ 68 k).toInt ≤ 3) := id hI120
  refine lv_aload_n hx hb dX12_meanFrom_0 rfl (lv_at hl 0 rfl) ?_
  refine jcallV (As := []) (rest := []) ⟨hx, hb, hml, hown, hts⟩ hK hP hA hS hZ (c_X12_isEnded l D cI cL ad zz hJ σ τ hI102 hI104 hI120) cw_RX12_307 (jc_55 cI cL ad σ τ) rfl ⟨by dsimp only; omega, by dsimp only; omega⟩ rfl rfl rfl hl.1 rfl (Nat.le_of_ble_eq_true rfl) dX12_meanFrom_1 ⟨Nat.zero_le _, Nat.zero_le _⟩ (fun r16 σ15 τ15 H locs h15 hP hS => ?_)
  obtain ⟨⟨rfl, rfl⟩, h15⟩ := h15
  rcases h15 with h17 | h18
  · obtain ⟨q20, k19⟩ := h17
    have q20 := q20.symm
    subst q20
    refine lv_if_eq (tgt := 9) hx hb dX12_meanFrom_4 (of_decide_eq_true rfl) (fun c => absurd c (of_decide_eq_true rfl)) (fun _ => ?_)
    refine lv_iconst (v := 0) hx hb dX12_meanFrom_7 (of_decide_eq_true rfl) ?_
    exact hret 0 σ τ _ _ _ _ rfl ⟨rfl, (fun _ _ => rfl), (fun _ _ => rfl), hs_jKept, hs_jTR, hs_jqSt, trivial⟩ hP hS dX12_meanFrom_8
  · obtain ⟨q24, k21, k22, k23⟩ := h18
    exact absurd (by omega : False) id
set_option maxHeartbeats 4000000 in
set_option maxRecDepth 100000 in
theorem c_X12_means (l : Launch) (D : va_G) (cI cL : ClassId) (ad zz : Nat → Nat) (hJ : jD ad) (n : Nat) : (∀ (σ : Nat → Nat → Int32) (τ : Nat → Nat → Int64) (a1 : Int32) (A1 : Int) (t1 : a1.toInt = A1) (hI101 : jI101 σ) (hI102 : jI102 σ) (hI103 : jI103 σ) (hI104 : jI104 σ) (hI105 : jI105 σ) (hI106 : jI106 σ) (hI120 : jI120 σ) (hs_jKept : jKept σ) (hs_jTR : jTR σ) (hs_jqSt : jqSt σ) (hp0 : 0 ≤ A1 ∧ A1 ≤ 19) (hp1 : (σ 55 12).toInt - (σ 55 26).toInt ≤ 8) (hp2 : (σ 55 12).toInt - (σ 55 26).toInt ≤ (((n) : Nat) : Int)), jM l yX12_meanFrom cX12_meanFrom 9 (some .int) ({ frames := (106 + 4 * (n)), cells := 0, slots := 0, locals := (5261 + 240 * (n)) }) D cI cL ad zz [.ref (ad 55), .int a1] σ τ (fun r σ' τ' => τ = τ' ∧ (∀ i : Nat, (i < 55 ∨ 55 < i) ∧ (i < 66 ∨ 66 < i) ∧ (i < 74 ∨ 78 < i) → σ' i = σ i) ∧ (∀ k : Nat, (k < 18 ∨ 18 < k) ∧ (k < 19 ∨ 19 < k) ∧ (k < 20 ∨ 20 < k) ∧ (k < 21 ∨ 21 < k) ∧ (k < 22 ∨ 22 < k) ∧ (k < 37 ∨ 37 < k) → σ' 55 k = σ 55 k) ∧ (jKept σ') ∧ (jTR σ') ∧ (jqSt σ') ∧ True)) := by
  induction n with
  | zero =>
    have h_mf := c_X12_means_mf_z l D cI cL ad zz hJ
    exact h_mf
  | succ n ih =>
    have g_mf := ih
    have h_mf := c_X12_means_mf_g l D cI cL ad zz hJ n g_mf
    exact h_mf
set_option maxHeartbeats 4000000 in
set_option maxRecDepth 100000 in
theorem c_X12_likelies_lf_g (l : Launch) (D : va_G) (cI cL : ClassId) (ad zz : Nat → Nat) (hJ : jD ad) (n : Nat) (h_lf : ∀ (σ : Nat → Nat → Int32) (τ : Nat → Nat → Int64) (a1 : Int32) (A1 : Int) (t1 : a1.toInt = A1) (a2 : Int32) (A2 : Int) (t2 : a2.toInt = A2) (hI101 : jI101 σ) (hI102 : jI102 σ) (hI103 : jI103 σ) (hI104 : jI104 σ) (hI105 : jI105 σ) (hI106 : jI106 σ) (hI120 : jI120 σ) (hs_jKept : jKept σ) (hs_jTR : jTR σ) (hs_jqSt : jqSt σ) (hp0 : 0 ≤ A1 ∧ A1 ≤ 19) (hp1 : (σ 55 12).toInt - (σ 55 26).toInt ≤ 8) (hp2 : (σ 55 12).toInt - (σ 55 26).toInt ≤ (((n) : Nat) : Int)), jM l yX12_likelyFrom cX12_likelyFrom 10 (some .int) ({ frames := (106 + 4 * (n)), cells := 0, slots := 0, locals := (5261 + 240 * (n)) }) D cI cL ad zz [.ref (ad 55), .int a1, .int a2] σ τ (fun r σ' τ' => τ = τ' ∧ (∀ i : Nat, (i < 55 ∨ 55 < i) ∧ (i < 66 ∨ 66 < i) ∧ (i < 74 ∨ 78 < i) → σ' i = σ i) ∧ (∀ k : Nat, (k < 18 ∨ 18 < k) ∧ (k < 19 ∨ 19 < k) ∧ (k < 20 ∨ 20 < k) ∧ (k < 21 ∨ 21 < k) ∧ (k < 22 ∨ 22 < k) ∧ (k < 37 ∨ 37 < k) → σ' 55 k = σ 55 k) ∧ (jKept σ') ∧ (jTR σ') ∧ (jqSt σ') ∧ True)) (σ : Nat → Nat → Int32) (τ : Nat → Nat → Int64) (a1 : Int32) (A1 : Int) (t1 : a1.toInt = A1) (a2 : Int32) (A2 : Int) (t2 : a2.toInt = A2) (hI101 : jI101 σ) (hI102 : jI102 σ) (hI103 : jI103 σ) (hI104 : jI104 σ) (hI105 : jI105 σ) (hI106 : jI106 σ) (hI120 : jI120 σ) (hs_jKept : jKept σ) (hs_jTR : jTR σ) (hs_jqSt : jqSt σ) (hp0 : 0 ≤ A1 ∧ A1 ≤ 19) (hp1 : (σ 55 12).toInt - (σ 55 26).toInt ≤ 8) (hp2 : (σ 55 12).toInt - (σ 55 26).toInt ≤ (((n + 1) : Nat) : Int)) : jM l yX12_likelyFrom cX12_likelyFrom 10 (some .int) ({ frames := (106 + 4 * (n + 1)), cells := 0, slots := 0, locals := (5261 + 240 * (n + 1)) }) D cI cL ad zz [.ref (ad 55), .int a1, .int a2] σ τ (fun r σ' τ' => τ = τ' ∧ (∀ i : Nat, (i < 55 ∨ 55 < i) ∧ (i < 66 ∨ 66 < i) ∧ (i < 74 ∨ 78 < i) → σ' i = σ i) ∧ (∀ k : Nat, (k < 18 ∨ 18 < k) ∧ (k < 19 ∨ 19 < k) ∧ (k < 20 ∨ 20 < k) ∧ (k < 21 ∨ 21 < k) ∧ (k < 22 ∨ 22 < k) ∧ (k < 37 ∨ 37 < k) → σ' 55 k = σ 55 k) ∧ (jKept σ') ∧ (jTR σ') ∧ (jqSt σ') ∧ True) := by
  refine jM.of hJ (by decide +kernel) (nt := .int) rfl (Nat.le_of_ble_eq_true rfl) ?_
  intro p e s m args below meth c Q ls hC hret hl hP
  obtain ⟨hx, hb, hr, hml, hown, hts, hK, -, hlocks, hZ⟩ := hC
  have hown : s.vm.findClass RX12 = some m.cls := hown
  have hS : va_S (jA ad) s.heap s.heap [] := va_S.rf
  have hA : ∀ q, jA ad q → jA ad q := fun _ h => h
  have hl : lv_has ls 10 [(0, .ref (ad 55)), (1, .int a1), (2, .int a2)] := hl
  have g1 := jrg t1
  have g2 := jrg t2
  obtain ⟨i1, w2, w3⟩ : (0 ≤ (σ 55 6).toInt ∧ (σ 55 6).toInt ≤ 4) ∧ (∀ k : Nat, k < 4 → 0 ≤ (σ 60 k).toInt ∧ (σ 60 k).toInt ≤ 50) ∧ (∀ k : Nat, k < 4 → 0 ≤ (σ 61 k).toInt ∧ (σ 61 k).toInt ≤ 20) := id hI102
  obtain ⟨i4, i5, i6, w7, w8⟩ : (1 ≤ (σ 55 10).toInt ∧ (σ 55 10).toInt ≤ 8) ∧ (1 ≤ (σ 55 12).toInt ∧ (σ 55 12).toInt ≤ 12) ∧ (0 ≤ (σ 55 13).toInt ∧ (σ 55 13).toInt ≤ 999) ∧ (∀ k : Nat, k < 8 → 0 ≤ (σ 62 k).toInt ∧ (σ 62 k).toInt ≤ 3) ∧ (∀ k : Nat, k < 8 → 0 ≤ (σ 67 k).toInt ∧ (σ 67 k).toInt ≤ 3) := id hI104
  obtain ⟨i9, i10, i11, i12, i13, w14⟩ : (0 ≤ (σ 55 25).toInt) ∧ ((σ 55 25).toInt ≤ (σ 55 10).toInt) ∧ (0 ≤ (σ 55 26).toInt) ∧ ((σ 55 26).toInt ≤ (σ 55 12).toInt) ∧ ((-1) ≤ (σ 55 27).toInt ∧ (σ 55 27).toInt ≤ 3) ∧ (∀ k : Nat, k < 4 → 0 ≤ (σ 68 k).toInt ∧ (σ 68 k).toInt ≤ 3) := id hI120
  refine lv_aload_n hx hb dX12_likelyFrom_0 rfl (lv_at hl 0 rfl) ?_
  refine jcallV (As := []) (rest := []) ⟨hx, hb, hml, hown, hts⟩ hK hP hA hS hZ (c_X12_isEnded l D cI cL ad zz hJ σ τ hI102 hI104 hI120) cw_RX12_307 (jc_55 cI cL ad σ τ) rfl ⟨by dsimp only; omega, by dsimp only; omega⟩ rfl rfl rfl hl.1 rfl (Nat.le_of_ble_eq_true rfl) dX12_likelyFrom_1 ⟨Nat.zero_le _, Nat.zero_le _⟩ (fun r16 σ15 τ15 H locs h15 hP hS => ?_)
  obtain ⟨⟨rfl, rfl⟩, h15⟩ := h15
  rcases h15 with h17 | h18
  · obtain ⟨q20, k19⟩ := h17
    have q20 := q20.symm
    subst q20
    refine lv_if_eq (tgt := 19) hx hb dX12_likelyFrom_4 (of_decide_eq_true rfl) (fun c => absurd c (of_decide_eq_true rfl)) (fun _ => ?_)
    refine lv_iload_n hx hb dX12_likelyFrom_7 rfl (lv_at hl 2 rfl) ?_
    refine lv_if_le (tgt := 17) hx hb dX12_likelyFrom_8 (of_decide_eq_true rfl) (fun c21 => ?_) (fun c21 => ?_)
    · have kc21 := jle c21 t2 jz_0
      refine lv_iconst (v := 0) hx hb dX12_likelyFrom_17 (of_decide_eq_true rfl) ?_
      exact hret 0 σ τ _ _ _ _ rfl ⟨rfl, (fun _ _ => rfl), (fun _ _ => rfl), hs_jKept, hs_jTR, hs_jqSt, trivial⟩ hP hS dX12_likelyFrom_18
    · have kc21 := jnle c21 t2 jz_0
      refine lv_ldcw (v := 1000000) hx hb hown (hts _ kw_37_13) dX12_likelyFrom_11 ?_
      refine lv_goto (tgt := 18) hx hb dX12_likelyFrom_14 (of_decide_eq_true rfl) ?_
      exact hret 1000000 σ τ _ _ _ _ rfl ⟨rfl, (fun _ _ => rfl), (fun _ _ => rfl), hs_jKept, hs_jTR, hs_jqSt, trivial⟩ hP hS dX12_likelyFrom_18
  · obtain ⟨q25, k22, k23, k24⟩ := h18
    have q25 := q25.symm
    subst q25
    obtain ⟨B26, k27, k28, w29⟩ := k24
    refine lv_if_eq (tgt := 19) hx hb dX12_likelyFrom_4 (of_decide_eq_true rfl) (fun _ => ?_) (fun c => absurd (of_decide_eq_true rfl) c)
    refine lv_aload_n hx hb dX12_likelyFrom_19 rfl (lv_at hl 0 rfl) ?_
    refine lv_iload_n hx hb dX12_likelyFrom_20 rfl (lv_at hl 1 rfl) ?_
    have p30 : jmb σ B26 = 1 := (jmb_fr rfl rfl rfl rfl rfl B26).trans w29
    exact by
     refine jcallV (As := [.int a1]) (rest := []) ⟨hx, hb, hml, hown, hts⟩ hK hP hA hS hZ (c_X12_putsOn l D cI cL ad zz hJ σ τ B26 p30 a1 (A1) t1 hI101 hI102 hI103 hI104 hI105 hI106 hI120 hs_jKept hs_jTR hs_jqSt (by omega) (by omega) (by omega) (by omega) (by omega)) cw_RX12_321 (jc_55 cI cL ad σ τ) rfl ⟨by dsimp only; omega, by dsimp only; omega⟩ rfl rfl rfl hl.1 rfl (Nat.le_of_ble_eq_true rfl) dX12_likelyFrom_21 ⟨Nat.zero_le _, Nat.zero_le _⟩ (fun r32 σ31 τ31 H locs h31 hP hS => ?_)
     obtain ⟨rfl, f33, f34, p35, p36, p37, w38, h31⟩ := h31
     have h40 := h31
     obtain ⟨q42, k41⟩ := h40
     refine lv_istore_n (lv' := [(3, .int r32), (0, .ref (ad 55)), (1, .int a1), (2, .int a2)]) hx hb dX12_likelyFrom_24 rfl hl (of_decide_eq_true rfl) rfl (fun ls hl => ?_)
     refine lv_aload_n hx hb dX12_likelyFrom_25 rfl (lv_at hl 1 rfl) ?_
     refine va_get (D := D) hx hb hts inlX12 hown hK hP 55 (jc_55 cI cL ad σ31 τ) rfl 11 (of_decide_eq_true rfl) (hts _ kw_7_8) (fun _ h9 => h9) rfl dX12_likelyFrom_26 ?_
     refine lv_aload_n hx hb dX12_likelyFrom_29 rfl (lv_at hl 1 rfl) ?_
     refine va_get (D := D) hx hb hts inlX12 hown hK hP 55 (jc_55 cI cL ad σ31 τ) rfl 25 (of_decide_eq_true rfl) (hts _ kw_23_6) (fun _ h9 => h9) rfl dX12_likelyFrom_30 ?_
     have m43 : σ31 55 25 = (σ 55 25) := (f34 25 (of_decide_eq_true rfl))
     refine jtopr m43 ?_
     exact by
      refine jald hx hb hK hP (jc_62 cI cL ad σ31 τ) (jin rfl (by omega) (by omega)) dX12_likelyFrom_33 ?_
      have w44 : ∀ k : Nat, k < 8 → 0 ≤ (σ31 62 k).toInt ∧ (σ31 62 k).toInt ≤ 3 := (jrr_fr (f33 62 (of_decide_eq_true rfl)) w7)
      have g45 := w44 _ (jnat (x := (σ 55 25)) rfl (n := 8) (by omega) (of_decide_eq_true rfl))
      refine lv_topi (fun x46 ex46 => ?_)
      rw [← ex46] at g45
      refine lv_istore (lv' := [(4, .int x46), (3, .int r32), (0, .ref (ad 55)), (1, .int a1), (2, .int a2)]) hx hb dX12_likelyFrom_34 hl (of_decide_eq_true rfl) rfl (fun ls hl => ?_)
      refine lv_aload_n hx hb dX12_likelyFrom_36 rfl (lv_at hl 2 rfl) ?_
      refine lv_iload_n hx hb dX12_likelyFrom_37 rfl (lv_at hl 1 rfl) ?_
      refine lv_iload hx hb dX12_likelyFrom_38 (lv_at hl 0 rfl) ?_
      exact by
       have I47 : jI101 σ31 := jI101_fr (f34 4 (of_decide_eq_true rfl)) (f34 5 (of_decide_eq_true rfl)) (f33 56 (of_decide_eq_true rfl)) (f33 57 (of_decide_eq_true rfl)) (f33 58 (of_decide_eq_true rfl)) (f33 59 (of_decide_eq_true rfl)) hI101
       have I48 : jI102 σ31 := jI102_fr (f34 6 (of_decide_eq_true rfl)) (f33 60 (of_decide_eq_true rfl)) (f33 61 (of_decide_eq_true rfl)) hI102
       have I49 : jI103 σ31 := jI103_fr (f34 9 (of_decide_eq_true rfl)) hI103
       have I50 : jI105 σ31 := jI105_fr (f34 15 (of_decide_eq_true rfl)) (f33 65 (of_decide_eq_true rfl)) hI105
       have w51 : ∀ k : Nat, k < 4 → 0 ≤ (σ31 68 k).toInt ∧ (σ31 68 k).toInt ≤ 3 := (jrr_fr (f33 68 (of_decide_eq_true rfl)) w14)
       refine jcallV (As := [.int r32, .int x46]) (rest := []) ⟨hx, hb, hml, hown, hts⟩ hK hP hA hS hZ (c_X12_outBy l D cI cL ad zz hJ σ31 τ r32 (r32.toInt) rfl x46 (x46.toInt) rfl I47 I48 I49 I50 w51 p36 (by omega) (by omega)) cw_RX12_259 (jc_55 cI cL ad σ31 τ) rfl ⟨by dsimp only; omega, by dsimp only; omega⟩ rfl rfl rfl hl.1 rfl (Nat.le_of_ble_eq_true rfl) dX12_likelyFrom_40 ⟨Nat.zero_le _, Nat.zero_le _⟩ (fun r53 σ52 τ52 H locs h52 hP hS => ?_)
       obtain ⟨rfl, f54, f55, p56, w57, h52⟩ := h52
       have h59 := h52
       obtain ⟨q61, k60⟩ := h59
       exact by
        refine lv_istore (lv' := [(5, .int r53), (4, .int x46), (3, .int r32), (0, .ref (ad 55)), (1, .int a1), (2, .int a2)]) hx hb dX12_likelyFrom_43 hl (of_decide_eq_true rfl) rfl (fun ls hl => ?_)
        refine lv_iload_n hx hb dX12_likelyFrom_45 rfl (lv_at hl 5 rfl) ?_
        refine lv_aload_n hx hb dX12_likelyFrom_46 rfl (lv_at hl 3 rfl) ?_
        refine lv_iload_n hx hb dX12_likelyFrom_47 rfl (lv_at hl 2 rfl) ?_
        refine lv_iload hx hb dX12_likelyFrom_48 (lv_at hl 1 rfl) ?_
        have I62 : jI101 σ52 := jI101_fr (f55 4 (of_decide_eq_true rfl)) (f55 5 (of_decide_eq_true rfl)) (f54 56 (of_decide_eq_true rfl)) (f54 57 (of_decide_eq_true rfl)) (f54 58 (of_decide_eq_true rfl)) (f54 59 (of_decide_eq_true rfl)) I47
        have I63 : jI102 σ52 := jI102_fr (f55 6 (of_decide_eq_true rfl)) (f54 60 (of_decide_eq_true rfl)) (f54 61 (of_decide_eq_true rfl)) I48
        have I64 : jI103 σ52 := jI103_fr (f55 9 (of_decide_eq_true rfl)) I49
        have w65 : ∀ k : Nat, k < 4 → 0 ≤ (σ52 68 k).toInt ∧ (σ52 68 k).toInt ≤ 3 := (jrr_fr (f54 68 (of_decide_eq_true rfl)) w51)
        exact by
         refine jcallV (As := [.int r32, .int x46]) (rest := [.int a2]) ⟨hx, hb, hml, hown, hts⟩ hK hP hA hS hZ (c_X12_runsBy l D cI cL ad zz hJ σ52 τ r32 (r32.toInt) rfl x46 (x46.toInt) rfl I62 I63 I64 w65 (by omega) (by omega)) cw_RX12_262 (jc_55 cI cL ad σ52 τ) rfl ⟨by dsimp only; omega, by dsimp only; omega⟩ rfl rfl rfl hl.1 rfl (Nat.le_of_ble_eq_true rfl) dX12_likelyFrom_50 ⟨Nat.zero_le _, Nat.zero_le _⟩ (fun r67 σ66 τ66 H locs h66 hP hS => ?_)
         obtain ⟨⟨rfl, rfl⟩, w68, h66⟩ := h66
         have h69 := h66
         obtain ⟨q71, k70⟩ := h69
         have g72 := jrg (rfl : r67.toInt = r67.toInt)
         refine lv_isub hx hb dX12_likelyFrom_53 ?_
         refine lv_topi (fun x73 ex73 => ?_)
         have gx73 := jrg (rfl : x73.toInt = x73.toInt)
         refine lv_istore (lv' := [(6, .int x73), (5, .int r53), (4, .int x46), (3, .int r32), (0, .ref (ad 55)), (1, .int a1), (2, .int a2)]) hx hb dX12_likelyFrom_54 hl (of_decide_eq_true rfl) rfl (fun ls hl => ?_)
         refine lv_aload_n hx hb dX12_likelyFrom_56 rfl (lv_at hl 4 rfl) ?_
         refine lv_iload_n hx hb dX12_likelyFrom_57 rfl (lv_at hl 3 rfl) ?_
         refine lv_iconst (v := 1) hx hb dX12_likelyFrom_58 (of_decide_eq_true rfl) ?_
         have z74 : (σ52 55 6).toInt = (σ 55 6).toInt := (congrArg Int32.toInt (show σ52 55 6 = (σ 55 6) from ((f55 6 (of_decide_eq_true rfl)).trans (f34 6 (of_decide_eq_true rfl)))))
         have z75 : (σ52 55 27).toInt = (σ 55 27).toInt := (congrArg Int32.toInt (show σ52 55 27 = (σ 55 27) from ((f55 27 (of_decide_eq_true rfl)).trans (f34 27 (of_decide_eq_true rfl)))))
         have z76 : (σ52 55 25).toInt = (σ 55 25).toInt := (congrArg Int32.toInt (show σ52 55 25 = (σ 55 25) from ((f55 25 (of_decide_eq_true rfl)).trans m43)))
         have z77 : (σ52 55 26).toInt = (σ 55 26).toInt := (congrArg Int32.toInt (show σ52 55 26 = (σ 55 26) from ((f55 26 (of_decide_eq_true rfl)).trans (f34 26 (of_decide_eq_true rfl)))))
         have z78 : (σ52 68 0).toInt = (σ 68 0).toInt := (congrArg Int32.toInt (show σ52 68 0 = (σ 68 0) from ((congrFun (f54 68 (of_decide_eq_true rfl)) 0).trans (congrFun (f33 68 (of_decide_eq_true rfl)) 0))))
         have z79 : (σ52 68 1).toInt = (σ 68 1).toInt := (congrArg Int32.toInt (show σ52 68 1 = (σ 68 1) from ((congrFun (f54 68 (of_decide_eq_true rfl)) 1).trans (congrFun (f33 68 (of_decide_eq_true rfl)) 1))))
         have z80 : (σ52 68 2).toInt = (σ 68 2).toInt := (congrArg Int32.toInt (show σ52 68 2 = (σ 68 2) from ((congrFun (f54 68 (of_decide_eq_true rfl)) 2).trans (congrFun (f33 68 (of_decide_eq_true rfl)) 2))))
         have z81 : (σ52 68 3).toInt = (σ 68 3).toInt := (congrArg Int32.toInt (show σ52 68 3 = (σ 68 3) from ((congrFun (f54 68 (of_decide_eq_true rfl)) 3).trans (congrFun (f33 68 (of_decide_eq_true rfl)) 3))))
         exact by
          refine jcallV (As := [.int r32, .int 1]) (rest := []) ⟨hx, hb, hml, hown, hts⟩ hK hP hA hS hZ (c_X12_goes_1 l D cI cL ad zz hJ σ52 τ r32 (r32.toInt) rfl w65 (by omega) (by omega) (by omega) (by omega) (by omega)) cw_RX12_296 (jc_55 cI cL ad σ52 τ) rfl ⟨by dsimp only; omega, by dsimp only; omega⟩ rfl rfl rfl hl.1 rfl (Nat.le_of_ble_eq_true rfl) dX12_likelyFrom_59 ⟨Nat.zero_le _, Nat.zero_le _⟩ (fun r83 σ82 τ82 H locs h82 hP hS => ?_)
          obtain ⟨rfl, f84, f85, w86, w87, w88, w89, h82⟩ := h82
          obtain ⟨k91, k92, k93, h82⟩ := h82
          have h94 := h82
          obtain ⟨q100, k95, k96, k97, k98, k99⟩ := h94
          refine lv_istore (lv' := [(7, .int r83), (6, .int x73), (5, .int r53), (4, .int x46), (3, .int r32), (0, .ref (ad 55)), (1, .int a1), (2, .int a2)]) hx hb dX12_likelyFrom_62 hl (of_decide_eq_true rfl) rfl (fun ls hl => ?_)
          refine lv_aload_n hx hb dX12_likelyFrom_64 rfl (lv_at hl 5 rfl) ?_
          refine lv_iload_n hx hb dX12_likelyFrom_65 rfl (lv_at hl 6 rfl) ?_
          refine lv_iload hx hb dX12_likelyFrom_66 (lv_at hl 1 rfl) ?_
          have I101 : jI101 σ82 := jI101_fr (f85 4 (of_decide_eq_true rfl)) (f85 5 (of_decide_eq_true rfl)) (f84 56 (of_decide_eq_true rfl)) (f84 57 (of_decide_eq_true rfl)) (f84 58 (of_decide_eq_true rfl)) (f84 59 (of_decide_eq_true rfl)) I62
          have I102 : jI102 σ82 := jI102_fr (f85 6 (of_decide_eq_true rfl)) (f84 60 (of_decide_eq_true rfl)) (f84 61 (of_decide_eq_true rfl)) I63
          have I103 : jI103 σ82 := jI103_fr (f85 9 (of_decide_eq_true rfl)) I64
          have I104 : jI104 σ82 := jI104_fr ((f85 10 (of_decide_eq_true rfl)).trans ((f55 10 (of_decide_eq_true rfl)).trans (f34 10 (of_decide_eq_true rfl)))) ((f85 12 (of_decide_eq_true rfl)).trans ((f55 12 (of_decide_eq_true rfl)).trans (f34 12 (of_decide_eq_true rfl)))) ((f85 13 (of_decide_eq_true rfl)).trans ((f55 13 (of_decide_eq_true rfl)).trans (f34 13 (of_decide_eq_true rfl)))) ((f84 62 (of_decide_eq_true rfl)).trans ((f54 62 (of_decide_eq_true rfl)).trans (f33 62 (of_decide_eq_true rfl)))) ((f84 67 (of_decide_eq_true rfl)).trans ((f54 67 (of_decide_eq_true rfl)).trans (f33 67 (of_decide_eq_true rfl)))) hI104
          have I105 : jI105 σ82 := jI105_fr ((f85 15 (of_decide_eq_true rfl)).trans (f55 15 (of_decide_eq_true rfl))) ((f84 65 (of_decide_eq_true rfl)).trans (f54 65 (of_decide_eq_true rfl))) I50
          have I106 : jI106 σ82 := jI106_fr ((f85 32 (of_decide_eq_true rfl)).trans ((f55 32 (of_decide_eq_true rfl)).trans (f34 32 (of_decide_eq_true rfl)))) ((f84 70 (of_decide_eq_true rfl)).trans ((f54 70 (of_decide_eq_true rfl)).trans (f33 70 (of_decide_eq_true rfl)))) ((f84 71 (of_decide_eq_true rfl)).trans ((f54 71 (of_decide_eq_true rfl)).trans (f33 71 (of_decide_eq_true rfl)))) ((f84 72 (of_decide_eq_true rfl)).trans ((f54 72 (of_decide_eq_true rfl)).trans (f33 72 (of_decide_eq_true rfl)))) hI106
          have z107 : (σ82 55 10).toInt = (σ 55 10).toInt := (congrArg Int32.toInt (show σ82 55 10 = (σ 55 10) from ((f85 10 (of_decide_eq_true rfl)).trans ((f55 10 (of_decide_eq_true rfl)).trans (f34 10 (of_decide_eq_true rfl))))))
          have z108 : (σ82 55 12).toInt = (σ 55 12).toInt := (congrArg Int32.toInt (show σ82 55 12 = (σ 55 12) from ((f85 12 (of_decide_eq_true rfl)).trans ((f55 12 (of_decide_eq_true rfl)).trans (f34 12 (of_decide_eq_true rfl))))))
          exact by
           have I109 : jI120 σ82 := ⟨(by omega), (by omega), (by omega), (by omega), (by omega), w86⟩
           have p110 : jKept σ82 := jKept.fr ((f84 75 (of_decide_eq_true rfl)).trans (f54 75 (of_decide_eq_true rfl))) ((f84 76 (of_decide_eq_true rfl)).trans (f54 76 (of_decide_eq_true rfl))) ((f84 77 (of_decide_eq_true rfl)).trans (f54 77 (of_decide_eq_true rfl))) p35
           have p111 : jTR σ82 := jTR.fr (f84 64 (of_decide_eq_true rfl)) (f84 65 (of_decide_eq_true rfl)) p56
           have p112 : jqSt σ82 := jqSt.fr ((f84 78 (of_decide_eq_true rfl)).trans (f54 78 (of_decide_eq_true rfl))) ((f85 42 (of_decide_eq_true rfl)).trans (f55 42 (of_decide_eq_true rfl))) p37
           refine jcallV (As := [.int a1, .int x73]) (rest := []) ⟨hx, hb, hml, hown, hts⟩ hK hP hA hS hZ (h_lf σ82 τ a1 (A1) t1 x73 (x73.toInt) rfl I101 I102 I103 I104 I105 I106 I109 p110 p111 p112 (by omega) (by omega) (by omega)) cw_RX12_328 (jc_55 cI cL ad σ82 τ) rfl ⟨by dsimp only; omega, by dsimp only; omega⟩ rfl rfl rfl hl.1 rfl (Nat.le_of_ble_eq_true rfl) dX12_likelyFrom_68 ⟨Nat.zero_le _, Nat.zero_le _⟩ (fun r114 σ113 τ113 H locs h113 hP hS => ?_)
           obtain ⟨rfl, f115, f116, p117, p118, p119, h113⟩ := h113
           refine lv_istore (lv' := [(8, .int r114), (7, .int r83), (6, .int x73), (5, .int r53), (4, .int x46), (3, .int r32), (0, .ref (ad 55)), (1, .int a1), (2, .int a2)]) hx hb dX12_likelyFrom_71 hl (of_decide_eq_true rfl) rfl (fun ls hl => ?_)
           refine lv_aload_n hx hb dX12_likelyFrom_73 rfl (lv_at hl 6 rfl) ?_
           refine lv_iload_n hx hb dX12_likelyFrom_74 rfl (lv_at hl 5 rfl) ?_
           exact by
            refine lv_iconst (v := 1) hx hb dX12_likelyFrom_75 (of_decide_eq_true rfl) ?_
            refine lv_iload hx hb dX12_likelyFrom_76 (lv_at hl 1 rfl) ?_
            have w121 : ∀ k : Nat, k < 4 → 0 ≤ (σ113 68 k).toInt ∧ (σ113 68 k).toInt ≤ 3 := (jrr_fr (f115 68 (of_decide_eq_true rfl)) w86)
            have z122 : (σ113 55 25).toInt = (σ82 55 25).toInt := (congrArg Int32.toInt (show σ113 55 25 = (σ82 55 25) from (f116 25 (of_decide_eq_true rfl))))
            have z123 : (σ113 55 26).toInt = (σ82 55 26).toInt := (congrArg Int32.toInt (show σ113 55 26 = (σ82 55 26) from (f116 26 (of_decide_eq_true rfl))))
            have z124 : (σ113 55 6).toInt = (σ 55 6).toInt := (congrArg Int32.toInt (show σ113 55 6 = (σ 55 6) from ((f116 6 (of_decide_eq_true rfl)).trans ((f85 6 (of_decide_eq_true rfl)).trans ((f55 6 (of_decide_eq_true rfl)).trans (f34 6 (of_decide_eq_true rfl)))))))
            have w125 : ∀ k : Nat, k < 4 → 0 ≤ (σ52 68 k).toInt ∧ (σ52 68 k).toInt ≤ 3 := w65
            have z127 : (σ52 55 27).toInt = (σ 55 27).toInt := (congrArg Int32.toInt (show σ52 55 27 = (σ 55 27) from ((f55 27 (of_decide_eq_true rfl)).trans (f34 27 (of_decide_eq_true rfl)))))
            have k126 := jwas (by omega) (w125 0 (of_decide_eq_true rfl)) (w125 1 (of_decide_eq_true rfl)) (w125 2 (of_decide_eq_true rfl)) (w125 3 (of_decide_eq_true rfl)) k95
            rw [← (show σ113 55 6 = σ52 55 6 from ((f116 6 (of_decide_eq_true rfl)).trans (f85 6 (of_decide_eq_true rfl))))] at k126
            exact by
             refine jcallVv (As := [.int r32, .int 1, .int r83]) (rest := []) ⟨hx, hb, hml, hown, hts⟩ hK hP hA hS hZ (c_X12_goesBack_1 l D cI cL ad zz hJ σ113 τ r32 (r32.toInt) rfl r83 (r83.toInt) rfl w121 (by omega) (by omega) (by omega) k126) cw_RX12_300 (jc_55 cI cL ad σ113 τ) rfl ⟨by dsimp only; omega, by dsimp only; omega⟩ rfl rfl rfl hl.1 rfl (Nat.le_of_ble_eq_true rfl) dX12_likelyFrom_78 ⟨Nat.zero_le _, Nat.zero_le _⟩ (fun σ128 τ128 H locs h128 hP hS => ?_)
             obtain ⟨rfl, f130, f131, w132, w133, w134, h128⟩ := h128
             obtain ⟨k136, k137, k138, k139, h128⟩ := h128
             have p140 : jKept σ128 := jKept.fr (f130 75 (of_decide_eq_true rfl)) (f130 76 (of_decide_eq_true rfl)) (f130 77 (of_decide_eq_true rfl)) p117
             have p141 : jTR σ128 := jTR.fr (f130 64 (of_decide_eq_true rfl)) (f130 65 (of_decide_eq_true rfl)) p118
             have p142 : jqSt σ128 := jqSt.fr (f130 78 (of_decide_eq_true rfl)) (f131 42 (of_decide_eq_true rfl)) p119
             have M143 : jrM σ113 → jrM σ128 := fun q => (jrEq.m (σ := σ113) (σ' := σ128) ⟨⟨(f130 56 (of_decide_eq_true rfl)), (f130 60 (of_decide_eq_true rfl)), (f130 61 (of_decide_eq_true rfl)), (f130 62 (of_decide_eq_true rfl)), (f130 64 (of_decide_eq_true rfl)), (f130 65 (of_decide_eq_true rfl))⟩, (f131 6 (of_decide_eq_true rfl)), (f131 9 (of_decide_eq_true rfl)), (f131 10 (of_decide_eq_true rfl)), (f131 12 (of_decide_eq_true rfl)), (f131 13 (of_decide_eq_true rfl)), (f131 30 (of_decide_eq_true rfl)), (f131 31 (of_decide_eq_true rfl)), (f131 42 (of_decide_eq_true rfl))⟩ (f130 78 (of_decide_eq_true rfl)) (f130 74 (of_decide_eq_true rfl)) (f130 75 (of_decide_eq_true rfl)) (f130 76 (of_decide_eq_true rfl)) (f130 77 (of_decide_eq_true rfl)) q)
             have e144 : σ113 69 = σ82 69 := (f115 69 (of_decide_eq_true rfl))
             have e145 : σ128 69 = σ52 69 := jback69 w87 e144 w133
             have e146 : σ113 68 = σ82 68 := (f115 68 (of_decide_eq_true rfl))
             have e147 : σ113 55 6 = σ52 55 6 := ((f116 6 (of_decide_eq_true rfl)).trans (f85 6 (of_decide_eq_true rfl)))
             have w155 : ∀ k : Nat, k < 4 → 0 ≤ (σ52 68 k).toInt ∧ (σ52 68 k).toInt ≤ 3 := w65
             have w156 : ∀ k : Nat, k < 4 → 0 ≤ (σ128 68 k).toInt ∧ (σ128 68 k).toInt ≤ 3 := w132
             have k157 := k139
             rw [e147] at k157
             have D148 := jdig (w155 0 (of_decide_eq_true rfl)) (w155 1 (of_decide_eq_true rfl)) (w155 2 (of_decide_eq_true rfl)) (w155 3 (of_decide_eq_true rfl)) (w156 0 (of_decide_eq_true rfl)) (w156 1 (of_decide_eq_true rfl)) (w156 2 (of_decide_eq_true rfl)) (w156 3 (of_decide_eq_true rfl)) k95 k157
             exact by
              have e149 : σ128 55 27 = σ52 55 27 := Int32.toInt_inj.mp (by have h9 := D148.1; omega)
              have z158 : (σ113 55 26).toInt = (σ82 55 26).toInt := (congrArg Int32.toInt (show σ113 55 26 = (σ82 55 26) from (f116 26 (of_decide_eq_true rfl))))
              have z159 : (σ52 55 26).toInt = (σ 55 26).toInt := (congrArg Int32.toInt (show σ52 55 26 = (σ 55 26) from ((f55 26 (of_decide_eq_true rfl)).trans (f34 26 (of_decide_eq_true rfl)))))
              have z160 : (σ113 55 25).toInt = (σ82 55 25).toInt := (congrArg Int32.toInt (show σ113 55 25 = (σ82 55 25) from (f116 25 (of_decide_eq_true rfl))))
              have z161 : (σ52 55 25).toInt = (σ 55 25).toInt := (congrArg Int32.toInt (show σ52 55 25 = (σ 55 25) from ((f55 25 (of_decide_eq_true rfl)).trans (f34 25 (of_decide_eq_true rfl)))))
              have e150 : σ128 55 26 = σ52 55 26 := Int32.toInt_inj.mp (by omega)
              have e151 : σ128 55 25 = σ52 55 25 := Int32.toInt_inj.mp (by omega)
              have z162 : (σ52 55 6).toInt = (σ 55 6).toInt := (congrArg Int32.toInt (show σ52 55 6 = (σ 55 6) from ((f55 6 (of_decide_eq_true rfl)).trans (f34 6 (of_decide_eq_true rfl)))))
              have e152 : σ128 68 = σ52 68 := jback68 (nb := (σ52 55 6).toInt) (by omega) w88 e146 (fun k hk => w134 k (by rw [e147]; exact hk)) D148.2
              exact by
               have f153 : (∀ i : Nat, (i < 55 ∨ 55 < i) ∧ (i < 66 ∨ 66 < i) ∧ (i < 74 ∨ 78 < i) → σ128 i = σ52 i) := fun i hi0 => by
                 by_cases h8 : i = 68
                 · rw [h8]; exact e152
                 by_cases h9 : i = 69
                 · rw [h9]; exact e145
                 have hi : ((i < 55 ∨ 55 < i) ∧ (i < 66 ∨ 66 < i) ∧ (i < 74 ∨ 78 < i)) ∧ i ≠ 68 ∧ i ≠ 69 := ⟨hi0, h8, h9⟩
                 exact ((f130 i (imp_200 i hi)).trans ((f115 i (imp_201 i hi)).trans (f84 i (imp_200 i hi))))
               have f154 : ∀ i : Nat, (i < 18 ∨ 18 < i) ∧ (i < 19 ∨ 19 < i) ∧ (i < 20 ∨ 20 < i) ∧ (i < 21 ∨ 21 < i) ∧ (i < 22 ∨ 22 < i) ∧ (i < 37 ∨ 37 < i) → σ128 55 i = σ52 55 i := fun i hi0 => by
                 by_cases h25 : i = 25
                 · rw [h25]; exact e151
                 by_cases h26 : i = 26
                 · rw [h26]; exact e150
                 by_cases h27 : i = 27
                 · rw [h27]; exact e149
                 have hi : ((i < 18 ∨ 18 < i) ∧ (i < 19 ∨ 19 < i) ∧ (i < 20 ∨ 20 < i) ∧ (i < 21 ∨ 21 < i) ∧ (i < 22 ∨ 22 < i) ∧ (i < 37 ∨ 37 < i)) ∧ i ≠ 25 ∧ i ≠ 26 ∧ i ≠ 27 := ⟨hi0, h25, h26, h27⟩
                 exact ((f131 i (imp_202 i hi)).trans ((f116 i (imp_203 i hi)).trans (f85 i (imp_202 i hi))))
               clear k157 k139 k95
               refine lv_aload_n hx hb dX12_likelyFrom_81 rfl (lv_at hl 6 rfl) ?_
               refine lv_iload_n hx hb dX12_likelyFrom_82 rfl (lv_at hl 5 rfl) ?_
               refine lv_iconst (v := 0) hx hb dX12_likelyFrom_83 (of_decide_eq_true rfl) ?_
               have w163 : ∀ k : Nat, k < 4 → 0 ≤ (σ128 68 k).toInt ∧ (σ128 68 k).toInt ≤ 3 := (jrr_fr (f153 68 (of_decide_eq_true rfl)) w65)
               have z164 : (σ128 55 6).toInt = (σ 55 6).toInt := (congrArg Int32.toInt (show σ128 55 6 = (σ 55 6) from ((f154 6 (of_decide_eq_true rfl)).trans ((f55 6 (of_decide_eq_true rfl)).trans (f34 6 (of_decide_eq_true rfl))))))
               have z165 : (σ128 55 27).toInt = (σ 55 27).toInt := (congrArg Int32.toInt (show σ128 55 27 = (σ 55 27) from ((f154 27 (of_decide_eq_true rfl)).trans ((f55 27 (of_decide_eq_true rfl)).trans (f34 27 (of_decide_eq_true rfl))))))
               have z166 : (σ128 55 25).toInt = (σ 55 25).toInt := (congrArg Int32.toInt (show σ128 55 25 = (σ 55 25) from ((f154 25 (of_decide_eq_true rfl)).trans ((f55 25 (of_decide_eq_true rfl)).trans m43))))
               have z167 : (σ128 55 26).toInt = (σ 55 26).toInt := (congrArg Int32.toInt (show σ128 55 26 = (σ 55 26) from ((f154 26 (of_decide_eq_true rfl)).trans ((f55 26 (of_decide_eq_true rfl)).trans (f34 26 (of_decide_eq_true rfl))))))
               have z168 : (σ128 68 0).toInt = (σ 68 0).toInt := (congrArg Int32.toInt (show σ128 68 0 = (σ 68 0) from ((congrFun (f153 68 (of_decide_eq_true rfl)) 0).trans ((congrFun (f54 68 (of_decide_eq_true rfl)) 0).trans (congrFun (f33 68 (of_decide_eq_true rfl)) 0)))))
               have z169 : (σ128 68 1).toInt = (σ 68 1).toInt := (congrArg Int32.toInt (show σ128 68 1 = (σ 68 1) from ((congrFun (f153 68 (of_decide_eq_true rfl)) 1).trans ((congrFun (f54 68 (of_decide_eq_true rfl)) 1).trans (congrFun (f33 68 (of_decide_eq_true rfl)) 1)))))
               have z170 : (σ128 68 2).toInt = (σ 68 2).toInt := (congrArg Int32.toInt (show σ128 68 2 = (σ 68 2) from ((congrFun (f153 68 (of_decide_eq_true rfl)) 2).trans ((congrFun (f54 68 (of_decide_eq_true rfl)) 2).trans (congrFun (f33 68 (of_decide_eq_true rfl)) 2)))))
               have z171 : (σ128 68 3).toInt = (σ 68 3).toInt := (congrArg Int32.toInt (show σ128 68 3 = (σ 68 3) from ((congrFun (f153 68 (of_decide_eq_true rfl)) 3).trans ((congrFun (f54 68 (of_decide_eq_true rfl)) 3).trans (congrFun (f33 68 (of_decide_eq_true rfl)) 3)))))
               exact by
                refine jcallV (As := [.int r32, .int 0]) (rest := []) ⟨hx, hb, hml, hown, hts⟩ hK hP hA hS hZ (c_X12_goes_0 l D cI cL ad zz hJ σ128 τ r32 (r32.toInt) rfl w163 (by omega) (by omega) (by omega) (by omega) (by omega)) cw_RX12_296 (jc_55 cI cL ad σ128 τ) rfl ⟨by dsimp only; omega, by dsimp only; omega⟩ rfl rfl rfl hl.1 rfl (Nat.le_of_ble_eq_true rfl) dX12_likelyFrom_84 ⟨Nat.zero_le _, Nat.zero_le _⟩ (fun r173 σ172 τ172 H locs h172 hP hS => ?_)
                obtain ⟨rfl, f174, f175, w176, w177, w178, w179, h172⟩ := h172
                obtain ⟨k181, k182, k183, h172⟩ := h172
                have h184 := h172
                obtain ⟨q190, k185, k186, k187, k188, k189⟩ := h184
                refine lv_istore (lv' := [(7, .int r173), (8, .int r114), (6, .int x73), (5, .int r53), (4, .int x46), (3, .int r32), (0, .ref (ad 55)), (1, .int a1), (2, .int a2)]) hx hb dX12_likelyFrom_87 hl (of_decide_eq_true rfl) rfl (fun ls hl => ?_)
                refine lv_aload_n hx hb dX12_likelyFrom_89 rfl (lv_at hl 6 rfl) ?_
                refine lv_iload_n hx hb dX12_likelyFrom_90 rfl (lv_at hl 7 rfl) ?_
                refine lv_iload hx hb dX12_likelyFrom_91 (lv_at hl 2 rfl) ?_
                have I191 : jI101 σ172 := jI101_fr ((f175 4 (of_decide_eq_true rfl)).trans (f154 4 (of_decide_eq_true rfl))) ((f175 5 (of_decide_eq_true rfl)).trans (f154 5 (of_decide_eq_true rfl))) ((f174 56 (of_decide_eq_true rfl)).trans (f153 56 (of_decide_eq_true rfl))) ((f174 57 (of_decide_eq_true rfl)).trans (f153 57 (of_decide_eq_true rfl))) ((f174 58 (of_decide_eq_true rfl)).trans (f153 58 (of_decide_eq_true rfl))) ((f174 59 (of_decide_eq_true rfl)).trans (f153 59 (of_decide_eq_true rfl))) I62
                have I192 : jI102 σ172 := jI102_fr ((f175 6 (of_decide_eq_true rfl)).trans (f154 6 (of_decide_eq_true rfl))) ((f174 60 (of_decide_eq_true rfl)).trans (f153 60 (of_decide_eq_true rfl))) ((f174 61 (of_decide_eq_true rfl)).trans (f153 61 (of_decide_eq_true rfl))) I63
                have I193 : jI103 σ172 := jI103_fr ((f175 9 (of_decide_eq_true rfl)).trans (f154 9 (of_decide_eq_true rfl))) I64
                have I194 : jI104 σ172 := jI104_fr ((f175 10 (of_decide_eq_true rfl)).trans ((f154 10 (of_decide_eq_true rfl)).trans ((f55 10 (of_decide_eq_true rfl)).trans (f34 10 (of_decide_eq_true rfl))))) ((f175 12 (of_decide_eq_true rfl)).trans ((f154 12 (of_decide_eq_true rfl)).trans ((f55 12 (of_decide_eq_true rfl)).trans (f34 12 (of_decide_eq_true rfl))))) ((f175 13 (of_decide_eq_true rfl)).trans ((f154 13 (of_decide_eq_true rfl)).trans ((f55 13 (of_decide_eq_true rfl)).trans (f34 13 (of_decide_eq_true rfl))))) ((f174 62 (of_decide_eq_true rfl)).trans ((f153 62 (of_decide_eq_true rfl)).trans ((f54 62 (of_decide_eq_true rfl)).trans (f33 62 (of_decide_eq_true rfl))))) ((f174 67 (of_decide_eq_true rfl)).trans ((f153 67 (of_decide_eq_true rfl)).trans ((f54 67 (of_decide_eq_true rfl)).trans (f33 67 (of_decide_eq_true rfl))))) hI104
                have I195 : jI105 σ172 := jI105_fr ((f175 15 (of_decide_eq_true rfl)).trans ((f154 15 (of_decide_eq_true rfl)).trans (f55 15 (of_decide_eq_true rfl)))) ((f174 65 (of_decide_eq_true rfl)).trans ((f153 65 (of_decide_eq_true rfl)).trans (f54 65 (of_decide_eq_true rfl)))) I50
                have I196 : jI106 σ172 := jI106_fr ((f175 32 (of_decide_eq_true rfl)).trans ((f154 32 (of_decide_eq_true rfl)).trans ((f55 32 (of_decide_eq_true rfl)).trans (f34 32 (of_decide_eq_true rfl))))) ((f174 70 (of_decide_eq_true rfl)).trans ((f153 70 (of_decide_eq_true rfl)).trans ((f54 70 (of_decide_eq_true rfl)).trans (f33 70 (of_decide_eq_true rfl))))) ((f174 71 (of_decide_eq_true rfl)).trans ((f153 71 (of_decide_eq_true rfl)).trans ((f54 71 (of_decide_eq_true rfl)).trans (f33 71 (of_decide_eq_true rfl))))) ((f174 72 (of_decide_eq_true rfl)).trans ((f153 72 (of_decide_eq_true rfl)).trans ((f54 72 (of_decide_eq_true rfl)).trans (f33 72 (of_decide_eq_true rfl))))) hI106
                have z197 : (σ172 55 10).toInt = (σ 55 10).toInt := (congrArg Int32.toInt (show σ172 55 10 = (σ 55 10) from ((f175 10 (of_decide_eq_true rfl)).trans ((f154 10 (of_decide_eq_true rfl)).trans ((f55 10 (of_decide_eq_true rfl)).trans (f34 10 (of_decide_eq_true rfl)))))))
                have z198 : (σ172 55 12).toInt = (σ 55 12).toInt := (congrArg Int32.toInt (show σ172 55 12 = (σ 55 12) from ((f175 12 (of_decide_eq_true rfl)).trans ((f154 12 (of_decide_eq_true rfl)).trans ((f55 12 (of_decide_eq_true rfl)).trans (f34 12 (of_decide_eq_true rfl)))))))
                exact by
                 have I199 : jI120 σ172 := ⟨(by omega), (by omega), (by omega), (by omega), (by omega), w176⟩
                 have p200 : jKept σ172 := jKept.fr (f174 75 (of_decide_eq_true rfl)) (f174 76 (of_decide_eq_true rfl)) (f174 77 (of_decide_eq_true rfl)) p140
                 have p201 : jTR σ172 := jTR.fr (f174 64 (of_decide_eq_true rfl)) (f174 65 (of_decide_eq_true rfl)) p141
                 have p202 : jqSt σ172 := jqSt.fr (f174 78 (of_decide_eq_true rfl)) (f175 42 (of_decide_eq_true rfl)) p142
                 refine jcallV (As := [.int a1, .int x73]) (rest := []) ⟨hx, hb, hml, hown, hts⟩ hK hP hA hS hZ (h_lf σ172 τ a1 (A1) t1 x73 (x73.toInt) rfl I191 I192 I193 I194 I195 I196 I199 p200 p201 p202 (by omega) (by omega) (by omega)) cw_RX12_328 (jc_55 cI cL ad σ172 τ) rfl ⟨by dsimp only; omega, by dsimp only; omega⟩ rfl rfl rfl hl.1 rfl (Nat.le_of_ble_eq_true rfl) dX12_likelyFrom_93 ⟨Nat.zero_le _, Nat.zero_le _⟩ (fun r204 σ203 τ203 H locs h203 hP hS => ?_)
                 obtain ⟨rfl, f205, f206, p207, p208, p209, h203⟩ := h203
                 refine lv_istore (lv' := [(9, .int r204), (7, .int r173), (8, .int r114), (6, .int x73), (5, .int r53), (4, .int x46), (3, .int r32), (0, .ref (ad 55)), (1, .int a1), (2, .int a2)]) hx hb dX12_likelyFrom_96 hl (of_decide_eq_true rfl) rfl (fun ls hl => ?_)
                 refine lv_aload_n hx hb dX12_likelyFrom_98 rfl (lv_at hl 7 rfl) ?_
                 refine lv_iload_n hx hb dX12_likelyFrom_99 rfl (lv_at hl 6 rfl) ?_
                 exact by
                  refine lv_iconst (v := 0) hx hb dX12_likelyFrom_100 (of_decide_eq_true rfl) ?_
                  refine lv_iload hx hb dX12_likelyFrom_101 (lv_at hl 1 rfl) ?_
                  have w211 : ∀ k : Nat, k < 4 → 0 ≤ (σ203 68 k).toInt ∧ (σ203 68 k).toInt ≤ 3 := (jrr_fr (f205 68 (of_decide_eq_true rfl)) w176)
                  have z212 : (σ203 55 25).toInt = (σ172 55 25).toInt := (congrArg Int32.toInt (show σ203 55 25 = (σ172 55 25) from (f206 25 (of_decide_eq_true rfl))))
                  have z213 : (σ203 55 26).toInt = (σ172 55 26).toInt := (congrArg Int32.toInt (show σ203 55 26 = (σ172 55 26) from (f206 26 (of_decide_eq_true rfl))))
                  have z214 : (σ203 55 6).toInt = (σ 55 6).toInt := (congrArg Int32.toInt (show σ203 55 6 = (σ 55 6) from ((f206 6 (of_decide_eq_true rfl)).trans ((f175 6 (of_decide_eq_true rfl)).trans ((f154 6 (of_decide_eq_true rfl)).trans ((f55 6 (of_decide_eq_true rfl)).trans (f34 6 (of_decide_eq_true rfl))))))))
                  have w215 : ∀ k : Nat, k < 4 → 0 ≤ (σ128 68 k).toInt ∧ (σ128 68 k).toInt ≤ 3 := w163
                  have z217 : (σ128 55 27).toInt = (σ 55 27).toInt := (congrArg Int32.toInt (show σ128 55 27 = (σ 55 27) from ((f154 27 (of_decide_eq_true rfl)).trans ((f55 27 (of_decide_eq_true rfl)).trans (f34 27 (of_decide_eq_true rfl))))))
                  have k216 := jwas (by omega) (w215 0 (of_decide_eq_true rfl)) (w215 1 (of_decide_eq_true rfl)) (w215 2 (of_decide_eq_true rfl)) (w215 3 (of_decide_eq_true rfl)) k185
                  rw [← (show σ203 55 6 = σ128 55 6 from ((f206 6 (of_decide_eq_true rfl)).trans (f175 6 (of_decide_eq_true rfl))))] at k216
                  exact by
                   refine jcallVv (As := [.int r32, .int 0, .int r173]) (rest := []) ⟨hx, hb, hml, hown, hts⟩ hK hP hA hS hZ (c_X12_goesBack_0 l D cI cL ad zz hJ σ203 τ r32 (r32.toInt) rfl r173 (r173.toInt) rfl w211 (by omega) (by omega) (by omega) k216) cw_RX12_300 (jc_55 cI cL ad σ203 τ) rfl ⟨by dsimp only; omega, by dsimp only; omega⟩ rfl rfl rfl hl.1 rfl (Nat.le_of_ble_eq_true rfl) dX12_likelyFrom_103 ⟨Nat.zero_le _, Nat.zero_le _⟩ (fun σ218 τ218 H locs h218 hP hS => ?_)
                   obtain ⟨rfl, f220, f221, w222, w223, w224, h218⟩ := h218
                   obtain ⟨k226, k227, k228, k229, h218⟩ := h218
                   have p230 : jKept σ218 := jKept.fr (f220 75 (of_decide_eq_true rfl)) (f220 76 (of_decide_eq_true rfl)) (f220 77 (of_decide_eq_true rfl)) p207
                   have p231 : jTR σ218 := jTR.fr (f220 64 (of_decide_eq_true rfl)) (f220 65 (of_decide_eq_true rfl)) p208
                   have p232 : jqSt σ218 := jqSt.fr (f220 78 (of_decide_eq_true rfl)) (f221 42 (of_decide_eq_true rfl)) p209
                   have M233 : jrM σ203 → jrM σ218 := fun q => (jrEq.m (σ := σ203) (σ' := σ218) ⟨⟨(f220 56 (of_decide_eq_true rfl)), (f220 60 (of_decide_eq_true rfl)), (f220 61 (of_decide_eq_true rfl)), (f220 62 (of_decide_eq_true rfl)), (f220 64 (of_decide_eq_true rfl)), (f220 65 (of_decide_eq_true rfl))⟩, (f221 6 (of_decide_eq_true rfl)), (f221 9 (of_decide_eq_true rfl)), (f221 10 (of_decide_eq_true rfl)), (f221 12 (of_decide_eq_true rfl)), (f221 13 (of_decide_eq_true rfl)), (f221 30 (of_decide_eq_true rfl)), (f221 31 (of_decide_eq_true rfl)), (f221 42 (of_decide_eq_true rfl))⟩ (f220 78 (of_decide_eq_true rfl)) (f220 74 (of_decide_eq_true rfl)) (f220 75 (of_decide_eq_true rfl)) (f220 76 (of_decide_eq_true rfl)) (f220 77 (of_decide_eq_true rfl)) q)
                   have e234 : σ203 69 = σ172 69 := (f205 69 (of_decide_eq_true rfl))
                   have e235 : σ218 69 = σ128 69 := jback69 w177 e234 w223
                   have e236 : σ203 68 = σ172 68 := (f205 68 (of_decide_eq_true rfl))
                   have e237 : σ203 55 6 = σ128 55 6 := ((f206 6 (of_decide_eq_true rfl)).trans (f175 6 (of_decide_eq_true rfl)))
                   have w245 : ∀ k : Nat, k < 4 → 0 ≤ (σ128 68 k).toInt ∧ (σ128 68 k).toInt ≤ 3 := w163
                   have w246 : ∀ k : Nat, k < 4 → 0 ≤ (σ218 68 k).toInt ∧ (σ218 68 k).toInt ≤ 3 := w222
                   have k247 := k229
                   rw [e237] at k247
                   have D238 := jdig (w245 0 (of_decide_eq_true rfl)) (w245 1 (of_decide_eq_true rfl)) (w245 2 (of_decide_eq_true rfl)) (w245 3 (of_decide_eq_true rfl)) (w246 0 (of_decide_eq_true rfl)) (w246 1 (of_decide_eq_true rfl)) (w246 2 (of_decide_eq_true rfl)) (w246 3 (of_decide_eq_true rfl)) k185 k247
                   exact by
                    have e239 : σ218 55 27 = σ128 55 27 := Int32.toInt_inj.mp (by have h9 := D238.1; omega)
                    have z248 : (σ203 55 26).toInt = (σ172 55 26).toInt := (congrArg Int32.toInt (show σ203 55 26 = (σ172 55 26) from (f206 26 (of_decide_eq_true rfl))))
                    have z249 : (σ128 55 26).toInt = (σ 55 26).toInt := (congrArg Int32.toInt (show σ128 55 26 = (σ 55 26) from ((f154 26 (of_decide_eq_true rfl)).trans ((f55 26 (of_decide_eq_true rfl)).trans (f34 26 (of_decide_eq_true rfl))))))
                    have z250 : (σ203 55 25).toInt = (σ172 55 25).toInt := (congrArg Int32.toInt (show σ203 55 25 = (σ172 55 25) from (f206 25 (of_decide_eq_true rfl))))
                    have z251 : (σ128 55 25).toInt = (σ 55 25).toInt := (congrArg Int32.toInt (show σ128 55 25 = (σ 55 25) from ((f154 25 (of_decide_eq_true rfl)).trans ((f55 25 (of_decide_eq_true rfl)).trans (f34 25 (of_decide_eq_true rfl))))))
                    have e240 : σ218 55 26 = σ128 55 26 := Int32.toInt_inj.mp (by omega)
                    have e241 : σ218 55 25 = σ128 55 25 := Int32.toInt_inj.mp (by omega)
                    have z252 : (σ128 55 6).toInt = (σ 55 6).toInt := (congrArg Int32.toInt (show σ128 55 6 = (σ 55 6) from ((f154 6 (of_decide_eq_true rfl)).trans ((f55 6 (of_decide_eq_true rfl)).trans (f34 6 (of_decide_eq_true rfl))))))
                    have e242 : σ218 68 = σ128 68 := jback68 (nb := (σ128 55 6).toInt) (by omega) w178 e236 (fun k hk => w224 k (by rw [e237]; exact hk)) D238.2
                    exact by
                     have f243 : (∀ i : Nat, (i < 55 ∨ 55 < i) ∧ (i < 66 ∨ 66 < i) ∧ (i < 74 ∨ 78 < i) → σ218 i = σ128 i) := fun i hi0 => by
                       by_cases h8 : i = 68
                       · rw [h8]; exact e242
                       by_cases h9 : i = 69
                       · rw [h9]; exact e235
                       have hi : ((i < 55 ∨ 55 < i) ∧ (i < 66 ∨ 66 < i) ∧ (i < 74 ∨ 78 < i)) ∧ i ≠ 68 ∧ i ≠ 69 := ⟨hi0, h8, h9⟩
                       exact ((f220 i (imp_200 i hi)).trans ((f205 i (imp_201 i hi)).trans (f174 i (imp_200 i hi))))
                     have f244 : ∀ i : Nat, (i < 18 ∨ 18 < i) ∧ (i < 19 ∨ 19 < i) ∧ (i < 20 ∨ 20 < i) ∧ (i < 21 ∨ 21 < i) ∧ (i < 22 ∨ 22 < i) ∧ (i < 37 ∨ 37 < i) → σ218 55 i = σ128 55 i := fun i hi0 => by
                       by_cases h25 : i = 25
                       · rw [h25]; exact e241
                       by_cases h26 : i = 26
                       · rw [h26]; exact e240
                       by_cases h27 : i = 27
                       · rw [h27]; exact e239
                       have hi : ((i < 18 ∨ 18 < i) ∧ (i < 19 ∨ 19 < i) ∧ (i < 20 ∨ 20 < i) ∧ (i < 21 ∨ 21 < i) ∧ (i < 22 ∨ 22 < i) ∧ (i < 37 ∨ 37 < i)) ∧ i ≠ 25 ∧ i ≠ 26 ∧ i ≠ 27 := ⟨hi0, h25, h26, h27⟩
                       exact ((f221 i (imp_202 i hi)).trans ((f206 i (imp_203 i hi)).trans (f175 i (imp_202 i hi))))
                     clear k247 k229 k185
                     refine lv_iload hx hb dX12_likelyFrom_106 (lv_at hl 3 rfl) ?_
                     refine lv_if_le (tgt := 117) hx hb dX12_likelyFrom_108 (of_decide_eq_true rfl) (fun c253 => ?_) (fun c253 => ?_)
                     · have kc253 := jle c253 rfl jz_0
                       refine lv_iconst (v := 0) hx hb dX12_likelyFrom_117 (of_decide_eq_true rfl) ?_
                       refine lv_iload hx hb dX12_likelyFrom_118 (lv_at hl 2 rfl) ?_
                       refine lv_iload hx hb dX12_likelyFrom_120 (lv_at hl 0 rfl) ?_
                       refine lv_iload hx hb dX12_likelyFrom_122 (lv_at hl 4 rfl) ?_
                       refine jcallS (As := [.int r114, .int r204, .int r53]) (rest := [.int 0]) ⟨hx, hb, hml, hown, hts⟩ hK hP hA hS hZ (c_X12_mixed l D cI cL ad zz hJ σ218 τ r114 (r114.toInt) rfl r204 (r204.toInt) rfl r53 (r53.toInt) rfl) cw_RX12_304 ⟨by dsimp only; omega, by dsimp only; omega⟩ rfl rfl rfl hl.1 rfl (Nat.le_of_ble_eq_true rfl) dX12_likelyFrom_124 ⟨Nat.zero_le _, Nat.zero_le _⟩ (fun r255 σ254 τ254 H locs h254 hP hS => ?_)
                       obtain ⟨⟨rfl, rfl⟩, h254⟩ := h254
                       refine lv_aload_n hx hb dX12_likelyFrom_127 rfl (lv_at hl 7 rfl) ?_
                       refine va_get (D := D) hx hb hts inlX12 hown hK hP 55 (jc_55 cI cL ad σ218 τ) rfl 13 (of_decide_eq_true rfl) (hts _ kw_15_14) (fun _ h9 => h9) rfl dX12_likelyFrom_128 ?_
                       have m256 : σ218 55 13 = (σ 55 13) := ((f244 13 (of_decide_eq_true rfl)).trans ((f154 13 (of_decide_eq_true rfl)).trans ((f55 13 (of_decide_eq_true rfl)).trans (f34 13 (of_decide_eq_true rfl)))))
                       refine jtopr m256 ?_
                       refine jcallS (As := [.int 0, .int r255, .int (σ 55 13)]) (rest := []) ⟨hx, hb, hml, hown, hts⟩ hK hP hA hS hZ (c_X12_mixed l D cI cL ad zz hJ σ218 τ 0 (0) jz_0 r255 (r255.toInt) rfl (σ 55 13) ((σ 55 13).toInt) rfl) cw_RX12_304 ⟨by dsimp only; omega, by dsimp only; omega⟩ rfl rfl rfl hl.1 rfl (Nat.le_of_ble_eq_true rfl) dX12_likelyFrom_131 ⟨Nat.zero_le _, Nat.zero_le _⟩ (fun r258 σ257 τ257 H locs h257 hP hS => ?_)
                       obtain ⟨⟨rfl, rfl⟩, h257⟩ := h257
                       exact hret r258 σ218 τ _ _ _ _ rfl ⟨rfl, (fun i hi => ((f243 i hi).trans ((f153 i hi).trans ((f54 i (imp_204 i hi)).trans (f33 i hi))))), (fun i hi => ((f244 i hi).trans ((f154 i hi).trans ((f55 i (imp_205 i hi)).trans (f34 i hi))))), p230, p231, p232, trivial⟩ hP hS dX12_likelyFrom_134
                     · have kc253 := jnle c253 rfl jz_0
                       refine lv_ldcw (v := 1000000) hx hb hown (hts _ kw_37_13) dX12_likelyFrom_111 ?_
                       refine lv_goto (tgt := 118) hx hb dX12_likelyFrom_114 (of_decide_eq_true rfl) ?_
                       refine lv_iload hx hb dX12_likelyFrom_118 (lv_at hl 2 rfl) ?_
                       refine lv_iload hx hb dX12_likelyFrom_120 (lv_at hl 0 rfl) ?_
                       refine lv_iload hx hb dX12_likelyFrom_122 (lv_at hl 4 rfl) ?_
                       refine jcallS (As := [.int r114, .int r204, .int r53]) (rest := [.int 1000000]) ⟨hx, hb, hml, hown, hts⟩ hK hP hA hS hZ (c_X12_mixed l D cI cL ad zz hJ σ218 τ r114 (r114.toInt) rfl r204 (r204.toInt) rfl r53 (r53.toInt) rfl) cw_RX12_304 ⟨by dsimp only; omega, by dsimp only; omega⟩ rfl rfl rfl hl.1 rfl (Nat.le_of_ble_eq_true rfl) dX12_likelyFrom_124 ⟨Nat.zero_le _, Nat.zero_le _⟩ (fun r260 σ259 τ259 H locs h259 hP hS => ?_)
                       obtain ⟨⟨rfl, rfl⟩, h259⟩ := h259
                       refine lv_aload_n hx hb dX12_likelyFrom_127 rfl (lv_at hl 7 rfl) ?_
                       refine va_get (D := D) hx hb hts inlX12 hown hK hP 55 (jc_55 cI cL ad σ218 τ) rfl 13 (of_decide_eq_true rfl) (hts _ kw_15_14) (fun _ h9 => h9) rfl dX12_likelyFrom_128 ?_
                       have m261 : σ218 55 13 = (σ 55 13) := ((f244 13 (of_decide_eq_true rfl)).trans ((f154 13 (of_decide_eq_true rfl)).trans ((f55 13 (of_decide_eq_true rfl)).trans (f34 13 (of_decide_eq_true rfl)))))
                       refine jtopr m261 ?_
                       refine jcallS (As := [.int 1000000, .int r260, .int (σ 55 13)]) (rest := []) ⟨hx, hb, hml, hown, hts⟩ hK hP hA hS hZ (c_X12_mixed l D cI cL ad zz hJ σ218 τ 1000000 (1000000) jz_1000000 r260 (r260.toInt) rfl (σ 55 13) ((σ 55 13).toInt) rfl) cw_RX12_304 ⟨by dsimp only; omega, by dsimp only; omega⟩ rfl rfl rfl hl.1 rfl (Nat.le_of_ble_eq_true rfl) dX12_likelyFrom_131 ⟨Nat.zero_le _, Nat.zero_le _⟩ (fun r263 σ262 τ262 H locs h262 hP hS => ?_)
                       obtain ⟨⟨rfl, rfl⟩, h262⟩ := h262
                       exact hret r263 σ218 τ _ _ _ _ rfl ⟨rfl, (fun i hi => ((f243 i hi).trans ((f153 i hi).trans ((f54 i (imp_204 i hi)).trans (f33 i hi))))), (fun i hi => ((f244 i hi).trans ((f154 i hi).trans ((f55 i (imp_205 i hi)).trans (f34 i hi))))), p230, p231, p232, trivial⟩ hP hS dX12_likelyFrom_134
set_option maxHeartbeats 4000000 in
set_option maxRecDepth 100000 in
theorem c_X12_likelies_lf_z (l : Launch) (D : va_G) (cI cL : ClassId) (ad zz : Nat → Nat) (hJ : jD ad) (σ : Nat → Nat → Int32) (τ : Nat → Nat → Int64) (a1 : Int32) (A1 : Int) (t1 : a1.toInt = A1) (a2 : Int32) (A2 : Int) (t2 : a2.toInt = A2) (hI101 : jI101 σ) (hI102 : jI102 σ) (hI103 : jI103 σ) (hI104 : jI104 σ) (hI105 : jI105 σ) (hI106 : jI106 σ) (hI120 : jI120 σ) (hs_jKept : jKept σ) (hs_jTR : jTR σ) (hs_jqSt : jqSt σ) (hp0 : 0 ≤ A1 ∧ A1 ≤ 19) (hp1 : (σ 55 12).toInt - (σ 55 26).toInt ≤ 8) (hp2 : (σ 55 12).toInt - (σ 55 26).toInt ≤ (((0) : Nat) : Int)) : jM l yX12_likelyFrom cX12_likelyFrom 10 (some .int) ({ frames := (106 + 4 * (0)), cells := 0, slots := 0, locals := (5261 + 240 * (0)) }) D cI cL ad zz [.ref (ad 55), .int a1, .int a2] σ τ (fun r σ' τ' => τ = τ' ∧ (∀ i : Nat, (i < 55 ∨ 55 < i) ∧ (i < 66 ∨ 66 < i) ∧ (i < 74 ∨ 78 < i) → σ' i = σ i) ∧ (∀ k : Nat, (k < 18 ∨ 18 < k) ∧ (k < 19 ∨ 19 < k) ∧ (k < 20 ∨ 20 < k) ∧ (k < 21 ∨ 21 < k) ∧ (k < 22 ∨ 22 < k) ∧ (k < 37 ∨ 37 < k) → σ' 55 k = σ 55 k) ∧ (jKept σ') ∧ (jTR σ') ∧ (jqSt σ') ∧ True) := by
  refine jM.of hJ (by decide +kernel) (nt := .int) rfl (Nat.le_of_ble_eq_true rfl) ?_
  intro p e s m args below meth c Q ls hC hret hl hP
  obtain ⟨hx, hb, hr, hml, hown, hts, hK, -, hlocks, hZ⟩ := hC
  have hown : s.vm.findClass RX12 = some m.cls := hown
  have hS : va_S (jA ad) s.heap s.heap [] := va_S.rf
  have hA : ∀ q, jA ad q → jA ad q := fun _ h => h
  have hl : lv_has ls 10 [(0, .ref (ad 55)), (1, .int a1), (2, .int a2)] := hl
  have g1 := jrg t1
  have g2 := jrg t2
  obtain ⟨i1, w2, w3⟩ : (0 ≤ (σ 55 6).toInt ∧ (σ 55 6).toInt ≤ 4) ∧ (∀ k : Nat, k < 4 → 0 ≤ (σ 60 k).toInt ∧ (σ 60 k).toInt ≤ 50) ∧ (∀ k : Nat, k < 4 → 0 ≤ (σ 61 k).toInt ∧ (σ 61 k).toInt ≤ 20) := id hI102
  obtain ⟨i4, i5, i6, w7, w8⟩ : (1 ≤ (σ 55 10).toInt ∧ (σ 55 10).toInt ≤ 8) ∧ (1 ≤ (σ 55 12).toInt ∧ (σ 55 12).toInt ≤ 12) ∧ (0 ≤ (σ 55 13).toInt ∧ (σ 55 13).toInt ≤ 999) ∧ (∀ k : Nat, k < 8 → 0 ≤ (σ 62 k).toInt ∧ (σ 62 k).toInt ≤ 3) ∧ (∀ k : Nat, k < 8 → 0 ≤ (σ 67 k).toInt ∧ (σ 67 k).toInt ≤ 3) := id hI104
  obtain ⟨i9, i10, i11, i12, i13, w14⟩ : (0 ≤ (σ 55 25).toInt) ∧ ((σ 55 25).toInt ≤ (σ 55 10).toInt) ∧ (0 ≤ (σ 55 26).toInt) ∧ ((σ 55 26).toInt ≤ (σ 55 12).toInt) ∧ ((-1) ≤ (σ 55 27).toInt ∧ (σ 55 27).toInt ≤ 3) ∧ (∀ k : Nat, k < 4 → 0 ≤ (σ 68 k).toInt ∧ (σ 68 k).toInt ≤ 3) := id hI120
  refine lv_aload_n hx hb dX12_likelyFrom_0 rfl (lv_at hl 0 rfl) ?_
  refine jcallV (As := []) (rest := []) ⟨hx, hb, hml, hown, hts⟩ hK hP hA hS hZ (c_X12_isEnded l D cI cL ad zz hJ σ τ hI102 hI104 hI120) cw_RX12_307 (jc_55 cI cL ad σ τ) rfl ⟨by dsimp only; omega, by dsimp only; omega⟩ rfl rfl rfl hl.1 rfl (Nat.le_of_ble_eq_true rfl) dX12_likelyFrom_1 ⟨Nat.zero_le _, Nat.zero_le _⟩ (fun r16 σ15 τ15 H locs h15 hP hS => ?_)
  obtain ⟨⟨rfl, rfl⟩, h15⟩ := h15
  rcases h15 with h17 | h18
  · obtain ⟨q20, k19⟩ := h17
    have q20 := q20.symm
    subst q20
    refine lv_if_eq (tgt := 19) hx hb dX12_likelyFrom_4 (of_decide_eq_true rfl) (fun c => absurd c (of_decide_eq_true rfl)) (fun _ => ?_)
    refine lv_iload_n hx hb dX12_likelyFrom_7 rfl (lv_at hl 2 rfl) ?_
    refine lv_if_le (tgt := 17) hx hb dX12_likelyFrom_8 (of_decide_eq_true rfl) (fun c21 => ?_) (fun c21 => ?_)
    · have kc21 := jle c21 t2 jz_0
      refine lv_iconst (v := 0) hx hb dX12_likelyFrom_17 (of_decide_eq_true rfl) ?_
      exact hret 0 σ τ _ _ _ _ rfl ⟨rfl, (fun _ _ => rfl), (fun _ _ => rfl), hs_jKept, hs_jTR, hs_jqSt, trivial⟩ hP hS dX12_likelyFrom_18
    · have kc21 := jnle c21 t2 jz_0
      refine lv_ldcw (v := 1000000) hx hb hown (hts _ kw_37_13) dX12_likelyFrom_11 ?_
      refine lv_goto (tgt := 18) hx hb dX12_likelyFrom_14 (of_decide_eq_true rfl) ?_
      exact hret 1000000 σ τ _ _ _ _ rfl ⟨rfl, (fun _ _ => rfl), (fun _ _ => rfl), hs_jKept, hs_jTR, hs_jqSt, trivial⟩ hP hS dX12_likelyFrom_18
  · obtain ⟨q25, k22, k23, k24⟩ := h18
    exact absurd (by omega : False) id
set_option maxHeartbeats 4000000 in
set_option maxRecDepth 100000 in
theorem c_X12_likelies (l : Launch) (D : va_G) (cI cL : ClassId) (ad zz : Nat → Nat) (hJ : jD ad) (n : Nat) : (∀ (σ : Nat → Nat → Int32) (τ : Nat → Nat → Int64) (a1 : Int32) (A1 : Int) (t1 : a1.toInt = A1) (a2 : Int32) (A2 : Int) (t2 : a2.toInt = A2) (hI101 : jI101 σ) (hI102 : jI102 σ) (hI103 : jI103 σ) (hI104 : jI104 σ) (hI105 : jI105 σ) (hI106 : jI106 σ) (hI120 : jI120 σ) (hs_jKept : jKept σ) (hs_jTR : jTR σ) (hs_jqSt : jqSt σ) (hp0 : 0 ≤ A1 ∧ A1 ≤ 19) (hp1 : (σ 55 12).toInt - (σ 55 26).toInt ≤ 8) (hp2 : (σ 55 12).toInt - (σ 55 26).toInt ≤ (((n) : Nat) : Int)), jM l yX12_likelyFrom cX12_likelyFrom 10 (some .int) ({ frames := (106 + 4 * (n)), cells := 0, slots := 0, locals := (5261 + 240 * (n)) }) D cI cL ad zz [.ref (ad 55), .int a1, .int a2] σ τ (fun r σ' τ' => τ = τ' ∧ (∀ i : Nat, (i < 55 ∨ 55 < i) ∧ (i < 66 ∨ 66 < i) ∧ (i < 74 ∨ 78 < i) → σ' i = σ i) ∧ (∀ k : Nat, (k < 18 ∨ 18 < k) ∧ (k < 19 ∨ 19 < k) ∧ (k < 20 ∨ 20 < k) ∧ (k < 21 ∨ 21 < k) ∧ (k < 22 ∨ 22 < k) ∧ (k < 37 ∨ 37 < k) → σ' 55 k = σ 55 k) ∧ (jKept σ') ∧ (jTR σ') ∧ (jqSt σ') ∧ True)) := by
  induction n with
  | zero =>
    have h_lf := c_X12_likelies_lf_z l D cI cL ad zz hJ
    exact h_lf
  | succ n ih =>
    have g_lf := ih
    have h_lf := c_X12_likelies_lf_g l D cI cL ad zz hJ n g_lf
    exact h_lf
