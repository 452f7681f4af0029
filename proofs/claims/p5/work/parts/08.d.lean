set_option maxHeartbeats 4000000 in
set_option maxRecDepth 100000 in
theorem c_X12_putsOn (l : Launch) (D : va_G) (cI cL : ClassId) (ad zz : Nat → Nat) (hJ : jD ad) (σ : Nat → Nat → Int32) (τ : Nat → Nat → Int64) (B0 : Int32) (hB0 : jmb σ B0 = 1) (a1 : Int32) (A1 : Int) (t1 : a1.toInt = A1) (hI101 : jI101 σ) (hI102 : jI102 σ) (hI103 : jI103 σ) (hI104 : jI104 σ) (hI105 : jI105 σ) (hI106 : jI106 σ) (hI120 : jI120 σ) (hs_jKept : jKept σ) (hp0 : 0 ≤ B0.toInt ∧ B0.toInt < (σ 55 6).toInt) (hp1 : 0 ≤ A1 ∧ A1 ≤ 19) (hp2 : (σ 55 25).toInt < (σ 55 10).toInt) (hp3 : (σ 55 26).toInt < (σ 55 12).toInt) (hp4 : ((σ 70 a1.toNatClampNeg).toInt ≠ 2) ∨ ((σ 55 12).toInt - (σ 55 26).toInt ≤ 8)) : jM l yX12_putsOn cX12_putsOn 7 (some .int) ({ frames := 62, cells := 0, slots := 0, locals := 1487 }) D cI cL ad zz [.ref (ad 55), .int a1] σ τ (fun r σ' τ' => τ = τ' ∧ (∀ i : Nat, (i < 55 ∨ 55 < i) ∧ (i < 66 ∨ 66 < i) ∧ (i < 74 ∨ 78 < i) → σ' i = σ i) ∧ (∀ k : Nat, (k < 18 ∨ 18 < k) ∧ (k < 19 ∨ 19 < k) ∧ (k < 20 ∨ 20 < k) ∧ (k < 21 ∨ 21 < k) ∧ (k < 22 ∨ 22 < k) ∧ (k < 37 ∨ 37 < k) → σ' 55 k = σ 55 k) ∧ (jKept σ') ∧ ((True ∧ (0 ≤ r.toInt ∧ r.toInt ≤ 3)))) := by
  refine jM.of hJ (by decide +kernel) (nt := .int) rfl (Nat.le_of_ble_eq_true rfl) ?_
  intro p e s m args below meth c Q ls hC hret hl hP
  obtain ⟨hx, hb, hr, hml, hown, hts, hK, -, hlocks, hZ⟩ := hC
  have hown : s.vm.findClass RX12 = some m.cls := hown
  have hS : va_S (jA ad) s.heap s.heap [] := va_S.rf
  have hA : ∀ q, jA ad q → jA ad q := fun _ h => h
  have hl : lv_has ls 7 [(0, .ref (ad 55)), (1, .int a1)] := hl
  have g1 := jrg t1
  obtain ⟨i1, i2, i3, w4, w5, w6, w7⟩ : (0 ≤ (σ 55 5).toInt) ∧ ((σ 55 5).toInt ≤ (σ 55 4).toInt) ∧ ((σ 55 4).toInt ≤ 40) ∧ (∀ k : Nat, k < 68 → (-200) ≤ (σ 56 k).toInt ∧ (σ 56 k).toInt ≤ 500) ∧ (∀ k : Nat, k < 40 → 0 ≤ (σ 57 k).toInt ∧ (σ 57 k).toInt ≤ 67) ∧ (∀ k : Nat, k < 40 → (-200) ≤ (σ 58 k).toInt ∧ (σ 58 k).toInt ≤ 500) ∧ (∀ k : Nat, k < 40 → (-200) ≤ (σ 59 k).toInt ∧ (σ 59 k).toInt ≤ 500) := id hI101
  obtain ⟨i8, w9, w10⟩ : (0 ≤ (σ 55 6).toInt ∧ (σ 55 6).toInt ≤ 4) ∧ (∀ k : Nat, k < 4 → 0 ≤ (σ 60 k).toInt ∧ (σ 60 k).toInt ≤ 50) ∧ (∀ k : Nat, k < 4 → 0 ≤ (σ 61 k).toInt ∧ (σ 61 k).toInt ≤ 20) := id hI102
  have i11 : 0 ≤ (σ 55 9).toInt ∧ (σ 55 9).toInt ≤ 3 := hI103
  obtain ⟨i12, i13, i14, w15, w16⟩ : (1 ≤ (σ 55 10).toInt ∧ (σ 55 10).toInt ≤ 8) ∧ (1 ≤ (σ 55 12).toInt ∧ (σ 55 12).toInt ≤ 12) ∧ (0 ≤ (σ 55 13).toInt ∧ (σ 55 13).toInt ≤ 999) ∧ (∀ k : Nat, k < 8 → 0 ≤ (σ 62 k).toInt ∧ (σ 62 k).toInt ≤ 3) ∧ (∀ k : Nat, k < 8 → 0 ≤ (σ 67 k).toInt ∧ (σ 67 k).toInt ≤ 3) := id hI104
  obtain ⟨i17, w18⟩ : (0 ≤ (σ 55 15).toInt ∧ (σ 55 15).toInt ≤ 80) ∧ (∀ k : Nat, k < 2 → (-1) ≤ (σ 65 k).toInt ∧ (σ 65 k).toInt ≤ 80) := id hI105
  obtain ⟨i19, w20, w21, w22⟩ : (0 ≤ (σ 55 32).toInt ∧ (σ 55 32).toInt ≤ 20) ∧ (∀ k : Nat, k < 20 → 0 ≤ (σ 70 k).toInt ∧ (σ 70 k).toInt ≤ 6) ∧ (∀ k : Nat, k < 20 → 0 ≤ (σ 71 k).toInt ∧ (σ 71 k).toInt ≤ 8) ∧ (∀ k : Nat, k < 160 → 0 ≤ (σ 72 k).toInt ∧ (σ 72 k).toInt ≤ 3) := id hI106
  obtain ⟨i23, i24, i25, i26, i27, w28⟩ : (0 ≤ (σ 55 25).toInt) ∧ ((σ 55 25).toInt ≤ (σ 55 10).toInt) ∧ (0 ≤ (σ 55 26).toInt) ∧ ((σ 55 26).toInt ≤ (σ 55 12).toInt) ∧ ((-1) ≤ (σ 55 27).toInt ∧ (σ 55 27).toInt ≤ 3) ∧ (∀ k : Nat, k < 4 → 0 ≤ (σ 68 k).toInt ∧ (σ 68 k).toInt ≤ 3) := id hI120
  refine lv_aload_n hx hb dX12_putsOn_0 rfl (lv_at hl 0 rfl) ?_
  refine va_get (D := D) hx hb hts inlX12 hown hK hP 55 (jc_55 cI cL ad σ τ) rfl 33 (by decide) (hts _ kw_7_18) (fun _ h9 => h9) rfl dX12_putsOn_1 ?_
  refine lv_iload_n hx hb dX12_putsOn_4 rfl (lv_at hl 1 rfl) ?_
  refine jald hx hb hK hP (jc_70 cI cL ad σ τ) (jin t1 (by omega) (by omega)) dX12_putsOn_5 ?_
  have g29 := w20 _ (jnat (x := a1) t1 (n := 20) (by omega) (by decide))
  refine jtopr (y := (σ 70 a1.toNatClampNeg)) rfl ?_
  refine lv_iconst (v := 1) hx hb dX12_putsOn_6 (by decide) ?_
  refine lv_icmp_ne (tgt := 17) hx hb dX12_putsOn_7 (by decide) (fun c30 => ?_) (fun c30 => ?_)
  · have kc30 := jne c30 rfl jz_1
    refine lv_aload_n hx hb dX12_putsOn_17 rfl (lv_at hl 0 rfl) ?_
    refine va_get (D := D) hx hb hts inlX12 hown hK hP 55 (jc_55 cI cL ad σ τ) rfl 33 (by decide) (hts _ kw_7_18) (fun _ h9 => h9) rfl dX12_putsOn_18 ?_
    refine lv_iload_n hx hb dX12_putsOn_21 rfl (lv_at hl 1 rfl) ?_
    refine jald hx hb hK hP (jc_70 cI cL ad σ τ) (jin t1 (by omega) (by omega)) dX12_putsOn_22 ?_
    have g31 := w20 _ (jnat (x := a1) t1 (n := 20) (by omega) (by decide))
    refine jtopr (y := (σ 70 a1.toNatClampNeg)) rfl ?_
    refine lv_iconst (v := 4) hx hb dX12_putsOn_23 (by decide) ?_
    refine lv_icmp_ne (tgt := 86) hx hb dX12_putsOn_24 (by decide) (fun c32 => ?_) (fun c32 => ?_)
    · have kc32 := jne c32 rfl jz_4
      refine lv_aload_n hx hb dX12_putsOn_86 rfl (lv_at hl 0 rfl) ?_
      refine va_get (D := D) hx hb hts inlX12 hown hK hP 55 (jc_55 cI cL ad σ τ) rfl 33 (by decide) (hts _ kw_7_18) (fun _ h9 => h9) rfl dX12_putsOn_87 ?_
      refine lv_iload_n hx hb dX12_putsOn_90 rfl (lv_at hl 1 rfl) ?_
      refine jald hx hb hK hP (jc_70 cI cL ad σ τ) (jin t1 (by omega) (by omega)) dX12_putsOn_91 ?_
      refine jtopr (y := (σ 70 a1.toNatClampNeg)) rfl ?_
      refine lv_iconst (v := 2) hx hb dX12_putsOn_92 (by decide) ?_
      refine lv_icmp_ne (tgt := 106) hx hb dX12_putsOn_93 (by decide) (fun c33 => ?_) (fun c33 => ?_)
      · have kc33 := jne c33 rfl jz_2
        refine lv_iconst (v := (-1)) hx hb dX12_putsOn_106 (by decide) ?_
        refine lv_istore_n (lv' := [(2, .int (-1)), (0, .ref (ad 55)), (1, .int a1)]) hx hb dX12_putsOn_107 rfl hl (by decide) rfl (fun ls hl => ?_)
        refine lv_iconst (v := 0) hx hb dX12_putsOn_108 (by decide) ?_
        refine lv_istore_n (lv' := [(3, .int 0), (2, .int (-1)), (0, .ref (ad 55)), (1, .int a1)]) hx hb dX12_putsOn_109 rfl hl (by decide) rfl (fun ls hl => ?_)
        refine lv_iconst (v := 0) hx hb dX12_putsOn_110 (by decide) ?_
        refine lv_istore (lv' := [(4, .int 0), (3, .int 0), (2, .int (-1)), (0, .ref (ad 55)), (1, .int a1)]) hx hb dX12_putsOn_111 hl (by decide) rfl (fun ls hl => ?_)
        have lp34 : ∀ (n35 : Nat) (x36 : Int32) (x37 : Int32) (x38 : Int32) (σ41 : Nat → Nat → Int32) (H : Heap) (locs : List Loc) (ls : Array Slot), (-x38.toInt + 4 : Int) < n35 → (-1) ≤ x36.toInt → x36.toInt ≤ 3 → 0 ≤ x38.toInt → x38.toInt ≤ 4 → ((0 ≤ x36.toInt) ∨ (x36.toInt = (-1) ∧ x38.toInt ≤ B0.toInt)) → (∀ i : Nat, (i < 55 ∨ 55 < i) ∧ (i < 66 ∨ 66 < i) → σ41 i = σ i) → (∀ k : Nat, (k < 18 ∨ 18 < k) ∧ (k < 19 ∨ 19 < k) ∧ (k < 20 ∨ 20 < k) ∧ (k < 21 ∨ 21 < k) ∧ (k < 22 ∨ 22 < k) → σ41 55 k = σ 55 k) → jH D cI cL ad σ41 τ H → va_S (jA ad) s.heap H locs → lv_has ls 7 [(4, .int x38), (3, .int x37), (2, .int x36), (0, .ref (ad 55)), (1, .int a1)] → W p l e ({ frames := 62, cells := 0, slots := 0, locals := 1487 }) s m args below meth c H locs 0 0 Q (F0 m 113 ls []) := by
          intro n35
          induction n35 with
          | zero => intro x36 x37 x38 σ41 H locs ls h42 h43 h44 h45 h46 h47; have gx37 := jrg (rfl : x37.toInt = x37.toInt); exact absurd h42 (by omega)
          | succ n35 ihlp34 =>
            intro x36 x37 x38 σ41 H locs ls h42 h43 h44 h45 h46 h47 f48 f49 hP hS hl
            have gx37 := jrg (rfl : x37.toInt = x37.toInt)
            refine lv_iload hx hb dX12_putsOn_113 (lv_at hl 0 rfl) ?_
            refine lv_aload_n hx hb dX12_putsOn_115 rfl (lv_at hl 3 rfl) ?_
            refine va_get (D := D) hx hb hts inlX12 hown hK hP 55 (jc_55 cI cL ad σ41 τ) rfl 6 (by decide) (hts _ kw_9_13) (fun _ h9 => h9) rfl dX12_putsOn_116 ?_
            have m50 : σ41 55 6 = (σ 55 6) := (by rw [f49 6 (by omega)])
            refine jtopr m50 ?_
            refine lv_icmp_ge (tgt := 255) hx hb dX12_putsOn_119 (by decide) (fun c51 => ?_) (fun c51 => ?_)
            · have kc51 := jle c51 rfl rfl
              refine lv_iload_n hx hb dX12_putsOn_255 rfl (lv_at hl 2 rfl) ?_
              have p52 : jKept σ41 := jKept.fr (by rw [f48 75 (by omega)]) (by rw [f48 76 (by omega)]) (by rw [f48 77 (by omega)]) hs_jKept
              exact hret x36 σ41 τ _ _ _ _ rfl ⟨rfl, (fun i hi => by rw [f48 i (by omega)]), (fun k hk => by rw [f49 k (by omega)]), p52, ⟨trivial, (by omega)⟩⟩ hP hS dX12_putsOn_256
            · have kc51 := jnle c51 rfl rfl
              refine lv_aload_n hx hb dX12_putsOn_122 rfl (lv_at hl 3 rfl) ?_
              refine lv_iload hx hb dX12_putsOn_123 (lv_at hl 0 rfl) ?_
              refine jcallV (As := [.int x38]) (rest := []) ⟨hx, hb, hml, hown, hts⟩ hK hP hA hS hZ (c_X12_mayBowl l D cI cL ad zz hJ σ41 τ x38 (x38.toInt) rfl (by omega)) cw_RX12_249 (jc_55 cI cL ad σ41 τ) rfl ⟨Nat.le_of_ble_eq_true rfl, Nat.le_of_ble_eq_true rfl⟩ rfl rfl rfl hl.1 rfl (Nat.le_of_ble_eq_true rfl) dX12_putsOn_125 ⟨Nat.zero_le _, Nat.zero_le _⟩ (fun r54 σ53 τ53 H locs h53 hP hS => ?_)
              obtain ⟨⟨rfl, rfl⟩, h53⟩ := h53
              rcases h53 with h55 | h56
              · obtain ⟨q58, k57⟩ := h55
                have q58 := q58.symm
                subst q58
                refine lv_if_ne (tgt := 134) hx hb dX12_putsOn_128 (by decide) (fun _ => ?_) (fun c => absurd c (by decide))
                refine lv_aload_n hx hb dX12_putsOn_134 rfl (lv_at hl 3 rfl) ?_
                refine va_get (D := D) hx hb hts inlX12 hown hK hP 55 (jc_55 cI cL ad σ41 τ) rfl 33 (by decide) (hts _ kw_7_18) (fun _ h9 => h9) rfl dX12_putsOn_135 ?_
                refine lv_iload_n hx hb dX12_putsOn_138 rfl (lv_at hl 4 rfl) ?_
                refine jald hx hb hK hP (jc_70 cI cL ad σ41 τ) (jin t1 (by omega) (by omega)) dX12_putsOn_139 ?_
                refine jtopr (y := (σ 70 a1.toNatClampNeg)) (by rw [f48 70 (by omega)]) ?_
                refine lv_bipush (v := 6) hx hb dX12_putsOn_140 (by decide) ?_
                refine lv_icmp_ne (tgt := 149) hx hb dX12_putsOn_142 (by decide) (fun c59 => ?_) (fun c59 => ?_)
                · have kc59 := jne c59 rfl jz_6
                  refine lv_iconst (v := 0) hx hb dX12_putsOn_149 (by decide) ?_
                  refine lv_istore (lv' := [(5, .int 0), (4, .int x38), (3, .int x37), (2, .int x36), (0, .ref (ad 55)), (1, .int a1)]) hx hb dX12_putsOn_150 hl (by decide) rfl (fun ls hl => ?_)
                  refine lv_iload hx hb dX12_putsOn_152 (lv_at hl 0 rfl) ?_
                  refine lv_if_ne (tgt := 167) hx hb dX12_putsOn_154 (by decide) (fun c => absurd (by decide) c) (fun _ => ?_)
                  refine lv_aload_n hx hb dX12_putsOn_157 rfl (lv_at hl 4 rfl) ?_
                  refine lv_iload_n hx hb dX12_putsOn_158 rfl (lv_at hl 5 rfl) ?_
                  refine lv_iload hx hb dX12_putsOn_159 (lv_at hl 1 rfl) ?_
                  have z60 : (σ41 55 5).toInt = (σ 55 5).toInt := by rw [(show σ41 55 5 = (σ 55 5) from (by rw [f49 5 (by omega)]))]
                  have z61 : (σ41 55 4).toInt = (σ 55 4).toInt := by rw [(show σ41 55 4 = (σ 55 4) from (by rw [f49 4 (by omega)]))]
                  have w62 : ∀ k : Nat, k < 68 → (-200) ≤ (σ41 56 k).toInt ∧ (σ41 56 k).toInt ≤ 500 := (by rw [f48 56 (by omega)]; exact w4)
                  have w63 : ∀ k : Nat, k < 40 → 0 ≤ (σ41 57 k).toInt ∧ (σ41 57 k).toInt ≤ 67 := (by rw [f48 57 (by omega)]; exact w5)
                  have w64 : ∀ k : Nat, k < 40 → (-200) ≤ (σ41 58 k).toInt ∧ (σ41 58 k).toInt ≤ 500 := (by rw [f48 58 (by omega)]; exact w6)
                  have w65 : ∀ k : Nat, k < 40 → (-200) ≤ (σ41 59 k).toInt ∧ (σ41 59 k).toInt ≤ 500 := (by rw [f48 59 (by omega)]; exact w7)
                  have I66 : jI101 σ41 := ⟨(by omega), (by omega), (by omega), w62, w63, w64, w65⟩
                  have z67 : (σ41 55 6).toInt = (σ 55 6).toInt := by rw [(show σ41 55 6 = (σ 55 6) from m50)]
                  have w68 : ∀ k : Nat, k < 4 → 0 ≤ (σ41 60 k).toInt ∧ (σ41 60 k).toInt ≤ 50 := (by rw [f48 60 (by omega)]; exact w9)
                  have w69 : ∀ k : Nat, k < 4 → 0 ≤ (σ41 61 k).toInt ∧ (σ41 61 k).toInt ≤ 20 := (by rw [f48 61 (by omega)]; exact w10)
                  have I70 : jI102 σ41 := ⟨(by omega), w68, w69⟩
                  have z71 : (σ41 55 9).toInt = (σ 55 9).toInt := by rw [(show σ41 55 9 = (σ 55 9) from (by rw [f49 9 (by omega)]))]
                  have I72 : jI103 σ41 := (show 0 ≤ (σ41 55 9).toInt ∧ (σ41 55 9).toInt ≤ 3 by omega)
                  have z73 : (σ41 55 10).toInt = (σ 55 10).toInt := by rw [(show σ41 55 10 = (σ 55 10) from (by rw [f49 10 (by omega)]))]
                  have z74 : (σ41 55 12).toInt = (σ 55 12).toInt := by rw [(show σ41 55 12 = (σ 55 12) from (by rw [f49 12 (by omega)]))]
                  have z75 : (σ41 55 13).toInt = (σ 55 13).toInt := by rw [(show σ41 55 13 = (σ 55 13) from (by rw [f49 13 (by omega)]))]
                  have w76 : ∀ k : Nat, k < 8 → 0 ≤ (σ41 62 k).toInt ∧ (σ41 62 k).toInt ≤ 3 := (by rw [f48 62 (by omega)]; exact w15)
                  have w77 : ∀ k : Nat, k < 8 → 0 ≤ (σ41 67 k).toInt ∧ (σ41 67 k).toInt ≤ 3 := (by rw [f48 67 (by omega)]; exact w16)
                  have I78 : jI104 σ41 := ⟨(by omega), (by omega), (by omega), w76, w77⟩
                  have z79 : (σ41 55 15).toInt = (σ 55 15).toInt := by rw [(show σ41 55 15 = (σ 55 15) from (by rw [f49 15 (by omega)]))]
                  have w80 : ∀ k : Nat, k < 2 → (-1) ≤ (σ41 65 k).toInt ∧ (σ41 65 k).toInt ≤ 80 := (by rw [f48 65 (by omega)]; exact w18)
                  have I81 : jI105 σ41 := ⟨(by omega), w80⟩
                  have z82 : (σ41 55 32).toInt = (σ 55 32).toInt := by rw [(show σ41 55 32 = (σ 55 32) from (by rw [f49 32 (by omega)]))]
                  have w83 : ∀ k : Nat, k < 20 → 0 ≤ (σ41 70 k).toInt ∧ (σ41 70 k).toInt ≤ 6 := (by rw [f48 70 (by omega)]; exact w20)
                  have w84 : ∀ k : Nat, k < 20 → 0 ≤ (σ41 71 k).toInt ∧ (σ41 71 k).toInt ≤ 8 := (by rw [f48 71 (by omega)]; exact w21)
                  have w85 : ∀ k : Nat, k < 160 → 0 ≤ (σ41 72 k).toInt ∧ (σ41 72 k).toInt ≤ 3 := (by rw [f48 72 (by omega)]; exact w22)
                  have I86 : jI106 σ41 := ⟨(by omega), w83, w84, w85⟩
                  have w87 : ∀ k : Nat, k < 4 → 0 ≤ (σ41 68 k).toInt ∧ (σ41 68 k).toInt ≤ 3 := (by rw [f48 68 (by omega)]; exact w28)
                  have z88 : (σ41 55 25).toInt = (σ 55 25).toInt := by rw [(show σ41 55 25 = (σ 55 25) from (by rw [f49 25 (by omega)]))]
                  refine jcallV (As := [.int a1, .int x38]) (rest := []) ⟨hx, hb, hml, hown, hts⟩ hK hP hA hS hZ (c_X12_worthBy l D cI cL ad zz hJ σ41 τ a1 (A1) t1 x38 (x38.toInt) rfl I66 I70 I72 I78 I81 I86 w87 (by omega) (by omega) (by omega)) cw_RX12_286 (jc_55 cI cL ad σ41 τ) rfl ⟨Nat.le_of_ble_eq_true rfl, Nat.le_of_ble_eq_true rfl⟩ rfl rfl rfl hl.1 rfl (Nat.le_of_ble_eq_true rfl) dX12_putsOn_161 ⟨Nat.zero_le _, Nat.zero_le _⟩ (fun r90 σ89 τ89 H locs h89 hP hS => ?_)
                  obtain ⟨rfl, f91, f92, h89⟩ := h89
                  refine lv_goto (tgt := 217) hx hb dX12_putsOn_164 (by decide) ?_
                  refine lv_istore (lv' := [(6, .int r90), (5, .int 0), (4, .int x38), (3, .int x37), (2, .int x36), (0, .ref (ad 55)), (1, .int a1)]) hx hb dX12_putsOn_217 hl (by decide) rfl (fun ls hl => ?_)
                  refine lv_iload_n hx hb dX12_putsOn_219 rfl (lv_at hl 4 rfl) ?_
                  refine lv_if_lt (tgt := 243) hx hb dX12_putsOn_220 (by decide) (fun c93 => ?_) (fun c93 => ?_)
                  · have kc93 := jlt c93 rfl jz_0
                    refine lv_iload hx hb dX12_putsOn_243 (lv_at hl 2 rfl) ?_
                    refine lv_istore_n (lv' := [(2, .int x38), (6, .int r90), (5, .int 0), (4, .int x38), (3, .int x37), (0, .ref (ad 55)), (1, .int a1)]) hx hb dX12_putsOn_245 rfl hl (by decide) rfl (fun ls hl => ?_)
                    refine lv_iload hx hb dX12_putsOn_246 (lv_at hl 1 rfl) ?_
                    refine lv_istore_n (lv' := [(3, .int r90), (2, .int x38), (6, .int r90), (5, .int 0), (4, .int x38), (0, .ref (ad 55)), (1, .int a1)]) hx hb dX12_putsOn_248 rfl hl (by decide) rfl (fun ls hl => ?_)
                    obtain ⟨x94, ex94⟩ : ∃ y : Int32, y = x38 + 1 := ⟨_, rfl⟩
                    have tx94 : x94.toInt = x38.toInt + 1 := (jadd ex94 rfl jz_1 (by omega) (by omega)).trans (by omega)
                    refine lv_iinc (v := x94) (lv' := [(4, .int x94), (3, .int r90), (2, .int x38), (6, .int r90), (5, .int 0), (0, .ref (ad 55)), (1, .int a1)]) hx hb dX12_putsOn_249 hl (k := 4) rfl (by rw [ex94]; rfl) (by decide) rfl (fun ls hl => ?_)
                    refine lv_goto (tgt := 113) hx hb dX12_putsOn_252 (by decide) ?_
                    exact ihlp34 x38 r90 x94 σ89 _ _ ls (by have h92 := tx94; omega) (by have h92 := tx94; omega) (by have h92 := tx94; omega) (by have h92 := tx94; omega) (by have h92 := tx94; omega) (by have h92 := tx94; omega) (fun i hi => by rw [f91 i (by omega), f48 i hi]) (fun k hk => by rw [f92 k (by omega), f49 k hk])   hP hS (lv_sub hl [0, 1, 2, 5, 6] rfl)
                  · have kc93 := jnlt c93 rfl jz_0
                    refine lv_iload hx hb dX12_putsOn_223 (lv_at hl 1 rfl) ?_
                    refine lv_if_eq (tgt := 237) hx hb dX12_putsOn_225 (by decide) (fun _ => ?_) (fun c => absurd (by decide) c)
                    refine lv_iload hx hb dX12_putsOn_237 (lv_at hl 0 rfl) ?_
                    refine lv_iload_n hx hb dX12_putsOn_239 rfl (lv_at hl 3 rfl) ?_
                    refine lv_icmp_ge (tgt := 249) hx hb dX12_putsOn_240 (by decide) (fun c95 => ?_) (fun c95 => ?_)
                    · have kc95 := jle c95 rfl rfl
                      obtain ⟨x96, ex96⟩ : ∃ y : Int32, y = x38 + 1 := ⟨_, rfl⟩
                      have tx96 : x96.toInt = x38.toInt + 1 := (jadd ex96 rfl jz_1 (by omega) (by omega)).trans (by omega)
                      refine lv_iinc (v := x96) (lv' := [(4, .int x96), (6, .int r90), (5, .int 0), (3, .int x37), (2, .int x36), (0, .ref (ad 55)), (1, .int a1)]) hx hb dX12_putsOn_249 hl (k := 2) rfl (by rw [ex96]; rfl) (by decide) rfl (fun ls hl => ?_)
                      refine lv_goto (tgt := 113) hx hb dX12_putsOn_252 (by decide) ?_
                      exact ihlp34 x36 x37 x96 σ89 _ _ ls (by have h92 := tx96; omega) (by have h92 := tx96; omega) (by have h92 := tx96; omega) (by have h92 := tx96; omega) (by have h92 := tx96; omega) (by have h92 := tx96; omega) (fun i hi => by rw [f91 i (by omega), f48 i hi]) (fun k hk => by rw [f92 k (by omega), f49 k hk])   hP hS (lv_sub hl [0, 3, 4, 5, 6] rfl)
                    · have kc95 := jnle c95 rfl rfl
                      refine lv_iload hx hb dX12_putsOn_243 (lv_at hl 2 rfl) ?_
                      refine lv_istore_n (lv' := [(2, .int x38), (6, .int r90), (5, .int 0), (4, .int x38), (3, .int x37), (0, .ref (ad 55)), (1, .int a1)]) hx hb dX12_putsOn_245 rfl hl (by decide) rfl (fun ls hl => ?_)
                      refine lv_iload hx hb dX12_putsOn_246 (lv_at hl 1 rfl) ?_
                      refine lv_istore_n (lv' := [(3, .int r90), (2, .int x38), (6, .int r90), (5, .int 0), (4, .int x38), (0, .ref (ad 55)), (1, .int a1)]) hx hb dX12_putsOn_248 rfl hl (by decide) rfl (fun ls hl => ?_)
                      obtain ⟨x97, ex97⟩ : ∃ y : Int32, y = x38 + 1 := ⟨_, rfl⟩
                      have tx97 : x97.toInt = x38.toInt + 1 := (jadd ex97 rfl jz_1 (by omega) (by omega)).trans (by omega)
                      refine lv_iinc (v := x97) (lv' := [(4, .int x97), (3, .int r90), (2, .int x38), (6, .int r90), (5, .int 0), (0, .ref (ad 55)), (1, .int a1)]) hx hb dX12_putsOn_249 hl (k := 4) rfl (by rw [ex97]; rfl) (by decide) rfl (fun ls hl => ?_)
                      refine lv_goto (tgt := 113) hx hb dX12_putsOn_252 (by decide) ?_
                      exact ihlp34 x38 r90 x97 σ89 _ _ ls (by have h92 := tx97; omega) (by have h92 := tx97; omega) (by have h92 := tx97; omega) (by have h92 := tx97; omega) (by have h92 := tx97; omega) (by have h92 := tx97; omega) (fun i hi => by rw [f91 i (by omega), f48 i hi]) (fun k hk => by rw [f92 k (by omega), f49 k hk])   hP hS (lv_sub hl [0, 1, 2, 5, 6] rfl)
                · have kc59 := jeq c59 rfl jz_6
                  refine lv_iconst (v := 1) hx hb dX12_putsOn_145 (by decide) ?_
                  refine lv_goto (tgt := 150) hx hb dX12_putsOn_146 (by decide) ?_
                  refine lv_istore (lv' := [(5, .int 1), (4, .int x38), (3, .int x37), (2, .int x36), (0, .ref (ad 55)), (1, .int a1)]) hx hb dX12_putsOn_150 hl (by decide) rfl (fun ls hl => ?_)
                  refine lv_iload hx hb dX12_putsOn_152 (lv_at hl 0 rfl) ?_
                  refine lv_if_ne (tgt := 167) hx hb dX12_putsOn_154 (by decide) (fun _ => ?_) (fun c => absurd c (by decide))
                  refine lv_aload_n hx hb dX12_putsOn_167 rfl (lv_at hl 4 rfl) ?_
                  refine va_get (D := D) hx hb hts inlX12 hown hK hP 55 (jc_55 cI cL ad σ41 τ) rfl 17 (by decide) (hts _ kw_7_11) (fun _ h9 => h9) rfl dX12_putsOn_168 ?_
                  refine lv_iconst (v := 0) hx hb dX12_putsOn_171 (by decide) ?_
                  refine jald hx hb hK hP (jc_65 cI cL ad σ41 τ) (jin jz_0 (by omega) (by omega)) dX12_putsOn_172 ?_
                  refine jtopr (y := σ41 65 0) rfl ?_
                  have m98 : σ41 65 0 = (σ 65 0) := (by rw [f48 65 (by omega)])
                  refine jtopr m98 ?_
                  have w99 : ∀ k : Nat, k < 2 → (-1) ≤ (σ41 65 k).toInt ∧ (σ41 65 k).toInt ≤ 80 := (by rw [f48 65 (by omega)]; exact w18)
                  have g100 := w99 0 (by decide)
                  rw [m98] at g100
                  refine lv_if_ge (tgt := 180) hx hb dX12_putsOn_173 (by decide) (fun c101 => ?_) (fun c101 => ?_)
                  · have kc101 := jle c101 jz_0 rfl
                    refine lv_aload_n hx hb dX12_putsOn_180 rfl (lv_at hl 4 rfl) ?_
                    refine lv_iconst (v := 0) hx hb dX12_putsOn_181 (by decide) ?_
                    refine lv_iload hx hb dX12_putsOn_182 (lv_at hl 1 rfl) ?_
                    refine lv_aload_n hx hb dX12_putsOn_184 rfl (lv_at hl 4 rfl) ?_
                    refine va_get (D := D) hx hb hts inlX12 hown hK hP 55 (jc_55 cI cL ad σ41 τ) rfl 11 (by decide) (hts _ kw_7_8) (fun _ h9 => h9) rfl dX12_putsOn_185 ?_
                    refine lv_aload_n hx hb dX12_putsOn_188 rfl (lv_at hl 4 rfl) ?_
                    refine va_get (D := D) hx hb hts inlX12 hown hK hP 55 (jc_55 cI cL ad σ41 τ) rfl 25 (by decide) (hts _ kw_23_6) (fun _ h9 => h9) rfl dX12_putsOn_189 ?_
                    have m102 : σ41 55 25 = (σ 55 25) := (by rw [f49 25 (by omega)])
                    refine jtopr m102 ?_
                    refine jald hx hb hK hP (jc_62 cI cL ad σ41 τ) (jin rfl (by omega) (by omega)) dX12_putsOn_192 ?_
                    have w103 : ∀ k : Nat, k < 8 → 0 ≤ (σ41 62 k).toInt ∧ (σ41 62 k).toInt ≤ 3 := (by rw [f48 62 (by omega)]; exact w15)
                    have g104 := w103 _ (jnat (x := (σ 55 25)) rfl (n := 8) (by omega) (by decide))
                    refine jtopr (y := (σ 62 (σ 55 25).toNatClampNeg)) (by rw [f48 62 (by omega)]) ?_
                    rw [f48 62 (by omega)] at g104
                    refine lv_aload_n hx hb dX12_putsOn_193 rfl (lv_at hl 4 rfl) ?_
                    refine lv_iload hx hb dX12_putsOn_194 (lv_at hl 1 rfl) ?_
                    refine lv_aload_n hx hb dX12_putsOn_196 rfl (lv_at hl 4 rfl) ?_
                    refine va_get (D := D) hx hb hts inlX12 hown hK hP 55 (jc_55 cI cL ad σ41 τ) rfl 11 (by decide) (hts _ kw_7_8) (fun _ h9 => h9) rfl dX12_putsOn_197 ?_
                    refine lv_aload_n hx hb dX12_putsOn_200 rfl (lv_at hl 4 rfl) ?_
                    refine va_get (D := D) hx hb hts inlX12 hown hK hP 55 (jc_55 cI cL ad σ41 τ) rfl 25 (by decide) (hts _ kw_23_6) (fun _ h9 => h9) rfl dX12_putsOn_201 ?_
                    refine jtopr m102 ?_
                    refine jald hx hb hK hP (jc_62 cI cL ad σ41 τ) (jin rfl (by omega) (by omega)) dX12_putsOn_204 ?_
                    refine jtopr (y := (σ 62 (σ 55 25).toNatClampNeg)) (by rw [f48 62 (by omega)]) ?_
                    have z105 : (σ41 55 5).toInt = (σ 55 5).toInt := by rw [(show σ41 55 5 = (σ 55 5) from (by rw [f49 5 (by omega)]))]
                    have z106 : (σ41 55 4).toInt = (σ 55 4).toInt := by rw [(show σ41 55 4 = (σ 55 4) from (by rw [f49 4 (by omega)]))]
                    have w107 : ∀ k : Nat, k < 68 → (-200) ≤ (σ41 56 k).toInt ∧ (σ41 56 k).toInt ≤ 500 := (by rw [f48 56 (by omega)]; exact w4)
                    have w108 : ∀ k : Nat, k < 40 → 0 ≤ (σ41 57 k).toInt ∧ (σ41 57 k).toInt ≤ 67 := (by rw [f48 57 (by omega)]; exact w5)
                    have w109 : ∀ k : Nat, k < 40 → (-200) ≤ (σ41 58 k).toInt ∧ (σ41 58 k).toInt ≤ 500 := (by rw [f48 58 (by omega)]; exact w6)
                    have w110 : ∀ k : Nat, k < 40 → (-200) ≤ (σ41 59 k).toInt ∧ (σ41 59 k).toInt ≤ 500 := (by rw [f48 59 (by omega)]; exact w7)
                    have I111 : jI101 σ41 := ⟨(by omega), (by omega), (by omega), w107, w108, w109, w110⟩
                    have z112 : (σ41 55 6).toInt = (σ 55 6).toInt := by rw [(show σ41 55 6 = (σ 55 6) from m50)]
                    have w113 : ∀ k : Nat, k < 4 → 0 ≤ (σ41 60 k).toInt ∧ (σ41 60 k).toInt ≤ 50 := (by rw [f48 60 (by omega)]; exact w9)
                    have w114 : ∀ k : Nat, k < 4 → 0 ≤ (σ41 61 k).toInt ∧ (σ41 61 k).toInt ≤ 20 := (by rw [f48 61 (by omega)]; exact w10)
                    have I115 : jI102 σ41 := ⟨(by omega), w113, w114⟩
                    have z116 : (σ41 55 9).toInt = (σ 55 9).toInt := by rw [(show σ41 55 9 = (σ 55 9) from (by rw [f49 9 (by omega)]))]
                    have I117 : jI103 σ41 := (show 0 ≤ (σ41 55 9).toInt ∧ (σ41 55 9).toInt ≤ 3 by omega)
                    have z118 : (σ41 55 15).toInt = (σ 55 15).toInt := by rw [(show σ41 55 15 = (σ 55 15) from (by rw [f49 15 (by omega)]))]
                    have I119 : jI105 σ41 := ⟨(by omega), w99⟩
                    have w120 : ∀ k : Nat, k < 4 → 0 ≤ (σ41 68 k).toInt ∧ (σ41 68 k).toInt ≤ 3 := (by rw [f48 68 (by omega)]; exact w28)
                    refine jcallV (As := [.int x38, .int (σ 62 (σ 55 25).toNatClampNeg)]) (rest := [.int (σ 62 (σ 55 25).toNatClampNeg), .int x38, .int 0, .ref (ad 55)]) ⟨hx, hb, hml, hown, hts⟩ hK hP hA hS hZ (c_X12_outBy l D cI cL ad zz hJ σ41 τ x38 (x38.toInt) rfl (σ 62 (σ 55 25).toNatClampNeg) ((σ 62 (σ 55 25).toNatClampNeg).toInt) rfl I111 I115 I117 I119 w120 (by omega) (by omega)) cw_RX12_259 (jc_55 cI cL ad σ41 τ) rfl ⟨Nat.le_of_ble_eq_true rfl, Nat.le_of_ble_eq_true rfl⟩ rfl rfl rfl hl.1 rfl (Nat.le_of_ble_eq_true rfl) dX12_putsOn_205 ⟨Nat.zero_le _, Nat.zero_le _⟩ (fun r122 σ121 τ121 H locs h121 hP hS => ?_)
                    obtain ⟨rfl, f123, f124, h121⟩ := h121
                    have h125 := h121
                    obtain ⟨q127, k126⟩ := h125
                    refine lv_aload_n hx hb dX12_putsOn_208 rfl (lv_at hl 4 rfl) ?_
                    refine va_get (D := D) hx hb hts inlX12 hown hK hP 55 (jc_55 cI cL ad σ121 τ) rfl 36 (by decide) (hts _ kw_7_21) (fun _ h9 => h9) rfl dX12_putsOn_209 ?_
                    refine lv_iload_n hx hb dX12_putsOn_212 rfl (lv_at hl 5 rfl) ?_
                    refine jald hx hb hK hP (jc_73 cI cL ad σ121 τ) (jin t1 (by omega) (by omega)) dX12_putsOn_213 ?_
                    refine jtopr (y := (σ 73 a1.toNatClampNeg)) (by rw [f123 73 (by omega), f48 73 (by omega)]) ?_
                    have z128 : (σ121 55 15).toInt = (σ 55 15).toInt := by rw [(show σ121 55 15 = (σ 55 15) from (by rw [f124 15 (by omega)]; exact (by rw [f49 15 (by omega)])))]
                    have w129 : ∀ k : Nat, k < 2 → (-1) ≤ (σ121 65 k).toInt ∧ (σ121 65 k).toInt ≤ 80 := (by rw [f123 65 (by omega)]; exact w99)
                    have I130 : jI105 σ121 := ⟨(by omega), w129⟩
                    have z131 : (σ121 65 0).toInt = (σ 65 0).toInt := by rw [(show σ121 65 0 = (σ 65 0) from (by rw [f123 65 (by omega)]; exact m98))]
                    refine jcallV (As := [.int 0, .int x38, .int (σ 62 (σ 55 25).toNatClampNeg), .int r122, .int (σ 73 a1.toNatClampNeg)]) (rest := []) ⟨hx, hb, hml, hown, hts⟩ hK hP hA hS hZ (c_X12_textGives_0 l D cI cL ad zz hJ σ121 τ x38 (x38.toInt) rfl (σ 62 (σ 55 25).toNatClampNeg) ((σ 62 (σ 55 25).toNatClampNeg).toInt) rfl r122 (r122.toInt) rfl (σ 73 a1.toNatClampNeg) ((σ 73 a1.toNatClampNeg).toInt) rfl I130 (by omega) (by omega)) cw_RX12_252 (jc_55 cI cL ad σ121 τ) rfl ⟨Nat.le_of_ble_eq_true rfl, Nat.le_of_ble_eq_true rfl⟩ rfl rfl rfl hl.1 rfl (Nat.le_of_ble_eq_true rfl) dX12_putsOn_214 ⟨Nat.zero_le _, Nat.zero_le _⟩ (fun r133 σ132 τ132 H locs h132 hP hS => ?_)
                    obtain ⟨rfl, f134, f135, h132⟩ := h132
                    refine lv_istore (lv' := [(6, .int r133), (5, .int 1), (4, .int x38), (3, .int x37), (2, .int x36), (0, .ref (ad 55)), (1, .int a1)]) hx hb dX12_putsOn_217 hl (by decide) rfl (fun ls hl => ?_)
                    refine lv_iload_n hx hb dX12_putsOn_219 rfl (lv_at hl 4 rfl) ?_
                    refine lv_if_lt (tgt := 243) hx hb dX12_putsOn_220 (by decide) (fun c136 => ?_) (fun c136 => ?_)
                    · have kc136 := jlt c136 rfl jz_0
                      refine lv_iload hx hb dX12_putsOn_243 (lv_at hl 2 rfl) ?_
                      refine lv_istore_n (lv' := [(2, .int x38), (6, .int r133), (5, .int 1), (4, .int x38), (3, .int x37), (0, .ref (ad 55)), (1, .int a1)]) hx hb dX12_putsOn_245 rfl hl (by decide) rfl (fun ls hl => ?_)
                      refine lv_iload hx hb dX12_putsOn_246 (lv_at hl 1 rfl) ?_
                      refine lv_istore_n (lv' := [(3, .int r133), (2, .int x38), (6, .int r133), (5, .int 1), (4, .int x38), (0, .ref (ad 55)), (1, .int a1)]) hx hb dX12_putsOn_248 rfl hl (by decide) rfl (fun ls hl => ?_)
                      obtain ⟨x137, ex137⟩ : ∃ y : Int32, y = x38 + 1 := ⟨_, rfl⟩
                      have tx137 : x137.toInt = x38.toInt + 1 := (jadd ex137 rfl jz_1 (by omega) (by omega)).trans (by omega)
                      refine lv_iinc (v := x137) (lv' := [(4, .int x137), (3, .int r133), (2, .int x38), (6, .int r133), (5, .int 1), (0, .ref (ad 55)), (1, .int a1)]) hx hb dX12_putsOn_249 hl (k := 4) rfl (by rw [ex137]; rfl) (by decide) rfl (fun ls hl => ?_)
                      refine lv_goto (tgt := 113) hx hb dX12_putsOn_252 (by decide) ?_
                      exact ihlp34 x38 r133 x137 σ132 _ _ ls (by have h92 := tx137; omega) (by have h92 := tx137; omega) (by have h92 := tx137; omega) (by have h92 := tx137; omega) (by have h92 := tx137; omega) (by have h92 := tx137; omega) (fun i hi => by rw [f134 i (by omega), f123 i (by omega), f48 i hi]) (fun k hk => by rw [f135 k (by omega), f124 k (by omega), f49 k hk])   hP hS (lv_sub hl [0, 1, 2, 5, 6] rfl)
                    · have kc136 := jnlt c136 rfl jz_0
                      refine lv_iload hx hb dX12_putsOn_223 (lv_at hl 1 rfl) ?_
                      refine lv_if_eq (tgt := 237) hx hb dX12_putsOn_225 (by decide) (fun c => absurd c (by decide)) (fun _ => ?_)
                      refine lv_iload hx hb dX12_putsOn_228 (lv_at hl 0 rfl) ?_
                      refine lv_iload_n hx hb dX12_putsOn_230 rfl (lv_at hl 3 rfl) ?_
                      refine lv_icmp_le (tgt := 249) hx hb dX12_putsOn_231 (by decide) (fun c138 => ?_) (fun c138 => ?_)
                      · have kc138 := jle c138 rfl rfl
                        obtain ⟨x139, ex139⟩ : ∃ y : Int32, y = x38 + 1 := ⟨_, rfl⟩
                        have tx139 : x139.toInt = x38.toInt + 1 := (jadd ex139 rfl jz_1 (by omega) (by omega)).trans (by omega)
                        refine lv_iinc (v := x139) (lv' := [(4, .int x139), (6, .int r133), (5, .int 1), (3, .int x37), (2, .int x36), (0, .ref (ad 55)), (1, .int a1)]) hx hb dX12_putsOn_249 hl (k := 2) rfl (by rw [ex139]; rfl) (by decide) rfl (fun ls hl => ?_)
                        refine lv_goto (tgt := 113) hx hb dX12_putsOn_252 (by decide) ?_
                        exact ihlp34 x36 x37 x139 σ132 _ _ ls (by have h92 := tx139; omega) (by have h92 := tx139; omega) (by have h92 := tx139; omega) (by have h92 := tx139; omega) (by have h92 := tx139; omega) (by have h92 := tx139; omega) (fun i hi => by rw [f134 i (by omega), f123 i (by omega), f48 i hi]) (fun k hk => by rw [f135 k (by omega), f124 k (by omega), f49 k hk])   hP hS (lv_sub hl [0, 3, 4, 5, 6] rfl)
                      · have kc138 := jnle c138 rfl rfl
                        refine lv_goto (tgt := 243) hx hb dX12_putsOn_234 (by decide) ?_
                        refine lv_iload hx hb dX12_putsOn_243 (lv_at hl 2 rfl) ?_
                        refine lv_istore_n (lv' := [(2, .int x38), (6, .int r133), (5, .int 1), (4, .int x38), (3, .int x37), (0, .ref (ad 55)), (1, .int a1)]) hx hb dX12_putsOn_245 rfl hl (by decide) rfl (fun ls hl => ?_)
                        refine lv_iload hx hb dX12_putsOn_246 (lv_at hl 1 rfl) ?_
                        refine lv_istore_n (lv' := [(3, .int r133), (2, .int x38), (6, .int r133), (5, .int 1), (4, .int x38), (0, .ref (ad 55)), (1, .int a1)]) hx hb dX12_putsOn_248 rfl hl (by decide) rfl (fun ls hl => ?_)
                        obtain ⟨x140, ex140⟩ : ∃ y : Int32, y = x38 + 1 := ⟨_, rfl⟩
                        have tx140 : x140.toInt = x38.toInt + 1 := (jadd ex140 rfl jz_1 (by omega) (by omega)).trans (by omega)
                        refine lv_iinc (v := x140) (lv' := [(4, .int x140), (3, .int r133), (2, .int x38), (6, .int r133), (5, .int 1), (0, .ref (ad 55)), (1, .int a1)]) hx hb dX12_putsOn_249 hl (k := 4) rfl (by rw [ex140]; rfl) (by decide) rfl (fun ls hl => ?_)
                        refine lv_goto (tgt := 113) hx hb dX12_putsOn_252 (by decide) ?_
                        exact ihlp34 x38 r133 x140 σ132 _ _ ls (by have h92 := tx140; omega) (by have h92 := tx140; omega) (by have h92 := tx140; omega) (by have h92 := tx140; omega) (by have h92 := tx140; omega) (by have h92 := tx140; omega) (fun i hi => by rw [f134 i (by omega), f123 i (by omega), f48 i hi]) (fun k hk => by rw [f135 k (by omega), f124 k (by omega), f49 k hk])   hP hS (lv_sub hl [0, 1, 2, 5, 6] rfl)
                  · have kc101 := jnle c101 jz_0 rfl
                    refine lv_iconst (v := 0) hx hb dX12_putsOn_176 (by decide) ?_
                    refine lv_goto (tgt := 217) hx hb dX12_putsOn_177 (by decide) ?_
                    refine lv_istore (lv' := [(6, .int 0), (5, .int 1), (4, .int x38), (3, .int x37), (2, .int x36), (0, .ref (ad 55)), (1, .int a1)]) hx hb dX12_putsOn_217 hl (by decide) rfl (fun ls hl => ?_)
                    refine lv_iload_n hx hb dX12_putsOn_219 rfl (lv_at hl 4 rfl) ?_
                    refine lv_if_lt (tgt := 243) hx hb dX12_putsOn_220 (by decide) (fun c141 => ?_) (fun c141 => ?_)
                    · have kc141 := jlt c141 rfl jz_0
                      refine lv_iload hx hb dX12_putsOn_243 (lv_at hl 2 rfl) ?_
                      refine lv_istore_n (lv' := [(2, .int x38), (6, .int 0), (5, .int 1), (4, .int x38), (3, .int x37), (0, .ref (ad 55)), (1, .int a1)]) hx hb dX12_putsOn_245 rfl hl (by decide) rfl (fun ls hl => ?_)
                      refine lv_iload hx hb dX12_putsOn_246 (lv_at hl 1 rfl) ?_
                      refine lv_istore_n (lv' := [(3, .int 0), (2, .int x38), (6, .int 0), (5, .int 1), (4, .int x38), (0, .ref (ad 55)), (1, .int a1)]) hx hb dX12_putsOn_248 rfl hl (by decide) rfl (fun ls hl => ?_)
                      obtain ⟨x142, ex142⟩ : ∃ y : Int32, y = x38 + 1 := ⟨_, rfl⟩
                      have tx142 : x142.toInt = x38.toInt + 1 := (jadd ex142 rfl jz_1 (by omega) (by omega)).trans (by omega)
                      refine lv_iinc (v := x142) (lv' := [(4, .int x142), (3, .int 0), (2, .int x38), (6, .int 0), (5, .int 1), (0, .ref (ad 55)), (1, .int a1)]) hx hb dX12_putsOn_249 hl (k := 4) rfl (by rw [ex142]; rfl) (by decide) rfl (fun ls hl => ?_)
                      refine lv_goto (tgt := 113) hx hb dX12_putsOn_252 (by decide) ?_
                      exact ihlp34 x38 0 x142 σ41 _ _ ls (by have h91 := jz_0; have h92 := tx142; omega) (by have h91 := jz_0; have h92 := tx142; omega) (by have h91 := jz_0; have h92 := tx142; omega) (by have h91 := jz_0; have h92 := tx142; omega) (by have h91 := jz_0; have h92 := tx142; omega) (by have h91 := jz_0; have h92 := tx142; omega) (fun i hi => by rw [f48 i hi]) (fun k hk => by rw [f49 k hk])   hP hS (lv_sub hl [0, 1, 2, 5, 6] rfl)
                    · have kc141 := jnlt c141 rfl jz_0
                      refine lv_iload hx hb dX12_putsOn_223 (lv_at hl 1 rfl) ?_
                      refine lv_if_eq (tgt := 237) hx hb dX12_putsOn_225 (by decide) (fun c => absurd c (by decide)) (fun _ => ?_)
                      refine lv_iload hx hb dX12_putsOn_228 (lv_at hl 0 rfl) ?_
                      refine lv_iload_n hx hb dX12_putsOn_230 rfl (lv_at hl 3 rfl) ?_
                      refine lv_icmp_le (tgt := 249) hx hb dX12_putsOn_231 (by decide) (fun c143 => ?_) (fun c143 => ?_)
                      · have kc143 := jle c143 jz_0 rfl
                        obtain ⟨x144, ex144⟩ : ∃ y : Int32, y = x38 + 1 := ⟨_, rfl⟩
                        have tx144 : x144.toInt = x38.toInt + 1 := (jadd ex144 rfl jz_1 (by omega) (by omega)).trans (by omega)
                        refine lv_iinc (v := x144) (lv' := [(4, .int x144), (6, .int 0), (5, .int 1), (3, .int x37), (2, .int x36), (0, .ref (ad 55)), (1, .int a1)]) hx hb dX12_putsOn_249 hl (k := 2) rfl (by rw [ex144]; rfl) (by decide) rfl (fun ls hl => ?_)
                        refine lv_goto (tgt := 113) hx hb dX12_putsOn_252 (by decide) ?_
                        exact ihlp34 x36 x37 x144 σ41 _ _ ls (by have h92 := tx144; omega) (by have h92 := tx144; omega) (by have h92 := tx144; omega) (by have h92 := tx144; omega) (by have h92 := tx144; omega) (by have h92 := tx144; omega) (fun i hi => by rw [f48 i hi]) (fun k hk => by rw [f49 k hk])   hP hS (lv_sub hl [0, 3, 4, 5, 6] rfl)
                      · have kc143 := jnle c143 jz_0 rfl
                        refine lv_goto (tgt := 243) hx hb dX12_putsOn_234 (by decide) ?_
                        refine lv_iload hx hb dX12_putsOn_243 (lv_at hl 2 rfl) ?_
                        refine lv_istore_n (lv' := [(2, .int x38), (6, .int 0), (5, .int 1), (4, .int x38), (3, .int x37), (0, .ref (ad 55)), (1, .int a1)]) hx hb dX12_putsOn_245 rfl hl (by decide) rfl (fun ls hl => ?_)
                        refine lv_iload hx hb dX12_putsOn_246 (lv_at hl 1 rfl) ?_
                        refine lv_istore_n (lv' := [(3, .int 0), (2, .int x38), (6, .int 0), (5, .int 1), (4, .int x38), (0, .ref (ad 55)), (1, .int a1)]) hx hb dX12_putsOn_248 rfl hl (by decide) rfl (fun ls hl => ?_)
                        obtain ⟨x145, ex145⟩ : ∃ y : Int32, y = x38 + 1 := ⟨_, rfl⟩
                        have tx145 : x145.toInt = x38.toInt + 1 := (jadd ex145 rfl jz_1 (by omega) (by omega)).trans (by omega)
                        refine lv_iinc (v := x145) (lv' := [(4, .int x145), (3, .int 0), (2, .int x38), (6, .int 0), (5, .int 1), (0, .ref (ad 55)), (1, .int a1)]) hx hb dX12_putsOn_249 hl (k := 4) rfl (by rw [ex145]; rfl) (by decide) rfl (fun ls hl => ?_)
                        refine lv_goto (tgt := 113) hx hb dX12_putsOn_252 (by decide) ?_
                        exact ihlp34 x38 0 x145 σ41 _ _ ls (by have h91 := jz_0; have h92 := tx145; omega) (by have h91 := jz_0; have h92 := tx145; omega) (by have h91 := jz_0; have h92 := tx145; omega) (by have h91 := jz_0; have h92 := tx145; omega) (by have h91 := jz_0; have h92 := tx145; omega) (by have h91 := jz_0; have h92 := tx145; omega) (fun i hi => by rw [f48 i hi]) (fun k hk => by rw [f49 k hk])   hP hS (lv_sub hl [0, 1, 2, 5, 6] rfl)
              · obtain ⟨q147, k146⟩ := h56
                have q147 := q147.symm
                subst q147
                have e148 : jmb σ41 x38 = jmb σ x38 := (jmb_fr (by rw [f49 27 (by omega)]) (by rw [f49 30 (by omega)]) (by rw [f49 31 (by omega)]) (by rw [f48 56 (by omega)]) (by rw [f48 69 (by omega)]) x38)
                have n149 : ¬ x38 = B0 := fun h => absurd ((hB0).symm.trans (by rw [← h]; exact e148.symm.trans k146) : (1 : Int32) = 0) (by decide)
                have k150 := jne n149 rfl rfl
                refine lv_if_ne (tgt := 134) hx hb dX12_putsOn_128 (by decide) (fun c => absurd (by decide) c) (fun _ => ?_)
                refine lv_goto (tgt := 249) hx hb dX12_putsOn_131 (by decide) ?_
                obtain ⟨x151, ex151⟩ : ∃ y : Int32, y = x38 + 1 := ⟨_, rfl⟩
                have tx151 : x151.toInt = x38.toInt + 1 := (jadd ex151 rfl jz_1 (by omega) (by omega)).trans (by omega)
                refine lv_iinc (v := x151) (lv' := [(4, .int x151), (3, .int x37), (2, .int x36), (0, .ref (ad 55)), (1, .int a1)]) hx hb dX12_putsOn_249 hl (k := 0) rfl (by rw [ex151]; rfl) (by decide) rfl (fun ls hl => ?_)
                refine lv_goto (tgt := 113) hx hb dX12_putsOn_252 (by decide) ?_
                exact ihlp34 x36 x37 x151 σ41 _ _ ls (by have h92 := tx151; omega) (by have h92 := tx151; omega) (by have h92 := tx151; omega) (by have h92 := tx151; omega) (by have h92 := tx151; omega) (by have h92 := tx151; omega) (fun i hi => by rw [f48 i hi]) (fun k hk => by rw [f49 k hk])   hP hS (lv_sub hl [0, 1, 2, 3, 4] rfl)
        exact lp34 1000000 (-1) 0 0 σ _ _ ls (by have h90 := jz_m1; have h91 := jz_0; have h92 := jz_0; omega) (by have h90 := jz_m1; have h91 := jz_0; have h92 := jz_0; omega) (by have h90 := jz_m1; have h91 := jz_0; have h92 := jz_0; omega) (by have h90 := jz_m1; have h91 := jz_0; have h92 := jz_0; omega) (by have h90 := jz_m1; have h91 := jz_0; have h92 := jz_0; omega) (by have h90 := jz_m1; have h91 := jz_0; have h92 := jz_0; omega) (fun _ _ => rfl) (fun _ _ => rfl)   hP hS hl
      · have kc33 := jeq c33 rfl jz_2
        refine lv_aload_n hx hb dX12_putsOn_96 rfl (lv_at hl 0 rfl) ?_
        have p152 : jmb σ B0 = 1 := (jmb_fr rfl rfl rfl rfl rfl B0).trans hB0
        have I153 : jI101 σ := ⟨(by omega), (by omega), (by omega), w4, w5, w6, w7⟩
        have I154 : jI102 σ := ⟨(by omega), w9, w10⟩
        have I155 : jI103 σ := (show 0 ≤ (σ 55 9).toInt ∧ (σ 55 9).toInt ≤ 3 by omega)
        have I156 : jI104 σ := ⟨(by omega), (by omega), (by omega), w15, w16⟩
        have I157 : jI105 σ := ⟨(by omega), w18⟩
        have I158 : jI106 σ := ⟨(by omega), w20, w21, w22⟩
        have I159 : jI120 σ := ⟨(by omega), (by omega), (by omega), (by omega), (by omega), w28⟩
        refine jcallV (As := []) (rest := []) ⟨hx, hb, hml, hown, hts⟩ hK hP hA hS hZ (c_X12_bestFrom_w8 l D cI cL ad zz hJ σ τ B0 p152 I153 I154 I155 I156 I157 I158 I159 hs_jKept (by omega) (by omega) (by omega) (by omega)) cw_RX12_280 (jc_55 cI cL ad σ τ) rfl ⟨Nat.le_of_ble_eq_true rfl, Nat.le_of_ble_eq_true rfl⟩ rfl rfl rfl hl.1 rfl (Nat.le_of_ble_eq_true rfl) dX12_putsOn_97 ⟨Nat.zero_le _, Nat.zero_le _⟩ (fun r161 σ160 τ160 H locs h160 hP hS => ?_)
        obtain ⟨rfl, f162, f163, p164, h160⟩ := h160
        obtain ⟨k165, h160⟩ := h160
        have h166 := h160
        obtain ⟨q168, k167⟩ := h166
        refine lv_istore_n (lv' := [(2, .int r161), (0, .ref (ad 55)), (1, .int a1)]) hx hb dX12_putsOn_100 rfl hl (by decide) rfl (fun ls hl => ?_)
        refine lv_aload_n hx hb dX12_putsOn_101 rfl (lv_at hl 1 rfl) ?_
        refine va_get (D := D) hx hb hts inlX12 hown hK hP 55 (jc_55 cI cL ad σ160 τ) rfl 37 (by decide) (hts _ kw_33_15) (fun _ h9 => h9) rfl dX12_putsOn_102 ?_
        exact hret (σ160 55 37) σ160 τ _ _ _ _ rfl ⟨rfl, (fun i hi => by rw [f162 i (by omega)]), (fun k hk => by rw [f163 k (by omega)]), p164, ⟨trivial, (by omega)⟩⟩ hP hS dX12_putsOn_105
    · have kc32 := jeq c32 rfl jz_4
      refine lv_aload_n hx hb dX12_putsOn_27 rfl (lv_at hl 0 rfl) ?_
      refine va_get (D := D) hx hb hts inlX12 hown hK hP 55 (jc_55 cI cL ad σ τ) rfl 34 (by decide) (hts _ kw_7_19) (fun _ h9 => h9) rfl dX12_putsOn_28 ?_
      refine lv_iload_n hx hb dX12_putsOn_31 rfl (lv_at hl 1 rfl) ?_
      refine jald hx hb hK hP (jc_71 cI cL ad σ τ) (jin t1 (by omega) (by omega)) dX12_putsOn_32 ?_
      have g169 := w21 _ (jnat (x := a1) t1 (n := 20) (by omega) (by decide))
      refine jtopr (y := (σ 71 a1.toNatClampNeg)) rfl ?_
      refine lv_if_le (tgt := 61) hx hb dX12_putsOn_33 (by decide) (fun c170 => ?_) (fun c170 => ?_)
      · have kc170 := jle c170 rfl jz_0
        refine lv_iconst (v := (-1)) hx hb dX12_putsOn_61 (by decide) ?_
        refine lv_istore_n (lv' := [(2, .int (-1)), (0, .ref (ad 55)), (1, .int a1)]) hx hb dX12_putsOn_62 rfl hl (by decide) rfl (fun ls hl => ?_)
        refine lv_aload_n hx hb dX12_putsOn_63 rfl (lv_at hl 1 rfl) ?_
        refine lv_iload_n hx hb dX12_putsOn_64 rfl (lv_at hl 2 rfl) ?_
        refine lv_iload_n hx hb dX12_putsOn_65 rfl (lv_at hl 0 rfl) ?_
        refine lv_if_lt (tgt := 81) hx hb dX12_putsOn_66 (by decide) (fun _ => ?_) (fun c => absurd (by decide) c)
        refine lv_iconst (v := (-1)) hx hb dX12_putsOn_81 (by decide) ?_
        have p171 : jmb σ B0 = 1 := (jmb_fr rfl rfl rfl rfl rfl B0).trans hB0
        have I172 : jI102 σ := ⟨(by omega), w9, w10⟩
        have I173 : jI106 σ := ⟨(by omega), w20, w21, w22⟩
        refine jcallV (As := [.int a1, .int (-1)]) (rest := []) ⟨hx, hb, hml, hown, hts⟩ hK hP hA hS hZ (c_X12_turnOf l D cI cL ad zz hJ σ τ B0 p171 a1 (A1) t1 (-1) ((-1)) jz_m1 I172 I173 (by omega) (by omega) (by omega) (by omega)) cw_RX12_277 (jc_55 cI cL ad σ τ) rfl ⟨Nat.le_of_ble_eq_true rfl, Nat.le_of_ble_eq_true rfl⟩ rfl rfl rfl hl.1 rfl (Nat.le_of_ble_eq_true rfl) dX12_putsOn_82 ⟨Nat.zero_le _, Nat.zero_le _⟩ (fun r175 σ174 τ174 H locs h174 hP hS => ?_)
        obtain ⟨⟨rfl, rfl⟩, h174⟩ := h174
        have h176 := h174
        obtain ⟨q178, k177⟩ := h176
        exact hret r175 σ τ _ _ _ _ rfl ⟨rfl, (fun _ _ => rfl), (fun _ _ => rfl), hs_jKept, ⟨trivial, (by omega)⟩⟩ hP hS dX12_putsOn_85
      · have kc170 := jnle c170 rfl jz_0
        refine lv_aload_n hx hb dX12_putsOn_36 rfl (lv_at hl 0 rfl) ?_
        refine va_get (D := D) hx hb hts inlX12 hown hK hP 55 (jc_55 cI cL ad σ τ) rfl 26 (by decide) (hts _ kw_23_5) (fun _ h9 => h9) rfl dX12_putsOn_37 ?_
        refine lv_aload_n hx hb dX12_putsOn_40 rfl (lv_at hl 0 rfl) ?_
        refine va_get (D := D) hx hb hts inlX12 hown hK hP 55 (jc_55 cI cL ad σ τ) rfl 36 (by decide) (hts _ kw_7_21) (fun _ h9 => h9) rfl dX12_putsOn_41 ?_
        refine lv_iload_n hx hb dX12_putsOn_44 rfl (lv_at hl 1 rfl) ?_
        refine jald hx hb hK hP (jc_73 cI cL ad σ τ) (jin t1 (by omega) (by omega)) dX12_putsOn_45 ?_
        refine jtopr (y := (σ 73 a1.toNatClampNeg)) rfl ?_
        refine lv_icmp_ge (tgt := 61) hx hb dX12_putsOn_46 (by decide) (fun c179 => ?_) (fun c179 => ?_)
        · have kc179 := jle c179 rfl rfl
          refine lv_iconst (v := (-1)) hx hb dX12_putsOn_61 (by decide) ?_
          refine lv_istore_n (lv' := [(2, .int (-1)), (0, .ref (ad 55)), (1, .int a1)]) hx hb dX12_putsOn_62 rfl hl (by decide) rfl (fun ls hl => ?_)
          refine lv_aload_n hx hb dX12_putsOn_63 rfl (lv_at hl 1 rfl) ?_
          refine lv_iload_n hx hb dX12_putsOn_64 rfl (lv_at hl 2 rfl) ?_
          refine lv_iload_n hx hb dX12_putsOn_65 rfl (lv_at hl 0 rfl) ?_
          refine lv_if_lt (tgt := 81) hx hb dX12_putsOn_66 (by decide) (fun _ => ?_) (fun c => absurd (by decide) c)
          refine lv_iconst (v := (-1)) hx hb dX12_putsOn_81 (by decide) ?_
          have p180 : jmb σ B0 = 1 := (jmb_fr rfl rfl rfl rfl rfl B0).trans hB0
          have I181 : jI102 σ := ⟨(by omega), w9, w10⟩
          have I182 : jI106 σ := ⟨(by omega), w20, w21, w22⟩
          refine jcallV (As := [.int a1, .int (-1)]) (rest := []) ⟨hx, hb, hml, hown, hts⟩ hK hP hA hS hZ (c_X12_turnOf l D cI cL ad zz hJ σ τ B0 p180 a1 (A1) t1 (-1) ((-1)) jz_m1 I181 I182 (by omega) (by omega) (by omega) (by omega)) cw_RX12_277 (jc_55 cI cL ad σ τ) rfl ⟨Nat.le_of_ble_eq_true rfl, Nat.le_of_ble_eq_true rfl⟩ rfl rfl rfl hl.1 rfl (Nat.le_of_ble_eq_true rfl) dX12_putsOn_82 ⟨Nat.zero_le _, Nat.zero_le _⟩ (fun r184 σ183 τ183 H locs h183 hP hS => ?_)
          obtain ⟨⟨rfl, rfl⟩, h183⟩ := h183
          have h185 := h183
          obtain ⟨q187, k186⟩ := h185
          exact hret r184 σ τ _ _ _ _ rfl ⟨rfl, (fun _ _ => rfl), (fun _ _ => rfl), hs_jKept, ⟨trivial, (by omega)⟩⟩ hP hS dX12_putsOn_85
        · have kc179 := jnle c179 rfl rfl
          refine lv_aload_n hx hb dX12_putsOn_49 rfl (lv_at hl 0 rfl) ?_
          refine va_get (D := D) hx hb hts inlX12 hown hK hP 55 (jc_55 cI cL ad σ τ) rfl 35 (by decide) (hts _ kw_7_20) (fun _ h9 => h9) rfl dX12_putsOn_50 ?_
          refine lv_bipush (v := 8) hx hb dX12_putsOn_53 (by decide) ?_
          refine lv_iload_n hx hb dX12_putsOn_55 rfl (lv_at hl 1 rfl) ?_
          refine lv_imul hx hb dX12_putsOn_56 ?_
          refine lv_topi (fun x188 ex188 => ?_)
          have tx188 : x188.toInt = 8 * A1 := (jmul ex188 jz_8 t1 (by omega) (by omega)).trans (by omega)
          refine jald hx hb hK hP (jc_72 cI cL ad σ τ) (jin tx188 (by omega) (by omega)) dX12_putsOn_57 ?_
          have g189 := w22 _ (jnat (x := x188) tx188 (n := 160) (by omega) (by decide))
          refine jtopr (y := (σ 72 x188.toNatClampNeg)) rfl ?_
          refine lv_goto (tgt := 62) hx hb dX12_putsOn_58 (by decide) ?_
          refine lv_istore_n (lv' := [(2, .int (σ 72 x188.toNatClampNeg)), (0, .ref (ad 55)), (1, .int a1)]) hx hb dX12_putsOn_62 rfl hl (by decide) rfl (fun ls hl => ?_)
          refine lv_aload_n hx hb dX12_putsOn_63 rfl (lv_at hl 1 rfl) ?_
          refine lv_iload_n hx hb dX12_putsOn_64 rfl (lv_at hl 2 rfl) ?_
          refine lv_iload_n hx hb dX12_putsOn_65 rfl (lv_at hl 0 rfl) ?_
          refine lv_if_lt (tgt := 81) hx hb dX12_putsOn_66 (by decide) (fun c => absurd (jlt c rfl jz_0) (by omega)) (fun c190 => ?_)
          have kc190 := jnlt c190 rfl jz_0
          refine lv_aload_n hx hb dX12_putsOn_69 rfl (lv_at hl 1 rfl) ?_
          refine lv_iload_n hx hb dX12_putsOn_70 rfl (lv_at hl 0 rfl) ?_
          have I191 : jI102 σ := ⟨(by omega), w9, w10⟩
          refine jcallV (As := [.int (σ 72 x188.toNatClampNeg)]) (rest := [.int a1, .ref (ad 55)]) ⟨hx, hb, hml, hown, hts⟩ hK hP hA hS hZ (c_X12_leastBut l D cI cL ad zz hJ σ τ (σ 72 x188.toNatClampNeg) ((σ 72 x188.toNatClampNeg).toInt) rfl I191) cw_RX12_274 (jc_55 cI cL ad σ τ) rfl ⟨Nat.le_of_ble_eq_true rfl, Nat.le_of_ble_eq_true rfl⟩ rfl rfl rfl hl.1 rfl (Nat.le_of_ble_eq_true rfl) dX12_putsOn_71 ⟨Nat.zero_le _, Nat.zero_le _⟩ (fun r193 σ192 τ192 H locs h192 hP hS => ?_)
          obtain ⟨⟨rfl, rfl⟩, h192⟩ := h192
          rcases h192 with h194 | h195
          · obtain ⟨q200, k196, k197, k198, k199⟩ := h194
            refine lv_if_lt (tgt := 81) hx hb dX12_putsOn_74 (by decide) (fun c => absurd (jlt c rfl jz_0) (by omega)) (fun c201 => ?_)
            have kc201 := jnlt c201 rfl jz_0
            refine lv_iload_n hx hb dX12_putsOn_77 rfl (lv_at hl 0 rfl) ?_
            refine lv_goto (tgt := 82) hx hb dX12_putsOn_78 (by decide) ?_
            have p202 : jmb σ r193 = 1 := (jmb_fr rfl rfl rfl rfl rfl r193).trans k199
            have I203 : jI106 σ := ⟨(by omega), w20, w21, w22⟩
            refine jcallV (As := [.int a1, .int (σ 72 x188.toNatClampNeg)]) (rest := []) ⟨hx, hb, hml, hown, hts⟩ hK hP hA hS hZ (c_X12_turnOf l D cI cL ad zz hJ σ τ r193 p202 a1 (A1) t1 (σ 72 x188.toNatClampNeg) ((σ 72 x188.toNatClampNeg).toInt) rfl I191 I203 (by omega) (by omega) (by omega) (by omega)) cw_RX12_277 (jc_55 cI cL ad σ τ) rfl ⟨Nat.le_of_ble_eq_true rfl, Nat.le_of_ble_eq_true rfl⟩ rfl rfl rfl hl.1 rfl (Nat.le_of_ble_eq_true rfl) dX12_putsOn_82 ⟨Nat.zero_le _, Nat.zero_le _⟩ (fun r205 σ204 τ204 H locs h204 hP hS => ?_)
            obtain ⟨⟨rfl, rfl⟩, h204⟩ := h204
            have h206 := h204
            obtain ⟨q208, k207⟩ := h206
            exact hret r205 σ τ _ _ _ _ rfl ⟨rfl, (fun _ _ => rfl), (fun _ _ => rfl), hs_jKept, ⟨trivial, (by omega)⟩⟩ hP hS dX12_putsOn_85
          · obtain ⟨q210, k209⟩ := h195
            have q210 := q210.symm
            subst q210
            refine lv_if_lt (tgt := 81) hx hb dX12_putsOn_74 (by decide) (fun _ => ?_) (fun c => absurd (by decide) c)
            refine lv_iconst (v := (-1)) hx hb dX12_putsOn_81 (by decide) ?_
            have p211 : jmb σ B0 = 1 := (jmb_fr rfl rfl rfl rfl rfl B0).trans hB0
            have I212 : jI106 σ := ⟨(by omega), w20, w21, w22⟩
            refine jcallV (As := [.int a1, .int (-1)]) (rest := []) ⟨hx, hb, hml, hown, hts⟩ hK hP hA hS hZ (c_X12_turnOf l D cI cL ad zz hJ σ τ B0 p211 a1 (A1) t1 (-1) ((-1)) jz_m1 I191 I212 (by omega) (by omega) (by omega) (by omega)) cw_RX12_277 (jc_55 cI cL ad σ τ) rfl ⟨Nat.le_of_ble_eq_true rfl, Nat.le_of_ble_eq_true rfl⟩ rfl rfl rfl hl.1 rfl (Nat.le_of_ble_eq_true rfl) dX12_putsOn_82 ⟨Nat.zero_le _, Nat.zero_le _⟩ (fun r214 σ213 τ213 H locs h213 hP hS => ?_)
            obtain ⟨⟨rfl, rfl⟩, h213⟩ := h213
            have h215 := h213
            obtain ⟨q217, k216⟩ := h215
            exact hret r214 σ τ _ _ _ _ rfl ⟨rfl, (fun _ _ => rfl), (fun _ _ => rfl), hs_jKept, ⟨trivial, (by omega)⟩⟩ hP hS dX12_putsOn_85
  · have kc30 := jeq c30 rfl jz_1
    refine lv_aload_n hx hb dX12_putsOn_10 rfl (lv_at hl 0 rfl) ?_
    refine lv_iload_n hx hb dX12_putsOn_11 rfl (lv_at hl 1 rfl) ?_
    refine lv_iconst (v := (-1)) hx hb dX12_putsOn_12 (by decide) ?_
    have p218 : jmb σ B0 = 1 := (jmb_fr rfl rfl rfl rfl rfl B0).trans hB0
    have I219 : jI102 σ := ⟨(by omega), w9, w10⟩
    have I220 : jI106 σ := ⟨(by omega), w20, w21, w22⟩
    refine jcallV (As := [.int a1, .int (-1)]) (rest := []) ⟨hx, hb, hml, hown, hts⟩ hK hP hA hS hZ (c_X12_turnOf l D cI cL ad zz hJ σ τ B0 p218 a1 (A1) t1 (-1) ((-1)) jz_m1 I219 I220 (by omega) (by omega) (by omega) (by omega)) cw_RX12_277 (jc_55 cI cL ad σ τ) rfl ⟨Nat.le_of_ble_eq_true rfl, Nat.le_of_ble_eq_true rfl⟩ rfl rfl rfl hl.1 rfl (Nat.le_of_ble_eq_true rfl) dX12_putsOn_13 ⟨Nat.zero_le _, Nat.zero_le _⟩ (fun r222 σ221 τ221 H locs h221 hP hS => ?_)
    obtain ⟨⟨rfl, rfl⟩, h221⟩ := h221
    have h223 := h221
    obtain ⟨q225, k224⟩ := h223
    exact hret r222 σ τ _ _ _ _ rfl ⟨rfl, (fun _ _ => rfl), (fun _ _ => rfl), hs_jKept, ⟨trivial, (by omega)⟩⟩ hP hS dX12_putsOn_16
set_option maxHeartbeats 4000000 in
set_option maxRecDepth 100000 in
theorem c_X12_meanFrom_0 (l : Launch) (D : va_G) (cI cL : ClassId) (ad zz : Nat → Nat) (hJ : jD ad) (σ : Nat → Nat → Int32) (τ : Nat → Nat → Int64) (a1 : Int32) (A1 : Int) (t1 : a1.toInt = A1) (hI101 : jI101 σ) (hI102 : jI102 σ) (hI103 : jI103 σ) (hI104 : jI104 σ) (hI105 : jI105 σ) (hI106 : jI106 σ) (hI120 : jI120 σ) (hs_jKept : jKept σ) (hp0 : 0 ≤ A1 ∧ A1 ≤ 19) (hp1 : (σ 55 12).toInt - (σ 55 26).toInt ≤ 0) : jM l yX12_meanFrom cX12_meanFrom 9 (some .int) ({ frames := 3, cells := 0, slots := 0, locals := 63 }) D cI cL ad zz [.ref (ad 55), .int a1] σ τ (fun r σ' τ' => τ = τ' ∧ (∀ i : Nat, (i < 55 ∨ 55 < i) ∧ (i < 66 ∨ 66 < i) ∧ (i < 74 ∨ 78 < i) → σ' i = σ i) ∧ (∀ k : Nat, (k < 18 ∨ 18 < k) ∧ (k < 19 ∨ 19 < k) ∧ (k < 20 ∨ 20 < k) ∧ (k < 21 ∨ 21 < k) ∧ (k < 22 ∨ 22 < k) ∧ (k < 37 ∨ 37 < k) → σ' 55 k = σ 55 k) ∧ (jKept σ') ∧ True) := by
  refine jM.of hJ (by decide +kernel) (nt := .int) rfl (Nat.le_of_ble_eq_true rfl) ?_
  intro p e s m args below meth c Q ls hC hret hl hP
  obtain ⟨hx, hb, hr, hml, hown, hts, hK, -, hlocks, hZ⟩ := hC
  have hown : s.vm.findClass RX12 = some m.cls := hown
  have hS : va_S (jA ad) s.heap s.heap [] := va_S.rf
  have hA : ∀ q, jA ad q → jA ad q := fun _ h => h
  have hl : lv_has ls 9 [(0, .ref (ad 55)), (1, .int a1)] := hl
  have g1 := jrg t1
  obtain ⟨i1, i2, i3, w4, w5, w6, w7⟩ : (0 ≤ (σ 55 5).toInt) ∧ ((σ 55 5).toInt ≤ (σ 55 4).toInt) ∧ ((σ 55 4).toInt ≤ 40) ∧ (∀ k : Nat, k < 68 → (-200) ≤ (σ 56 k).toInt ∧ (σ 56 k).toInt ≤ 500) ∧ (∀ k : Nat, k < 40 → 0 ≤ (σ 57 k).toInt ∧ (σ 57 k).toInt ≤ 67) ∧ (∀ k : Nat, k < 40 → (-200) ≤ (σ 58 k).toInt ∧ (σ 58 k).toInt ≤ 500) ∧ (∀ k : Nat, k < 40 → (-200) ≤ (σ 59 k).toInt ∧ (σ 59 k).toInt ≤ 500) := id hI101
  obtain ⟨i8, w9, w10⟩ : (0 ≤ (σ 55 6).toInt ∧ (σ 55 6).toInt ≤ 4) ∧ (∀ k : Nat, k < 4 → 0 ≤ (σ 60 k).toInt ∧ (σ 60 k).toInt ≤ 50) ∧ (∀ k : Nat, k < 4 → 0 ≤ (σ 61 k).toInt ∧ (σ 61 k).toInt ≤ 20) := id hI102
  have i11 : 0 ≤ (σ 55 9).toInt ∧ (σ 55 9).toInt ≤ 3 := hI103
  obtain ⟨i12, i13, i14, w15, w16⟩ : (1 ≤ (σ 55 10).toInt ∧ (σ 55 10).toInt ≤ 8) ∧ (1 ≤ (σ 55 12).toInt ∧ (σ 55 12).toInt ≤ 12) ∧ (0 ≤ (σ 55 13).toInt ∧ (σ 55 13).toInt ≤ 999) ∧ (∀ k : Nat, k < 8 → 0 ≤ (σ 62 k).toInt ∧ (σ 62 k).toInt ≤ 3) ∧ (∀ k : Nat, k < 8 → 0 ≤ (σ 67 k).toInt ∧ (σ 67 k).toInt ≤ 3) := id hI104
  obtain ⟨i17, w18⟩ : (0 ≤ (σ 55 15).toInt ∧ (σ 55 15).toInt ≤ 80) ∧ (∀ k : Nat, k < 2 → (-1) ≤ (σ 65 k).toInt ∧ (σ 65 k).toInt ≤ 80) := id hI105
  obtain ⟨i19, w20, w21, w22⟩ : (0 ≤ (σ 55 32).toInt ∧ (σ 55 32).toInt ≤ 20) ∧ (∀ k : Nat, k < 20 → 0 ≤ (σ 70 k).toInt ∧ (σ 70 k).toInt ≤ 6) ∧ (∀ k : Nat, k < 20 → 0 ≤ (σ 71 k).toInt ∧ (σ 71 k).toInt ≤ 8) ∧ (∀ k : Nat, k < 160 → 0 ≤ (σ 72 k).toInt ∧ (σ 72 k).toInt ≤ 3) := id hI106
  obtain ⟨i23, i24, i25, i26, i27, w28⟩ : (0 ≤ (σ 55 25).toInt) ∧ ((σ 55 25).toInt ≤ (σ 55 10).toInt) ∧ (0 ≤ (σ 55 26).toInt) ∧ ((σ 55 26).toInt ≤ (σ 55 12).toInt) ∧ ((-1) ≤ (σ 55 27).toInt ∧ (σ 55 27).toInt ≤ 3) ∧ (∀ k : Nat, k < 4 → 0 ≤ (σ 68 k).toInt ∧ (σ 68 k).toInt ≤ 3) := id hI120
  refine lv_aload_n hx hb dX12_meanFrom_0 rfl (lv_at hl 0 rfl) ?_
  have I29 : jI102 σ := ⟨(by omega), w9, w10⟩
  have I30 : jI104 σ := ⟨(by omega), (by omega), (by omega), w15, w16⟩
  have I31 : jI120 σ := ⟨(by omega), (by omega), (by omega), (by omega), (by omega), w28⟩
  refine jcallV (As := []) (rest := []) ⟨hx, hb, hml, hown, hts⟩ hK hP hA hS hZ (c_X12_isEnded l D cI cL ad zz hJ σ τ I29 I30 I31) cw_RX12_307 (jc_55 cI cL ad σ τ) rfl ⟨Nat.le_of_ble_eq_true rfl, Nat.le_of_ble_eq_true rfl⟩ rfl rfl rfl hl.1 rfl (Nat.le_of_ble_eq_true rfl) dX12_meanFrom_1 ⟨Nat.zero_le _, Nat.zero_le _⟩ (fun r33 σ32 τ32 H locs h32 hP hS => ?_)
  obtain ⟨⟨rfl, rfl⟩, h32⟩ := h32
  rcases h32 with h34 | h35
  · obtain ⟨q37, k36⟩ := h34
    have q37 := q37.symm
    subst q37
    refine lv_if_eq (tgt := 9) hx hb dX12_meanFrom_4 (by decide) (fun c => absurd c (by decide)) (fun _ => ?_)
    refine lv_iconst (v := 0) hx hb dX12_meanFrom_7 (by decide) ?_
    exact hret 0 σ τ _ _ _ _ rfl ⟨rfl, (fun _ _ => rfl), (fun _ _ => rfl), hs_jKept, trivial⟩ hP hS dX12_meanFrom_8
  · obtain ⟨q41, k38, k39, k40⟩ := h35
    exact absurd (by omega : False) id
set_option maxHeartbeats 4000000 in
set_option maxRecDepth 100000 in
theorem c_X12_meanFrom_1 (l : Launch) (D : va_G) (cI cL : ClassId) (ad zz : Nat → Nat) (hJ : jD ad) (σ : Nat → Nat → Int32) (τ : Nat → Nat → Int64) (a1 : Int32) (A1 : Int) (t1 : a1.toInt = A1) (hI101 : jI101 σ) (hI102 : jI102 σ) (hI103 : jI103 σ) (hI104 : jI104 σ) (hI105 : jI105 σ) (hI106 : jI106 σ) (hI120 : jI120 σ) (hs_jKept : jKept σ) (hp0 : 0 ≤ A1 ∧ A1 ≤ 19) (hp1 : (σ 55 12).toInt - (σ 55 26).toInt ≤ 1) : jM l yX12_meanFrom cX12_meanFrom 9 (some .int) ({ frames := 63, cells := 0, slots := 0, locals := 1513 }) D cI cL ad zz [.ref (ad 55), .int a1] σ τ (fun r σ' τ' => τ = τ' ∧ (∀ i : Nat, (i < 55 ∨ 55 < i) ∧ (i < 66 ∨ 66 < i) ∧ (i < 74 ∨ 78 < i) → σ' i = σ i) ∧ (∀ k : Nat, (k < 18 ∨ 18 < k) ∧ (k < 19 ∨ 19 < k) ∧ (k < 20 ∨ 20 < k) ∧ (k < 21 ∨ 21 < k) ∧ (k < 22 ∨ 22 < k) ∧ (k < 37 ∨ 37 < k) → σ' 55 k = σ 55 k) ∧ (jKept σ') ∧ True) := by
  refine jM.of hJ (by decide +kernel) (nt := .int) rfl (Nat.le_of_ble_eq_true rfl) ?_
  intro p e s m args below meth c Q ls hC hret hl hP
  obtain ⟨hx, hb, hr, hml, hown, hts, hK, -, hlocks, hZ⟩ := hC
  have hown : s.vm.findClass RX12 = some m.cls := hown
  have hS : va_S (jA ad) s.heap s.heap [] := va_S.rf
  have hA : ∀ q, jA ad q → jA ad q := fun _ h => h
  have hl : lv_has ls 9 [(0, .ref (ad 55)), (1, .int a1)] := hl
  have g1 := jrg t1
  obtain ⟨i1, i2, i3, w4, w5, w6, w7⟩ : (0 ≤ (σ 55 5).toInt) ∧ ((σ 55 5).toInt ≤ (σ 55 4).toInt) ∧ ((σ 55 4).toInt ≤ 40) ∧ (∀ k : Nat, k < 68 → (-200) ≤ (σ 56 k).toInt ∧ (σ 56 k).toInt ≤ 500) ∧ (∀ k : Nat, k < 40 → 0 ≤ (σ 57 k).toInt ∧ (σ 57 k).toInt ≤ 67) ∧ (∀ k : Nat, k < 40 → (-200) ≤ (σ 58 k).toInt ∧ (σ 58 k).toInt ≤ 500) ∧ (∀ k : Nat, k < 40 → (-200) ≤ (σ 59 k).toInt ∧ (σ 59 k).toInt ≤ 500) := id hI101
  obtain ⟨i8, w9, w10⟩ : (0 ≤ (σ 55 6).toInt ∧ (σ 55 6).toInt ≤ 4) ∧ (∀ k : Nat, k < 4 → 0 ≤ (σ 60 k).toInt ∧ (σ 60 k).toInt ≤ 50) ∧ (∀ k : Nat, k < 4 → 0 ≤ (σ 61 k).toInt ∧ (σ 61 k).toInt ≤ 20) := id hI102
  have i11 : 0 ≤ (σ 55 9).toInt ∧ (σ 55 9).toInt ≤ 3 := hI103
  obtain ⟨i12, i13, i14, w15, w16⟩ : (1 ≤ (σ 55 10).toInt ∧ (σ 55 10).toInt ≤ 8) ∧ (1 ≤ (σ 55 12).toInt ∧ (σ 55 12).toInt ≤ 12) ∧ (0 ≤ (σ 55 13).toInt ∧ (σ 55 13).toInt ≤ 999) ∧ (∀ k : Nat, k < 8 → 0 ≤ (σ 62 k).toInt ∧ (σ 62 k).toInt ≤ 3) ∧ (∀ k : Nat, k < 8 → 0 ≤ (σ 67 k).toInt ∧ (σ 67 k).toInt ≤ 3) := id hI104
  obtain ⟨i17, w18⟩ : (0 ≤ (σ 55 15).toInt ∧ (σ 55 15).toInt ≤ 80) ∧ (∀ k : Nat, k < 2 → (-1) ≤ (σ 65 k).toInt ∧ (σ 65 k).toInt ≤ 80) := id hI105
  obtain ⟨i19, w20, w21, w22⟩ : (0 ≤ (σ 55 32).toInt ∧ (σ 55 32).toInt ≤ 20) ∧ (∀ k : Nat, k < 20 → 0 ≤ (σ 70 k).toInt ∧ (σ 70 k).toInt ≤ 6) ∧ (∀ k : Nat, k < 20 → 0 ≤ (σ 71 k).toInt ∧ (σ 71 k).toInt ≤ 8) ∧ (∀ k : Nat, k < 160 → 0 ≤ (σ 72 k).toInt ∧ (σ 72 k).toInt ≤ 3) := id hI106
  obtain ⟨i23, i24, i25, i26, i27, w28⟩ : (0 ≤ (σ 55 25).toInt) ∧ ((σ 55 25).toInt ≤ (σ 55 10).toInt) ∧ (0 ≤ (σ 55 26).toInt) ∧ ((σ 55 26).toInt ≤ (σ 55 12).toInt) ∧ ((-1) ≤ (σ 55 27).toInt ∧ (σ 55 27).toInt ≤ 3) ∧ (∀ k : Nat, k < 4 → 0 ≤ (σ 68 k).toInt ∧ (σ 68 k).toInt ≤ 3) := id hI120
  refine lv_aload_n hx hb dX12_meanFrom_0 rfl (lv_at hl 0 rfl) ?_
  have I29 : jI102 σ := ⟨(by omega), w9, w10⟩
  have I30 : jI104 σ := ⟨(by omega), (by omega), (by omega), w15, w16⟩
  have I31 : jI120 σ := ⟨(by omega), (by omega), (by omega), (by omega), (by omega), w28⟩
  refine jcallV (As := []) (rest := []) ⟨hx, hb, hml, hown, hts⟩ hK hP hA hS hZ (c_X12_isEnded l D cI cL ad zz hJ σ τ I29 I30 I31) cw_RX12_307 (jc_55 cI cL ad σ τ) rfl ⟨Nat.le_of_ble_eq_true rfl, Nat.le_of_ble_eq_true rfl⟩ rfl rfl rfl hl.1 rfl (Nat.le_of_ble_eq_true rfl) dX12_meanFrom_1 ⟨Nat.zero_le _, Nat.zero_le _⟩ (fun r33 σ32 τ32 H locs h32 hP hS => ?_)
  obtain ⟨⟨rfl, rfl⟩, h32⟩ := h32
  rcases h32 with h34 | h35
  · obtain ⟨q37, k36⟩ := h34
    have q37 := q37.symm
    subst q37
    refine lv_if_eq (tgt := 9) hx hb dX12_meanFrom_4 (by decide) (fun c => absurd c (by decide)) (fun _ => ?_)
    refine lv_iconst (v := 0) hx hb dX12_meanFrom_7 (by decide) ?_
    exact hret 0 σ τ _ _ _ _ rfl ⟨rfl, (fun _ _ => rfl), (fun _ _ => rfl), hs_jKept, trivial⟩ hP hS dX12_meanFrom_8
  · obtain ⟨q41, k38, k39, k40⟩ := h35
    have q41 := q41.symm
    subst q41
    obtain ⟨B42, k43, k44, w45⟩ := k40
    refine lv_if_eq (tgt := 9) hx hb dX12_meanFrom_4 (by decide) (fun _ => ?_) (fun c => absurd (by decide) c)
    refine lv_aload_n hx hb dX12_meanFrom_9 rfl (lv_at hl 0 rfl) ?_
    refine lv_iload_n hx hb dX12_meanFrom_10 rfl (lv_at hl 1 rfl) ?_
    have p46 : jmb σ B42 = 1 := (jmb_fr rfl rfl rfl rfl rfl B42).trans w45
    have I47 : jI101 σ := ⟨(by omega), (by omega), (by omega), w4, w5, w6, w7⟩
    have I48 : jI103 σ := (show 0 ≤ (σ 55 9).toInt ∧ (σ 55 9).toInt ≤ 3 by omega)
    have I49 : jI105 σ := ⟨(by omega), w18⟩
    have I50 : jI106 σ := ⟨(by omega), w20, w21, w22⟩
    refine jcallV (As := [.int a1]) (rest := []) ⟨hx, hb, hml, hown, hts⟩ hK hP hA hS hZ (c_X12_putsOn l D cI cL ad zz hJ σ τ B42 p46 a1 (A1) t1 I47 I29 I48 I30 I49 I50 I31 hs_jKept (by omega) (by omega) (by omega) (by omega) (by omega)) cw_RX12_321 (jc_55 cI cL ad σ τ) rfl ⟨Nat.le_of_ble_eq_true rfl, Nat.le_of_ble_eq_true rfl⟩ rfl rfl rfl hl.1 rfl (Nat.le_of_ble_eq_true rfl) dX12_meanFrom_11 ⟨Nat.zero_le _, Nat.zero_le _⟩ (fun r52 σ51 τ51 H locs h51 hP hS => ?_)
    obtain ⟨rfl, f53, f54, p55, h51⟩ := h51
    have h56 := h51
    obtain ⟨q58, k57⟩ := h56
    refine lv_istore_n (lv' := [(2, .int r52), (0, .ref (ad 55)), (1, .int a1)]) hx hb dX12_meanFrom_14 rfl hl (by decide) rfl (fun ls hl => ?_)
    refine lv_aload_n hx hb dX12_meanFrom_15 rfl (lv_at hl 1 rfl) ?_
    refine va_get (D := D) hx hb hts inlX12 hown hK hP 55 (jc_55 cI cL ad σ51 τ) rfl 11 (by decide) (hts _ kw_7_8) (fun _ h9 => h9) rfl dX12_meanFrom_16 ?_
    refine lv_aload_n hx hb dX12_meanFrom_19 rfl (lv_at hl 1 rfl) ?_
    refine va_get (D := D) hx hb hts inlX12 hown hK hP 55 (jc_55 cI cL ad σ51 τ) rfl 25 (by decide) (hts _ kw_23_6) (fun _ h9 => h9) rfl dX12_meanFrom_20 ?_
    have m59 : σ51 55 25 = (σ 55 25) := (by rw [f54 25 (by omega)])
    refine jtopr m59 ?_
    refine jald hx hb hK hP (jc_62 cI cL ad σ51 τ) (jin rfl (by omega) (by omega)) dX12_meanFrom_23 ?_
    have w60 : ∀ k : Nat, k < 8 → 0 ≤ (σ51 62 k).toInt ∧ (σ51 62 k).toInt ≤ 3 := (by rw [f53 62 (by omega)]; exact w15)
    have g61 := w60 _ (jnat (x := (σ 55 25)) rfl (n := 8) (by omega) (by decide))
    refine lv_topi (fun x62 ex62 => ?_)
    rw [← ex62] at g61
    refine lv_istore_n (lv' := [(3, .int x62), (2, .int r52), (0, .ref (ad 55)), (1, .int a1)]) hx hb dX12_meanFrom_24 rfl hl (by decide) rfl (fun ls hl => ?_)
    refine lv_aload_n hx hb dX12_meanFrom_25 rfl (lv_at hl 2 rfl) ?_
    refine lv_iload_n hx hb dX12_meanFrom_26 rfl (lv_at hl 1 rfl) ?_
    refine lv_iload_n hx hb dX12_meanFrom_27 rfl (lv_at hl 0 rfl) ?_
    have z63 : (σ51 55 5).toInt = (σ 55 5).toInt := by rw [(show σ51 55 5 = (σ 55 5) from (by rw [f54 5 (by omega)]))]
    have z64 : (σ51 55 4).toInt = (σ 55 4).toInt := by rw [(show σ51 55 4 = (σ 55 4) from (by rw [f54 4 (by omega)]))]
    have w65 : ∀ k : Nat, k < 68 → (-200) ≤ (σ51 56 k).toInt ∧ (σ51 56 k).toInt ≤ 500 := (by rw [f53 56 (by omega)]; exact w4)
    have w66 : ∀ k : Nat, k < 40 → 0 ≤ (σ51 57 k).toInt ∧ (σ51 57 k).toInt ≤ 67 := (by rw [f53 57 (by omega)]; exact w5)
    have w67 : ∀ k : Nat, k < 40 → (-200) ≤ (σ51 58 k).toInt ∧ (σ51 58 k).toInt ≤ 500 := (by rw [f53 58 (by omega)]; exact w6)
    have w68 : ∀ k : Nat, k < 40 → (-200) ≤ (σ51 59 k).toInt ∧ (σ51 59 k).toInt ≤ 500 := (by rw [f53 59 (by omega)]; exact w7)
    have I69 : jI101 σ51 := ⟨(by omega), (by omega), (by omega), w65, w66, w67, w68⟩
    have z70 : (σ51 55 6).toInt = (σ 55 6).toInt := by rw [(show σ51 55 6 = (σ 55 6) from (by rw [f54 6 (by omega)]))]
    have w71 : ∀ k : Nat, k < 4 → 0 ≤ (σ51 60 k).toInt ∧ (σ51 60 k).toInt ≤ 50 := (by rw [f53 60 (by omega)]; exact w9)
    have w72 : ∀ k : Nat, k < 4 → 0 ≤ (σ51 61 k).toInt ∧ (σ51 61 k).toInt ≤ 20 := (by rw [f53 61 (by omega)]; exact w10)
    have I73 : jI102 σ51 := ⟨(by omega), w71, w72⟩
    have z74 : (σ51 55 9).toInt = (σ 55 9).toInt := by rw [(show σ51 55 9 = (σ 55 9) from (by rw [f54 9 (by omega)]))]
    have I75 : jI103 σ51 := (show 0 ≤ (σ51 55 9).toInt ∧ (σ51 55 9).toInt ≤ 3 by omega)
    have z76 : (σ51 55 15).toInt = (σ 55 15).toInt := by rw [(show σ51 55 15 = (σ 55 15) from (by rw [f54 15 (by omega)]))]
    have w77 : ∀ k : Nat, k < 2 → (-1) ≤ (σ51 65 k).toInt ∧ (σ51 65 k).toInt ≤ 80 := (by rw [f53 65 (by omega)]; exact w18)
    have I78 : jI105 σ51 := ⟨(by omega), w77⟩
    have w79 : ∀ k : Nat, k < 4 → 0 ≤ (σ51 68 k).toInt ∧ (σ51 68 k).toInt ≤ 3 := (by rw [f53 68 (by omega)]; exact w28)
    refine jcallV (As := [.int r52, .int x62]) (rest := []) ⟨hx, hb, hml, hown, hts⟩ hK hP hA hS hZ (c_X12_outBy l D cI cL ad zz hJ σ51 τ r52 (r52.toInt) rfl x62 (x62.toInt) rfl I69 I73 I75 I78 w79 (by omega) (by omega)) cw_RX12_259 (jc_55 cI cL ad σ51 τ) rfl ⟨Nat.le_of_ble_eq_true rfl, Nat.le_of_ble_eq_true rfl⟩ rfl rfl rfl hl.1 rfl (Nat.le_of_ble_eq_true rfl) dX12_meanFrom_28 ⟨Nat.zero_le _, Nat.zero_le _⟩ (fun r81 σ80 τ80 H locs h80 hP hS => ?_)
    obtain ⟨rfl, f82, f83, h80⟩ := h80
    have h84 := h80
    obtain ⟨q86, k85⟩ := h84
    refine lv_istore (lv' := [(4, .int r81), (3, .int x62), (2, .int r52), (0, .ref (ad 55)), (1, .int a1)]) hx hb dX12_meanFrom_31 hl (by decide) rfl (fun ls hl => ?_)
    refine lv_sipush (v := 1000) hx hb dX12_meanFrom_33 (by decide) ?_
    refine lv_aload_n hx hb dX12_meanFrom_36 rfl (lv_at hl 3 rfl) ?_
    refine lv_iload_n hx hb dX12_meanFrom_37 rfl (lv_at hl 2 rfl) ?_
    refine lv_iload_n hx hb dX12_meanFrom_38 rfl (lv_at hl 1 rfl) ?_
    have z87 : (σ80 55 5).toInt = (σ 55 5).toInt := by rw [(show σ80 55 5 = (σ 55 5) from (by rw [f83 5 (by omega)]; exact (by rw [f54 5 (by omega)])))]
    have z88 : (σ80 55 4).toInt = (σ 55 4).toInt := by rw [(show σ80 55 4 = (σ 55 4) from (by rw [f83 4 (by omega)]; exact (by rw [f54 4 (by omega)])))]
    have w89 : ∀ k : Nat, k < 68 → (-200) ≤ (σ80 56 k).toInt ∧ (σ80 56 k).toInt ≤ 500 := (by rw [f82 56 (by omega)]; exact w65)
    have w90 : ∀ k : Nat, k < 40 → 0 ≤ (σ80 57 k).toInt ∧ (σ80 57 k).toInt ≤ 67 := (by rw [f82 57 (by omega)]; exact w66)
    have w91 : ∀ k : Nat, k < 40 → (-200) ≤ (σ80 58 k).toInt ∧ (σ80 58 k).toInt ≤ 500 := (by rw [f82 58 (by omega)]; exact w67)
    have w92 : ∀ k : Nat, k < 40 → (-200) ≤ (σ80 59 k).toInt ∧ (σ80 59 k).toInt ≤ 500 := (by rw [f82 59 (by omega)]; exact w68)
    have I93 : jI101 σ80 := ⟨(by omega), (by omega), (by omega), w89, w90, w91, w92⟩
    have z94 : (σ80 55 6).toInt = (σ 55 6).toInt := by rw [(show σ80 55 6 = (σ 55 6) from (by rw [f83 6 (by omega)]; exact (by rw [f54 6 (by omega)])))]
    have w95 : ∀ k : Nat, k < 4 → 0 ≤ (σ80 60 k).toInt ∧ (σ80 60 k).toInt ≤ 50 := (by rw [f82 60 (by omega)]; exact w71)
    have w96 : ∀ k : Nat, k < 4 → 0 ≤ (σ80 61 k).toInt ∧ (σ80 61 k).toInt ≤ 20 := (by rw [f82 61 (by omega)]; exact w72)
    have I97 : jI102 σ80 := ⟨(by omega), w95, w96⟩
    have z98 : (σ80 55 9).toInt = (σ 55 9).toInt := by rw [(show σ80 55 9 = (σ 55 9) from (by rw [f83 9 (by omega)]; exact (by rw [f54 9 (by omega)])))]
    have I99 : jI103 σ80 := (show 0 ≤ (σ80 55 9).toInt ∧ (σ80 55 9).toInt ≤ 3 by omega)
    have w100 : ∀ k : Nat, k < 4 → 0 ≤ (σ80 68 k).toInt ∧ (σ80 68 k).toInt ≤ 3 := (by rw [f82 68 (by omega)]; exact w79)
    refine jcallV (As := [.int r52, .int x62]) (rest := [.int 1000]) ⟨hx, hb, hml, hown, hts⟩ hK hP hA hS hZ (c_X12_runsBy l D cI cL ad zz hJ σ80 τ r52 (r52.toInt) rfl x62 (x62.toInt) rfl I93 I97 I99 w100 (by omega) (by omega)) cw_RX12_262 (jc_55 cI cL ad σ80 τ) rfl ⟨Nat.le_of_ble_eq_true rfl, Nat.le_of_ble_eq_true rfl⟩ rfl rfl rfl hl.1 rfl (Nat.le_of_ble_eq_true rfl) dX12_meanFrom_39 ⟨Nat.zero_le _, Nat.zero_le _⟩ (fun r102 σ101 τ101 H locs h101 hP hS => ?_)
    obtain ⟨⟨rfl, rfl⟩, h101⟩ := h101
    have h103 := h101
    obtain ⟨q105, k104⟩ := h103
    have g106 := jrg (rfl : r102.toInt = r102.toInt)
    refine lv_imul hx hb dX12_meanFrom_42 ?_
    refine lv_topi (fun x107 ex107 => ?_)
    have tx107 : x107.toInt = 1000 * r102.toInt := (jmul ex107 jz_1000 rfl (by omega) (by omega)).trans (by omega)
    refine lv_istore (lv' := [(5, .int x107), (4, .int r81), (3, .int x62), (2, .int r52), (0, .ref (ad 55)), (1, .int a1)]) hx hb dX12_meanFrom_43 hl (by decide) rfl (fun ls hl => ?_)
    refine lv_aload_n hx hb dX12_meanFrom_45 rfl (lv_at hl 4 rfl) ?_
    refine lv_iload_n hx hb dX12_meanFrom_46 rfl (lv_at hl 3 rfl) ?_
    refine lv_iconst (v := 1) hx hb dX12_meanFrom_47 (by decide) ?_
    have z108 : (σ80 55 27).toInt = (σ 55 27).toInt := by rw [(show σ80 55 27 = (σ 55 27) from (by rw [f83 27 (by omega)]; exact (by rw [f54 27 (by omega)])))]
    have z109 : (σ80 55 25).toInt = (σ 55 25).toInt := by rw [(show σ80 55 25 = (σ 55 25) from (by rw [f83 25 (by omega)]; exact m59))]
    have z110 : (σ80 55 26).toInt = (σ 55 26).toInt := by rw [(show σ80 55 26 = (σ 55 26) from (by rw [f83 26 (by omega)]; exact (by rw [f54 26 (by omega)])))]
    have z111 : (σ80 68 0).toInt = (σ 68 0).toInt := by rw [(show σ80 68 0 = (σ 68 0) from (by rw [f82 68 (by omega)]; exact (by rw [f53 68 (by omega)])))]
    have z112 : (σ80 68 1).toInt = (σ 68 1).toInt := by rw [(show σ80 68 1 = (σ 68 1) from (by rw [f82 68 (by omega)]; exact (by rw [f53 68 (by omega)])))]
    have z113 : (σ80 68 2).toInt = (σ 68 2).toInt := by rw [(show σ80 68 2 = (σ 68 2) from (by rw [f82 68 (by omega)]; exact (by rw [f53 68 (by omega)])))]
    have z114 : (σ80 68 3).toInt = (σ 68 3).toInt := by rw [(show σ80 68 3 = (σ 68 3) from (by rw [f82 68 (by omega)]; exact (by rw [f53 68 (by omega)])))]
    refine jcallV (As := [.int r52, .int 1]) (rest := []) ⟨hx, hb, hml, hown, hts⟩ hK hP hA hS hZ (c_X12_goes_1 l D cI cL ad zz hJ σ80 τ r52 (r52.toInt) rfl w100 (by omega) (by omega) (by omega) (by omega) (by omega)) cw_RX12_296 (jc_55 cI cL ad σ80 τ) rfl ⟨Nat.le_of_ble_eq_true rfl, Nat.le_of_ble_eq_true rfl⟩ rfl rfl rfl hl.1 rfl (Nat.le_of_ble_eq_true rfl) dX12_meanFrom_48 ⟨Nat.zero_le _, Nat.zero_le _⟩ (fun r116 σ115 τ115 H locs h115 hP hS => ?_)
    obtain ⟨rfl, f117, f118, w119, w120, w121, h115⟩ := h115
    obtain ⟨k122, k123, k124, h115⟩ := h115
    have h125 := h115
    obtain ⟨q131, k126, k127, k128, k129, k130⟩ := h125
    refine lv_istore (lv' := [(6, .int r116), (5, .int x107), (4, .int r81), (3, .int x62), (2, .int r52), (0, .ref (ad 55)), (1, .int a1)]) hx hb dX12_meanFrom_51 hl (by decide) rfl (fun ls hl => ?_)
    refine lv_aload_n hx hb dX12_meanFrom_53 rfl (lv_at hl 5 rfl) ?_
    refine lv_iload_n hx hb dX12_meanFrom_54 rfl (lv_at hl 6 rfl) ?_
    have z132 : (σ115 55 5).toInt = (σ 55 5).toInt := by rw [(show σ115 55 5 = (σ 55 5) from (by rw [f118 5 (by omega)]; exact (by rw [f83 5 (by omega)]; exact (by rw [f54 5 (by omega)]))))]
    have z133 : (σ115 55 4).toInt = (σ 55 4).toInt := by rw [(show σ115 55 4 = (σ 55 4) from (by rw [f118 4 (by omega)]; exact (by rw [f83 4 (by omega)]; exact (by rw [f54 4 (by omega)]))))]
    have w134 : ∀ k : Nat, k < 68 → (-200) ≤ (σ115 56 k).toInt ∧ (σ115 56 k).toInt ≤ 500 := (by rw [f117 56 (by omega)]; exact w89)
    have w135 : ∀ k : Nat, k < 40 → 0 ≤ (σ115 57 k).toInt ∧ (σ115 57 k).toInt ≤ 67 := (by rw [f117 57 (by omega)]; exact w90)
    have w136 : ∀ k : Nat, k < 40 → (-200) ≤ (σ115 58 k).toInt ∧ (σ115 58 k).toInt ≤ 500 := (by rw [f117 58 (by omega)]; exact w91)
    have w137 : ∀ k : Nat, k < 40 → (-200) ≤ (σ115 59 k).toInt ∧ (σ115 59 k).toInt ≤ 500 := (by rw [f117 59 (by omega)]; exact w92)
    have I138 : jI101 σ115 := ⟨(by omega), (by omega), (by omega), w134, w135, w136, w137⟩
    have z139 : (σ115 55 6).toInt = (σ 55 6).toInt := by rw [(show σ115 55 6 = (σ 55 6) from (by rw [f118 6 (by omega)]; exact (by rw [f83 6 (by omega)]; exact (by rw [f54 6 (by omega)]))))]
    have w140 : ∀ k : Nat, k < 4 → 0 ≤ (σ115 60 k).toInt ∧ (σ115 60 k).toInt ≤ 50 := (by rw [f117 60 (by omega)]; exact w95)
    have w141 : ∀ k : Nat, k < 4 → 0 ≤ (σ115 61 k).toInt ∧ (σ115 61 k).toInt ≤ 20 := (by rw [f117 61 (by omega)]; exact w96)
    have I142 : jI102 σ115 := ⟨(by omega), w140, w141⟩
    have z143 : (σ115 55 9).toInt = (σ 55 9).toInt := by rw [(show σ115 55 9 = (σ 55 9) from (by rw [f118 9 (by omega)]; exact (by rw [f83 9 (by omega)]; exact (by rw [f54 9 (by omega)]))))]
    have I144 : jI103 σ115 := (show 0 ≤ (σ115 55 9).toInt ∧ (σ115 55 9).toInt ≤ 3 by omega)
    have z145 : (σ115 55 10).toInt = (σ 55 10).toInt := by rw [(show σ115 55 10 = (σ 55 10) from (by rw [f118 10 (by omega)]; exact (by rw [f83 10 (by omega)]; exact (by rw [f54 10 (by omega)]))))]
    have z146 : (σ115 55 12).toInt = (σ 55 12).toInt := by rw [(show σ115 55 12 = (σ 55 12) from (by rw [f118 12 (by omega)]; exact (by rw [f83 12 (by omega)]; exact (by rw [f54 12 (by omega)]))))]
    have z147 : (σ115 55 13).toInt = (σ 55 13).toInt := by rw [(show σ115 55 13 = (σ 55 13) from (by rw [f118 13 (by omega)]; exact (by rw [f83 13 (by omega)]; exact (by rw [f54 13 (by omega)]))))]
    have w148 : ∀ k : Nat, k < 8 → 0 ≤ (σ115 62 k).toInt ∧ (σ115 62 k).toInt ≤ 3 := (by rw [f117 62 (by omega)]; exact (by rw [f82 62 (by omega)]; exact w60))
    have w149 : ∀ k : Nat, k < 8 → 0 ≤ (σ115 67 k).toInt ∧ (σ115 67 k).toInt ≤ 3 := (by rw [f117 67 (by omega)]; exact (by rw [f82 67 (by omega)]; exact (by rw [f53 67 (by omega)]; exact w16)))
    have I150 : jI104 σ115 := ⟨(by omega), (by omega), (by omega), w148, w149⟩
    have z151 : (σ115 55 15).toInt = (σ 55 15).toInt := by rw [(show σ115 55 15 = (σ 55 15) from (by rw [f118 15 (by omega)]; exact (by rw [f83 15 (by omega)]; exact (by rw [f54 15 (by omega)]))))]
    have w152 : ∀ k : Nat, k < 2 → (-1) ≤ (σ115 65 k).toInt ∧ (σ115 65 k).toInt ≤ 80 := (by rw [f117 65 (by omega)]; exact (by rw [f82 65 (by omega)]; exact w77))
    have I153 : jI105 σ115 := ⟨(by omega), w152⟩
    have z154 : (σ115 55 32).toInt = (σ 55 32).toInt := by rw [(show σ115 55 32 = (σ 55 32) from (by rw [f118 32 (by omega)]; exact (by rw [f83 32 (by omega)]; exact (by rw [f54 32 (by omega)]))))]
    have w155 : ∀ k : Nat, k < 20 → 0 ≤ (σ115 70 k).toInt ∧ (σ115 70 k).toInt ≤ 6 := (by rw [f117 70 (by omega)]; exact (by rw [f82 70 (by omega)]; exact (by rw [f53 70 (by omega)]; exact w20)))
    have w156 : ∀ k : Nat, k < 20 → 0 ≤ (σ115 71 k).toInt ∧ (σ115 71 k).toInt ≤ 8 := (by rw [f117 71 (by omega)]; exact (by rw [f82 71 (by omega)]; exact (by rw [f53 71 (by omega)]; exact w21)))
    have w157 : ∀ k : Nat, k < 160 → 0 ≤ (σ115 72 k).toInt ∧ (σ115 72 k).toInt ≤ 3 := (by rw [f117 72 (by omega)]; exact (by rw [f82 72 (by omega)]; exact (by rw [f53 72 (by omega)]; exact w22)))
    have I158 : jI106 σ115 := ⟨(by omega), w155, w156, w157⟩
    have I159 : jI120 σ115 := ⟨(by omega), (by omega), (by omega), (by omega), (by omega), w119⟩
    have p160 : jKept σ115 := jKept.fr (by rw [f117 75 (by omega), f82 75 (by omega)]) (by rw [f117 76 (by omega), f82 76 (by omega)]) (by rw [f117 77 (by omega), f82 77 (by omega)]) p55
    refine jcallV (As := [.int a1]) (rest := []) ⟨hx, hb, hml, hown, hts⟩ hK hP hA hS hZ (c_X12_meanFrom_0 l D cI cL ad zz hJ σ115 τ a1 (A1) t1 I138 I142 I144 I150 I153 I158 I159 p160 (by omega) (by omega)) cw_RX12_324 (jc_55 cI cL ad σ115 τ) rfl ⟨Nat.le_of_ble_eq_true rfl, Nat.le_of_ble_eq_true rfl⟩ rfl rfl rfl hl.1 rfl (Nat.le_of_ble_eq_true rfl) dX12_meanFrom_55 ⟨Nat.zero_le _, Nat.zero_le _⟩ (fun r162 σ161 τ161 H locs h161 hP hS => ?_)
    obtain ⟨rfl, f163, f164, p165, h161⟩ := h161
    refine lv_istore (lv' := [(7, .int r162), (6, .int r116), (5, .int x107), (4, .int r81), (3, .int x62), (2, .int r52), (0, .ref (ad 55)), (1, .int a1)]) hx hb dX12_meanFrom_58 hl (by decide) rfl (fun ls hl => ?_)
    refine lv_aload_n hx hb dX12_meanFrom_60 rfl (lv_at hl 6 rfl) ?_
    refine lv_iload_n hx hb dX12_meanFrom_61 rfl (lv_at hl 5 rfl) ?_
    refine lv_iconst (v := 1) hx hb dX12_meanFrom_62 (by decide) ?_
    refine lv_iload hx hb dX12_meanFrom_63 (lv_at hl 1 rfl) ?_
    have w166 : ∀ k : Nat, k < 4 → 0 ≤ (σ161 68 k).toInt ∧ (σ161 68 k).toInt ≤ 3 := (by rw [f163 68 (by omega)]; exact w119)
    have z167 : (σ161 55 25).toInt = (σ115 55 25).toInt := by rw [(show σ161 55 25 = (σ115 55 25) from (by rw [f164 25 (by omega)]))]
    have z168 : (σ161 55 26).toInt = (σ115 55 26).toInt := by rw [(show σ161 55 26 = (σ115 55 26) from (by rw [f164 26 (by omega)]))]
    have z169 : (σ161 55 6).toInt = (σ 55 6).toInt := by rw [(show σ161 55 6 = (σ 55 6) from (by rw [f164 6 (by omega)]; exact (by rw [f118 6 (by omega)]; exact (by rw [f83 6 (by omega)]; exact (by rw [f54 6 (by omega)])))))]
    have w170 : ∀ k : Nat, k < 4 → 0 ≤ (σ80 68 k).toInt ∧ (σ80 68 k).toInt ≤ 3 := w100
    have z172 : (σ80 55 27).toInt = (σ 55 27).toInt := by rw [(show σ80 55 27 = (σ 55 27) from (by rw [f83 27 (by omega)]; exact (by rw [f54 27 (by omega)])))]
    have k171 := jwas (by omega) (w170 0 (by decide)) (w170 1 (by decide)) (w170 2 (by decide)) (w170 3 (by decide)) k126
    rw [← (show σ161 55 6 = σ80 55 6 from (by rw [f164 6 (by omega), f118 6 (by omega)]))] at k171
    refine jcallVv (As := [.int r52, .int 1, .int r116]) (rest := []) ⟨hx, hb, hml, hown, hts⟩ hK hP hA hS hZ (c_X12_goesBack_1 l D cI cL ad zz hJ σ161 τ r52 (r52.toInt) rfl r116 (r116.toInt) rfl w166 (by omega) (by omega) (by omega) k171) cw_RX12_300 (jc_55 cI cL ad σ161 τ) rfl ⟨Nat.le_of_ble_eq_true rfl, Nat.le_of_ble_eq_true rfl⟩ rfl rfl rfl hl.1 rfl (Nat.le_of_ble_eq_true rfl) dX12_meanFrom_65 ⟨Nat.zero_le _, Nat.zero_le _⟩ (fun σ173 τ173 H locs h173 hP hS => ?_)
    obtain ⟨rfl, f175, f176, w177, w178, w179, h173⟩ := h173
    obtain ⟨k180, k181, k182, k183, h173⟩ := h173
    have p184 : jKept σ173 := jKept.fr (by rw [f175 75 (by omega)]) (by rw [f175 76 (by omega)]) (by rw [f175 77 (by omega)]) p165
    have e185 : σ161 69 = σ115 69 := (by rw [f163 69 (by omega)])
    have e186 : σ173 69 = σ80 69 := jback69 w120 e185 w178
    have e187 : σ161 68 = σ115 68 := (by rw [f163 68 (by omega)])
    have e188 : σ161 55 6 = σ80 55 6 := (by rw [f164 6 (by omega), f118 6 (by omega)])
    have w196 : ∀ k : Nat, k < 4 → 0 ≤ (σ80 68 k).toInt ∧ (σ80 68 k).toInt ≤ 3 := w100
    have w197 : ∀ k : Nat, k < 4 → 0 ≤ (σ173 68 k).toInt ∧ (σ173 68 k).toInt ≤ 3 := w177
    have k198 := k183
    rw [e188] at k198
    have D189 := jdig (w196 0 (by decide)) (w196 1 (by decide)) (w196 2 (by decide)) (w196 3 (by decide)) (w197 0 (by decide)) (w197 1 (by decide)) (w197 2 (by decide)) (w197 3 (by decide)) k126 k198
    have e190 : σ173 55 27 = σ80 55 27 := Int32.toInt_inj.mp (by have h9 := D189.1; omega)
    have z199 : (σ161 55 26).toInt = (σ115 55 26).toInt := by rw [(show σ161 55 26 = (σ115 55 26) from (by rw [f164 26 (by omega)]))]
    have z200 : (σ80 55 26).toInt = (σ 55 26).toInt := by rw [(show σ80 55 26 = (σ 55 26) from (by rw [f83 26 (by omega)]; exact (by rw [f54 26 (by omega)])))]
    have z201 : (σ161 55 25).toInt = (σ115 55 25).toInt := by rw [(show σ161 55 25 = (σ115 55 25) from (by rw [f164 25 (by omega)]))]
    have z202 : (σ80 55 25).toInt = (σ 55 25).toInt := by rw [(show σ80 55 25 = (σ 55 25) from (by rw [f83 25 (by omega)]; exact (by rw [f54 25 (by omega)])))]
    have e191 : σ173 55 26 = σ80 55 26 := Int32.toInt_inj.mp (by omega)
    have e192 : σ173 55 25 = σ80 55 25 := Int32.toInt_inj.mp (by omega)
    have z203 : (σ80 55 6).toInt = (σ 55 6).toInt := by rw [(show σ80 55 6 = (σ 55 6) from (by rw [f83 6 (by omega)]; exact (by rw [f54 6 (by omega)])))]
    have e193 : σ173 68 = σ80 68 := jback68 (nb := (σ80 55 6).toInt) (by omega) w121 e187 (fun k hk => w179 k (by rw [e188]; exact hk)) D189.2
    have f194 : (∀ i : Nat, (i < 55 ∨ 55 < i) ∧ (i < 66 ∨ 66 < i) ∧ (i < 74 ∨ 78 < i) → σ173 i = σ80 i) := fun i hi => by
      by_cases h8 : i = 68
      · rw [h8]; exact e193
      by_cases h9 : i = 69
      · rw [h9]; exact e186
      rw [f175 i (by omega), f163 i (by omega), f117 i (by omega)]
    have f195 : ∀ k : Nat, (k < 18 ∨ 18 < k) ∧ (k < 19 ∨ 19 < k) ∧ (k < 20 ∨ 20 < k) ∧ (k < 21 ∨ 21 < k) ∧ (k < 22 ∨ 22 < k) ∧ (k < 37 ∨ 37 < k) → σ173 55 k = σ80 55 k := fun k hk => by
      by_cases h25 : k = 25
      · rw [h25]; exact e192
      by_cases h26 : k = 26
      · rw [h26]; exact e191
      by_cases h27 : k = 27
      · rw [h27]; exact e190
      rw [f176 k (by omega), f164 k (by omega), f118 k (by omega)]
    clear k198 k183 k126
    refine lv_aload_n hx hb dX12_meanFrom_68 rfl (lv_at hl 6 rfl) ?_
    refine lv_iload_n hx hb dX12_meanFrom_69 rfl (lv_at hl 5 rfl) ?_
    refine lv_iconst (v := 0) hx hb dX12_meanFrom_70 (by decide) ?_
    have w204 : ∀ k : Nat, k < 4 → 0 ≤ (σ173 68 k).toInt ∧ (σ173 68 k).toInt ≤ 3 := (by rw [f194 68 (by omega)]; exact w100)
    have z205 : (σ173 55 6).toInt = (σ 55 6).toInt := by rw [(show σ173 55 6 = (σ 55 6) from (by rw [f195 6 (by omega)]; exact (by rw [f83 6 (by omega)]; exact (by rw [f54 6 (by omega)]))))]
    have z206 : (σ173 55 27).toInt = (σ 55 27).toInt := by rw [(show σ173 55 27 = (σ 55 27) from (by rw [f195 27 (by omega)]; exact (by rw [f83 27 (by omega)]; exact (by rw [f54 27 (by omega)]))))]
    have z207 : (σ173 55 25).toInt = (σ 55 25).toInt := by rw [(show σ173 55 25 = (σ 55 25) from (by rw [f195 25 (by omega)]; exact (by rw [f83 25 (by omega)]; exact m59)))]
    have z208 : (σ173 55 26).toInt = (σ 55 26).toInt := by rw [(show σ173 55 26 = (σ 55 26) from (by rw [f195 26 (by omega)]; exact (by rw [f83 26 (by omega)]; exact (by rw [f54 26 (by omega)]))))]
    have z209 : (σ173 68 0).toInt = (σ 68 0).toInt := by rw [(show σ173 68 0 = (σ 68 0) from (by rw [f194 68 (by omega)]; exact (by rw [f82 68 (by omega)]; exact (by rw [f53 68 (by omega)]))))]
    have z210 : (σ173 68 1).toInt = (σ 68 1).toInt := by rw [(show σ173 68 1 = (σ 68 1) from (by rw [f194 68 (by omega)]; exact (by rw [f82 68 (by omega)]; exact (by rw [f53 68 (by omega)]))))]
    have z211 : (σ173 68 2).toInt = (σ 68 2).toInt := by rw [(show σ173 68 2 = (σ 68 2) from (by rw [f194 68 (by omega)]; exact (by rw [f82 68 (by omega)]; exact (by rw [f53 68 (by omega)]))))]
    have z212 : (σ173 68 3).toInt = (σ 68 3).toInt := by rw [(show σ173 68 3 = (σ 68 3) from (by rw [f194 68 (by omega)]; exact (by rw [f82 68 (by omega)]; exact (by rw [f53 68 (by omega)]))))]
    refine jcallV (As := [.int r52, .int 0]) (rest := []) ⟨hx, hb, hml, hown, hts⟩ hK hP hA hS hZ (c_X12_goes_0 l D cI cL ad zz hJ σ173 τ r52 (r52.toInt) rfl w204 (by omega) (by omega) (by omega) (by omega) (by omega)) cw_RX12_296 (jc_55 cI cL ad σ173 τ) rfl ⟨Nat.le_of_ble_eq_true rfl, Nat.le_of_ble_eq_true rfl⟩ rfl rfl rfl hl.1 rfl (Nat.le_of_ble_eq_true rfl) dX12_meanFrom_71 ⟨Nat.zero_le _, Nat.zero_le _⟩ (fun r214 σ213 τ213 H locs h213 hP hS => ?_)
    obtain ⟨rfl, f215, f216, w217, w218, w219, h213⟩ := h213
    obtain ⟨k220, k221, k222, h213⟩ := h213
    have h223 := h213
    obtain ⟨q229, k224, k225, k226, k227, k228⟩ := h223
    refine lv_istore (lv' := [(6, .int r214), (7, .int r162), (5, .int x107), (4, .int r81), (3, .int x62), (2, .int r52), (0, .ref (ad 55)), (1, .int a1)]) hx hb dX12_meanFrom_74 hl (by decide) rfl (fun ls hl => ?_)
    refine lv_aload_n hx hb dX12_meanFrom_76 rfl (lv_at hl 6 rfl) ?_
    refine lv_iload_n hx hb dX12_meanFrom_77 rfl (lv_at hl 7 rfl) ?_
    have z230 : (σ213 55 5).toInt = (σ 55 5).toInt := by rw [(show σ213 55 5 = (σ 55 5) from (by rw [f216 5 (by omega)]; exact (by rw [f195 5 (by omega)]; exact (by rw [f83 5 (by omega)]; exact (by rw [f54 5 (by omega)])))))]
    have z231 : (σ213 55 4).toInt = (σ 55 4).toInt := by rw [(show σ213 55 4 = (σ 55 4) from (by rw [f216 4 (by omega)]; exact (by rw [f195 4 (by omega)]; exact (by rw [f83 4 (by omega)]; exact (by rw [f54 4 (by omega)])))))]
    have w232 : ∀ k : Nat, k < 68 → (-200) ≤ (σ213 56 k).toInt ∧ (σ213 56 k).toInt ≤ 500 := (by rw [f215 56 (by omega)]; exact (by rw [f194 56 (by omega)]; exact w89))
    have w233 : ∀ k : Nat, k < 40 → 0 ≤ (σ213 57 k).toInt ∧ (σ213 57 k).toInt ≤ 67 := (by rw [f215 57 (by omega)]; exact (by rw [f194 57 (by omega)]; exact w90))
    have w234 : ∀ k : Nat, k < 40 → (-200) ≤ (σ213 58 k).toInt ∧ (σ213 58 k).toInt ≤ 500 := (by rw [f215 58 (by omega)]; exact (by rw [f194 58 (by omega)]; exact w91))
    have w235 : ∀ k : Nat, k < 40 → (-200) ≤ (σ213 59 k).toInt ∧ (σ213 59 k).toInt ≤ 500 := (by rw [f215 59 (by omega)]; exact (by rw [f194 59 (by omega)]; exact w92))
    have I236 : jI101 σ213 := ⟨(by omega), (by omega), (by omega), w232, w233, w234, w235⟩
    have z237 : (σ213 55 6).toInt = (σ 55 6).toInt := by rw [(show σ213 55 6 = (σ 55 6) from (by rw [f216 6 (by omega)]; exact (by rw [f195 6 (by omega)]; exact (by rw [f83 6 (by omega)]; exact (by rw [f54 6 (by omega)])))))]
    have w238 : ∀ k : Nat, k < 4 → 0 ≤ (σ213 60 k).toInt ∧ (σ213 60 k).toInt ≤ 50 := (by rw [f215 60 (by omega)]; exact (by rw [f194 60 (by omega)]; exact w95))
    have w239 : ∀ k : Nat, k < 4 → 0 ≤ (σ213 61 k).toInt ∧ (σ213 61 k).toInt ≤ 20 := (by rw [f215 61 (by omega)]; exact (by rw [f194 61 (by omega)]; exact w96))
    have I240 : jI102 σ213 := ⟨(by omega), w238, w239⟩
    have z241 : (σ213 55 9).toInt = (σ 55 9).toInt := by rw [(show σ213 55 9 = (σ 55 9) from (by rw [f216 9 (by omega)]; exact (by rw [f195 9 (by omega)]; exact (by rw [f83 9 (by omega)]; exact (by rw [f54 9 (by omega)])))))]
    have I242 : jI103 σ213 := (show 0 ≤ (σ213 55 9).toInt ∧ (σ213 55 9).toInt ≤ 3 by omega)
    have z243 : (σ213 55 10).toInt = (σ 55 10).toInt := by rw [(show σ213 55 10 = (σ 55 10) from (by rw [f216 10 (by omega)]; exact (by rw [f195 10 (by omega)]; exact (by rw [f83 10 (by omega)]; exact (by rw [f54 10 (by omega)])))))]
    have z244 : (σ213 55 12).toInt = (σ 55 12).toInt := by rw [(show σ213 55 12 = (σ 55 12) from (by rw [f216 12 (by omega)]; exact (by rw [f195 12 (by omega)]; exact (by rw [f83 12 (by omega)]; exact (by rw [f54 12 (by omega)])))))]
    have z245 : (σ213 55 13).toInt = (σ 55 13).toInt := by rw [(show σ213 55 13 = (σ 55 13) from (by rw [f216 13 (by omega)]; exact (by rw [f195 13 (by omega)]; exact (by rw [f83 13 (by omega)]; exact (by rw [f54 13 (by omega)])))))]
    have w246 : ∀ k : Nat, k < 8 → 0 ≤ (σ213 62 k).toInt ∧ (σ213 62 k).toInt ≤ 3 := (by rw [f215 62 (by omega)]; exact (by rw [f194 62 (by omega)]; exact (by rw [f82 62 (by omega)]; exact w60)))
    have w247 : ∀ k : Nat, k < 8 → 0 ≤ (σ213 67 k).toInt ∧ (σ213 67 k).toInt ≤ 3 := (by rw [f215 67 (by omega)]; exact (by rw [f194 67 (by omega)]; exact (by rw [f82 67 (by omega)]; exact (by rw [f53 67 (by omega)]; exact w16))))
    have I248 : jI104 σ213 := ⟨(by omega), (by omega), (by omega), w246, w247⟩
    have z249 : (σ213 55 15).toInt = (σ 55 15).toInt := by rw [(show σ213 55 15 = (σ 55 15) from (by rw [f216 15 (by omega)]; exact (by rw [f195 15 (by omega)]; exact (by rw [f83 15 (by omega)]; exact (by rw [f54 15 (by omega)])))))]
    have w250 : ∀ k : Nat, k < 2 → (-1) ≤ (σ213 65 k).toInt ∧ (σ213 65 k).toInt ≤ 80 := (by rw [f215 65 (by omega)]; exact (by rw [f194 65 (by omega)]; exact (by rw [f82 65 (by omega)]; exact w77)))
    have I251 : jI105 σ213 := ⟨(by omega), w250⟩
    have z252 : (σ213 55 32).toInt = (σ 55 32).toInt := by rw [(show σ213 55 32 = (σ 55 32) from (by rw [f216 32 (by omega)]; exact (by rw [f195 32 (by omega)]; exact (by rw [f83 32 (by omega)]; exact (by rw [f54 32 (by omega)])))))]
    have w253 : ∀ k : Nat, k < 20 → 0 ≤ (σ213 70 k).toInt ∧ (σ213 70 k).toInt ≤ 6 := (by rw [f215 70 (by omega)]; exact (by rw [f194 70 (by omega)]; exact (by rw [f82 70 (by omega)]; exact (by rw [f53 70 (by omega)]; exact w20))))
    have w254 : ∀ k : Nat, k < 20 → 0 ≤ (σ213 71 k).toInt ∧ (σ213 71 k).toInt ≤ 8 := (by rw [f215 71 (by omega)]; exact (by rw [f194 71 (by omega)]; exact (by rw [f82 71 (by omega)]; exact (by rw [f53 71 (by omega)]; exact w21))))
    have w255 : ∀ k : Nat, k < 160 → 0 ≤ (σ213 72 k).toInt ∧ (σ213 72 k).toInt ≤ 3 := (by rw [f215 72 (by omega)]; exact (by rw [f194 72 (by omega)]; exact (by rw [f82 72 (by omega)]; exact (by rw [f53 72 (by omega)]; exact w22))))
    have I256 : jI106 σ213 := ⟨(by omega), w253, w254, w255⟩
    have I257 : jI120 σ213 := ⟨(by omega), (by omega), (by omega), (by omega), (by omega), w217⟩
    have p258 : jKept σ213 := jKept.fr (by rw [f215 75 (by omega)]) (by rw [f215 76 (by omega)]) (by rw [f215 77 (by omega)]) p184
    refine jcallV (As := [.int a1]) (rest := []) ⟨hx, hb, hml, hown, hts⟩ hK hP hA hS hZ (c_X12_meanFrom_0 l D cI cL ad zz hJ σ213 τ a1 (A1) t1 I236 I240 I242 I248 I251 I256 I257 p258 (by omega) (by omega)) cw_RX12_324 (jc_55 cI cL ad σ213 τ) rfl ⟨Nat.le_of_ble_eq_true rfl, Nat.le_of_ble_eq_true rfl⟩ rfl rfl rfl hl.1 rfl (Nat.le_of_ble_eq_true rfl) dX12_meanFrom_78 ⟨Nat.zero_le _, Nat.zero_le _⟩ (fun r260 σ259 τ259 H locs h259 hP hS => ?_)
    obtain ⟨rfl, f261, f262, p263, h259⟩ := h259
    refine lv_istore (lv' := [(8, .int r260), (6, .int r214), (7, .int r162), (5, .int x107), (4, .int r81), (3, .int x62), (2, .int r52), (0, .ref (ad 55)), (1, .int a1)]) hx hb dX12_meanFrom_81 hl (by decide) rfl (fun ls hl => ?_)
    refine lv_aload_n hx hb dX12_meanFrom_83 rfl (lv_at hl 7 rfl) ?_
    refine lv_iload_n hx hb dX12_meanFrom_84 rfl (lv_at hl 6 rfl) ?_
    refine lv_iconst (v := 0) hx hb dX12_meanFrom_85 (by decide) ?_
    refine lv_iload hx hb dX12_meanFrom_86 (lv_at hl 1 rfl) ?_
    have w264 : ∀ k : Nat, k < 4 → 0 ≤ (σ259 68 k).toInt ∧ (σ259 68 k).toInt ≤ 3 := (by rw [f261 68 (by omega)]; exact w217)
    have z265 : (σ259 55 25).toInt = (σ213 55 25).toInt := by rw [(show σ259 55 25 = (σ213 55 25) from (by rw [f262 25 (by omega)]))]
    have z266 : (σ259 55 26).toInt = (σ213 55 26).toInt := by rw [(show σ259 55 26 = (σ213 55 26) from (by rw [f262 26 (by omega)]))]
    have z267 : (σ259 55 6).toInt = (σ 55 6).toInt := by rw [(show σ259 55 6 = (σ 55 6) from (by rw [f262 6 (by omega)]; exact (by rw [f216 6 (by omega)]; exact (by rw [f195 6 (by omega)]; exact (by rw [f83 6 (by omega)]; exact (by rw [f54 6 (by omega)]))))))]
    have w268 : ∀ k : Nat, k < 4 → 0 ≤ (σ173 68 k).toInt ∧ (σ173 68 k).toInt ≤ 3 := w204
    have z270 : (σ173 55 27).toInt = (σ 55 27).toInt := by rw [(show σ173 55 27 = (σ 55 27) from (by rw [f195 27 (by omega)]; exact (by rw [f83 27 (by omega)]; exact (by rw [f54 27 (by omega)]))))]
    have k269 := jwas (by omega) (w268 0 (by decide)) (w268 1 (by decide)) (w268 2 (by decide)) (w268 3 (by decide)) k224
    rw [← (show σ259 55 6 = σ173 55 6 from (by rw [f262 6 (by omega), f216 6 (by omega)]))] at k269
    refine jcallVv (As := [.int r52, .int 0, .int r214]) (rest := []) ⟨hx, hb, hml, hown, hts⟩ hK hP hA hS hZ (c_X12_goesBack_0 l D cI cL ad zz hJ σ259 τ r52 (r52.toInt) rfl r214 (r214.toInt) rfl w264 (by omega) (by omega) (by omega) k269) cw_RX12_300 (jc_55 cI cL ad σ259 τ) rfl ⟨Nat.le_of_ble_eq_true rfl, Nat.le_of_ble_eq_true rfl⟩ rfl rfl rfl hl.1 rfl (Nat.le_of_ble_eq_true rfl) dX12_meanFrom_88 ⟨Nat.zero_le _, Nat.zero_le _⟩ (fun σ271 τ271 H locs h271 hP hS => ?_)
    obtain ⟨rfl, f273, f274, w275, w276, w277, h271⟩ := h271
    obtain ⟨k278, k279, k280, k281, h271⟩ := h271
    have p282 : jKept σ271 := jKept.fr (by rw [f273 75 (by omega)]) (by rw [f273 76 (by omega)]) (by rw [f273 77 (by omega)]) p263
    have e283 : σ259 69 = σ213 69 := (by rw [f261 69 (by omega)])
    have e284 : σ271 69 = σ173 69 := jback69 w218 e283 w276
    have e285 : σ259 68 = σ213 68 := (by rw [f261 68 (by omega)])
    have e286 : σ259 55 6 = σ173 55 6 := (by rw [f262 6 (by omega), f216 6 (by omega)])
    have w294 : ∀ k : Nat, k < 4 → 0 ≤ (σ173 68 k).toInt ∧ (σ173 68 k).toInt ≤ 3 := w204
    have w295 : ∀ k : Nat, k < 4 → 0 ≤ (σ271 68 k).toInt ∧ (σ271 68 k).toInt ≤ 3 := w275
    have k296 := k281
    rw [e286] at k296
    have D287 := jdig (w294 0 (by decide)) (w294 1 (by decide)) (w294 2 (by decide)) (w294 3 (by decide)) (w295 0 (by decide)) (w295 1 (by decide)) (w295 2 (by decide)) (w295 3 (by decide)) k224 k296
    have e288 : σ271 55 27 = σ173 55 27 := Int32.toInt_inj.mp (by have h9 := D287.1; omega)
    have z297 : (σ259 55 26).toInt = (σ213 55 26).toInt := by rw [(show σ259 55 26 = (σ213 55 26) from (by rw [f262 26 (by omega)]))]
    have z298 : (σ173 55 26).toInt = (σ 55 26).toInt := by rw [(show σ173 55 26 = (σ 55 26) from (by rw [f195 26 (by omega)]; exact (by rw [f83 26 (by omega)]; exact (by rw [f54 26 (by omega)]))))]
    have z299 : (σ259 55 25).toInt = (σ213 55 25).toInt := by rw [(show σ259 55 25 = (σ213 55 25) from (by rw [f262 25 (by omega)]))]
    have z300 : (σ173 55 25).toInt = (σ 55 25).toInt := by rw [(show σ173 55 25 = (σ 55 25) from (by rw [f195 25 (by omega)]; exact (by rw [f83 25 (by omega)]; exact (by rw [f54 25 (by omega)]))))]
    have e289 : σ271 55 26 = σ173 55 26 := Int32.toInt_inj.mp (by omega)
    have e290 : σ271 55 25 = σ173 55 25 := Int32.toInt_inj.mp (by omega)
    have z301 : (σ173 55 6).toInt = (σ 55 6).toInt := by rw [(show σ173 55 6 = (σ 55 6) from (by rw [f195 6 (by omega)]; exact (by rw [f83 6 (by omega)]; exact (by rw [f54 6 (by omega)]))))]
    have e291 : σ271 68 = σ173 68 := jback68 (nb := (σ173 55 6).toInt) (by omega) w219 e285 (fun k hk => w277 k (by rw [e286]; exact hk)) D287.2
    have f292 : (∀ i : Nat, (i < 55 ∨ 55 < i) ∧ (i < 66 ∨ 66 < i) ∧ (i < 74 ∨ 78 < i) → σ271 i = σ173 i) := fun i hi => by
      by_cases h8 : i = 68
      · rw [h8]; exact e291
      by_cases h9 : i = 69
      · rw [h9]; exact e284
      rw [f273 i (by omega), f261 i (by omega), f215 i (by omega)]
    have f293 : ∀ k : Nat, (k < 18 ∨ 18 < k) ∧ (k < 19 ∨ 19 < k) ∧ (k < 20 ∨ 20 < k) ∧ (k < 21 ∨ 21 < k) ∧ (k < 22 ∨ 22 < k) ∧ (k < 37 ∨ 37 < k) → σ271 55 k = σ173 55 k := fun k hk => by
      by_cases h25 : k = 25
      · rw [h25]; exact e290
      by_cases h26 : k = 26
      · rw [h26]; exact e289
      by_cases h27 : k = 27
      · rw [h27]; exact e288
      rw [f274 k (by omega), f262 k (by omega), f216 k (by omega)]
    clear k296 k281 k224
    refine lv_iload hx hb dX12_meanFrom_91 (lv_at hl 3 rfl) ?_
    refine lv_sipush (v := 1000) hx hb dX12_meanFrom_93 (by decide) ?_
    refine lv_aload_n hx hb dX12_meanFrom_96 rfl (lv_at hl 7 rfl) ?_
    refine va_get (D := D) hx hb hts inlX12 hown hK hP 55 (jc_55 cI cL ad σ271 τ) rfl 13 (by decide) (hts _ kw_15_14) (fun _ h9 => h9) rfl dX12_meanFrom_97 ?_
    have m302 : σ271 55 13 = (σ 55 13) := (by rw [f293 13 (by omega)]; exact (by rw [f195 13 (by omega)]; exact (by rw [f83 13 (by omega)]; exact (by rw [f54 13 (by omega)]))))
    refine jtopr m302 ?_
    have g303 := jrg (rfl : (σ 55 13).toInt = (σ 55 13).toInt)
    refine lv_isub hx hb dX12_meanFrom_100 ?_
    refine lv_topi (fun x304 ex304 => ?_)
    have tx304 : x304.toInt = -(σ 55 13).toInt + 1000 := (jsub ex304 jz_1000 rfl (by omega) (by omega)).trans (by omega)
    refine lv_i2l (v := x304.toInt64) hx hb dX12_meanFrom_101 rfl ?_
    refine lv_iload hx hb dX12_meanFrom_102 (lv_at hl 2 rfl) ?_
    refine lv_iload hx hb dX12_meanFrom_104 (lv_at hl 0 rfl) ?_
    refine lv_iload hx hb dX12_meanFrom_106 (lv_at hl 4 rfl) ?_
    refine jcallS (As := [.int r162, .int r260, .int r81]) (rest := [.long x304.toInt64, .int x107]) ⟨hx, hb, hml, hown, hts⟩ hK hP hA hS hZ (c_X12_mixed l D cI cL ad zz hJ σ271 τ r162 (r162.toInt) rfl r260 (r260.toInt) rfl r81 (r81.toInt) rfl) cw_RX12_304 ⟨Nat.le_of_ble_eq_true rfl, Nat.le_of_ble_eq_true rfl⟩ rfl rfl rfl hl.1 rfl (Nat.le_of_ble_eq_true rfl) dX12_meanFrom_108 ⟨Nat.zero_le _, Nat.zero_le _⟩ (fun r306 σ305 τ305 H locs h305 hP hS => ?_)
    obtain ⟨⟨rfl, rfl⟩, h305⟩ := h305
    refine lv_i2l (v := r306.toInt64) hx hb dX12_meanFrom_111 rfl ?_
    refine lv_lmul hx hb dX12_meanFrom_112 ?_
    refine lv_topl (fun lx307 elx307 => ?_)
    refine lv_ldc2 (v := 1000) hx hb hown (hts _ kw_34_19) dX12_meanFrom_113 ?_
    refine lv_ldiv hx hb dX12_meanFrom_116 (by decide) ?_
    refine lv_topl (fun lx308 elx308 => ?_)
    refine lv_l2i hx hb dX12_meanFrom_117 rfl ?_
    refine lv_topi (fun x309 ex309 => ?_)
    have gx309 := jrg (rfl : x309.toInt = x309.toInt)
    have g310 := jrg (rfl : x309.toInt = x309.toInt)
    refine lv_iadd hx hb dX12_meanFrom_118 ?_
    refine lv_topi (fun x311 ex311 => ?_)
    have gx311 := jrg (rfl : x311.toInt = x311.toInt)
    exact hret x311 σ271 τ _ _ _ _ rfl ⟨rfl, (fun i hi => by rw [f292 i (by omega), f194 i (by omega), f82 i (by omega), f53 i (by omega)]), (fun k hk => by rw [f293 k (by omega), f195 k (by omega), f83 k (by omega), f54 k (by omega)]), p282, trivial⟩ hP hS dX12_meanFrom_119
set_option maxHeartbeats 4000000 in
set_option maxRecDepth 100000 in
theorem c_X12_meanFrom_2 (l : Launch) (D : va_G) (cI cL : ClassId) (ad zz : Nat → Nat) (hJ : jD ad) (σ : Nat → Nat → Int32) (τ : Nat → Nat → Int64) (a1 : Int32) (A1 : Int) (t1 : a1.toInt = A1) (hI101 : jI101 σ) (hI102 : jI102 σ) (hI103 : jI103 σ) (hI104 : jI104 σ) (hI105 : jI105 σ) (hI106 : jI106 σ) (hI120 : jI120 σ) (hs_jKept : jKept σ) (hp0 : 0 ≤ A1 ∧ A1 ≤ 19) (hp1 : (σ 55 12).toInt - (σ 55 26).toInt ≤ 2) : jM l yX12_meanFrom cX12_meanFrom 9 (some .int) ({ frames := 64, cells := 0, slots := 0, locals := 1541 }) D cI cL ad zz [.ref (ad 55), .int a1] σ τ (fun r σ' τ' => τ = τ' ∧ (∀ i : Nat, (i < 55 ∨ 55 < i) ∧ (i < 66 ∨ 66 < i) ∧ (i < 74 ∨ 78 < i) → σ' i = σ i) ∧ (∀ k : Nat, (k < 18 ∨ 18 < k) ∧ (k < 19 ∨ 19 < k) ∧ (k < 20 ∨ 20 < k) ∧ (k < 21 ∨ 21 < k) ∧ (k < 22 ∨ 22 < k) ∧ (k < 37 ∨ 37 < k) → σ' 55 k = σ 55 k) ∧ (jKept σ') ∧ True) := by
  refine jM.of hJ (by decide +kernel) (nt := .int) rfl (Nat.le_of_ble_eq_true rfl) ?_
  intro p e s m args below meth c Q ls hC hret hl hP
  obtain ⟨hx, hb, hr, hml, hown, hts, hK, -, hlocks, hZ⟩ := hC
  have hown : s.vm.findClass RX12 = some m.cls := hown
  have hS : va_S (jA ad) s.heap s.heap [] := va_S.rf
  have hA : ∀ q, jA ad q → jA ad q := fun _ h => h
  have hl : lv_has ls 9 [(0, .ref (ad 55)), (1, .int a1)] := hl
  have g1 := jrg t1
  obtain ⟨i1, i2, i3, w4, w5, w6, w7⟩ : (0 ≤ (σ 55 5).toInt) ∧ ((σ 55 5).toInt ≤ (σ 55 4).toInt) ∧ ((σ 55 4).toInt ≤ 40) ∧ (∀ k : Nat, k < 68 → (-200) ≤ (σ 56 k).toInt ∧ (σ 56 k).toInt ≤ 500) ∧ (∀ k : Nat, k < 40 → 0 ≤ (σ 57 k).toInt ∧ (σ 57 k).toInt ≤ 67) ∧ (∀ k : Nat, k < 40 → (-200) ≤ (σ 58 k).toInt ∧ (σ 58 k).toInt ≤ 500) ∧ (∀ k : Nat, k < 40 → (-200) ≤ (σ 59 k).toInt ∧ (σ 59 k).toInt ≤ 500) := id hI101
  obtain ⟨i8, w9, w10⟩ : (0 ≤ (σ 55 6).toInt ∧ (σ 55 6).toInt ≤ 4) ∧ (∀ k : Nat, k < 4 → 0 ≤ (σ 60 k).toInt ∧ (σ 60 k).toInt ≤ 50) ∧ (∀ k : Nat, k < 4 → 0 ≤ (σ 61 k).toInt ∧ (σ 61 k).toInt ≤ 20) := id hI102
  have i11 : 0 ≤ (σ 55 9).toInt ∧ (σ 55 9).toInt ≤ 3 := hI103
  obtain ⟨i12, i13, i14, w15, w16⟩ : (1 ≤ (σ 55 10).toInt ∧ (σ 55 10).toInt ≤ 8) ∧ (1 ≤ (σ 55 12).toInt ∧ (σ 55 12).toInt ≤ 12) ∧ (0 ≤ (σ 55 13).toInt ∧ (σ 55 13).toInt ≤ 999) ∧ (∀ k : Nat, k < 8 → 0 ≤ (σ 62 k).toInt ∧ (σ 62 k).toInt ≤ 3) ∧ (∀ k : Nat, k < 8 → 0 ≤ (σ 67 k).toInt ∧ (σ 67 k).toInt ≤ 3) := id hI104
  obtain ⟨i17, w18⟩ : (0 ≤ (σ 55 15).toInt ∧ (σ 55 15).toInt ≤ 80) ∧ (∀ k : Nat, k < 2 → (-1) ≤ (σ 65 k).toInt ∧ (σ 65 k).toInt ≤ 80) := id hI105
  obtain ⟨i19, w20, w21, w22⟩ : (0 ≤ (σ 55 32).toInt ∧ (σ 55 32).toInt ≤ 20) ∧ (∀ k : Nat, k < 20 → 0 ≤ (σ 70 k).toInt ∧ (σ 70 k).toInt ≤ 6) ∧ (∀ k : Nat, k < 20 → 0 ≤ (σ 71 k).toInt ∧ (σ 71 k).toInt ≤ 8) ∧ (∀ k : Nat, k < 160 → 0 ≤ (σ 72 k).toInt ∧ (σ 72 k).toInt ≤ 3) := id hI106
  obtain ⟨i23, i24, i25, i26, i27, w28⟩ : (0 ≤ (σ 55 25).toInt) ∧ ((σ 55 25).toInt ≤ (σ 55 10).toInt) ∧ (0 ≤ (σ 55 26).toInt) ∧ ((σ 55 26).toInt ≤ (σ 55 12).toInt) ∧ ((-1) ≤ (σ 55 27).toInt ∧ (σ 55 27).toInt ≤ 3) ∧ (∀ k : Nat, k < 4 → 0 ≤ (σ 68 k).toInt ∧ (σ 68 k).toInt ≤ 3) := id hI120
  refine lv_aload_n hx hb dX12_meanFrom_0 rfl (lv_at hl 0 rfl) ?_
  have I29 : jI102 σ := ⟨(by omega), w9, w10⟩
  have I30 : jI104 σ := ⟨(by omega), (by omega), (by omega), w15, w16⟩
  have I31 : jI120 σ := ⟨(by omega), (by omega), (by omega), (by omega), (by omega), w28⟩
  refine jcallV (As := []) (rest := []) ⟨hx, hb, hml, hown, hts⟩ hK hP hA hS hZ (c_X12_isEnded l D cI cL ad zz hJ σ τ I29 I30 I31) cw_RX12_307 (jc_55 cI cL ad σ τ) rfl ⟨Nat.le_of_ble_eq_true rfl, Nat.le_of_ble_eq_true rfl⟩ rfl rfl rfl hl.1 rfl (Nat.le_of_ble_eq_true rfl) dX12_meanFrom_1 ⟨Nat.zero_le _, Nat.zero_le _⟩ (fun r33 σ32 τ32 H locs h32 hP hS => ?_)
  obtain ⟨⟨rfl, rfl⟩, h32⟩ := h32
  rcases h32 with h34 | h35
  · obtain ⟨q37, k36⟩ := h34
    have q37 := q37.symm
    subst q37
    refine lv_if_eq (tgt := 9) hx hb dX12_meanFrom_4 (by decide) (fun c => absurd c (by decide)) (fun _ => ?_)
    refine lv_iconst (v := 0) hx hb dX12_meanFrom_7 (by decide) ?_
    exact hret 0 σ τ _ _ _ _ rfl ⟨rfl, (fun _ _ => rfl), (fun _ _ => rfl), hs_jKept, trivial⟩ hP hS dX12_meanFrom_8
  · obtain ⟨q41, k38, k39, k40⟩ := h35
    have q41 := q41.symm
    subst q41
    obtain ⟨B42, k43, k44, w45⟩ := k40
    refine lv_if_eq (tgt := 9) hx hb dX12_meanFrom_4 (by decide) (fun _ => ?_) (fun c => absurd (by decide) c)
    refine lv_aload_n hx hb dX12_meanFrom_9 rfl (lv_at hl 0 rfl) ?_
    refine lv_iload_n hx hb dX12_meanFrom_10 rfl (lv_at hl 1 rfl) ?_
    have p46 : jmb σ B42 = 1 := (jmb_fr rfl rfl rfl rfl rfl B42).trans w45
    have I47 : jI101 σ := ⟨(by omega), (by omega), (by omega), w4, w5, w6, w7⟩
    have I48 : jI103 σ := (show 0 ≤ (σ 55 9).toInt ∧ (σ 55 9).toInt ≤ 3 by omega)
    have I49 : jI105 σ := ⟨(by omega), w18⟩
    have I50 : jI106 σ := ⟨(by omega), w20, w21, w22⟩
    refine jcallV (As := [.int a1]) (rest := []) ⟨hx, hb, hml, hown, hts⟩ hK hP hA hS hZ (c_X12_putsOn l D cI cL ad zz hJ σ τ B42 p46 a1 (A1) t1 I47 I29 I48 I30 I49 I50 I31 hs_jKept (by omega) (by omega) (by omega) (by omega) (by omega)) cw_RX12_321 (jc_55 cI cL ad σ τ) rfl ⟨Nat.le_of_ble_eq_true rfl, Nat.le_of_ble_eq_true rfl⟩ rfl rfl rfl hl.1 rfl (Nat.le_of_ble_eq_true rfl) dX12_meanFrom_11 ⟨Nat.zero_le _, Nat.zero_le _⟩ (fun r52 σ51 τ51 H locs h51 hP hS => ?_)
    obtain ⟨rfl, f53, f54, p55, h51⟩ := h51
    have h56 := h51
    obtain ⟨q58, k57⟩ := h56
    refine lv_istore_n (lv' := [(2, .int r52), (0, .ref (ad 55)), (1, .int a1)]) hx hb dX12_meanFrom_14 rfl hl (by decide) rfl (fun ls hl => ?_)
    refine lv_aload_n hx hb dX12_meanFrom_15 rfl (lv_at hl 1 rfl) ?_
    refine va_get (D := D) hx hb hts inlX12 hown hK hP 55 (jc_55 cI cL ad σ51 τ) rfl 11 (by decide) (hts _ kw_7_8) (fun _ h9 => h9) rfl dX12_meanFrom_16 ?_
    refine lv_aload_n hx hb dX12_meanFrom_19 rfl (lv_at hl 1 rfl) ?_
    refine va_get (D := D) hx hb hts inlX12 hown hK hP 55 (jc_55 cI cL ad σ51 τ) rfl 25 (by decide) (hts _ kw_23_6) (fun _ h9 => h9) rfl dX12_meanFrom_20 ?_
    have m59 : σ51 55 25 = (σ 55 25) := (by rw [f54 25 (by omega)])
    refine jtopr m59 ?_
    refine jald hx hb hK hP (jc_62 cI cL ad σ51 τ) (jin rfl (by omega) (by omega)) dX12_meanFrom_23 ?_
    have w60 : ∀ k : Nat, k < 8 → 0 ≤ (σ51 62 k).toInt ∧ (σ51 62 k).toInt ≤ 3 := (by rw [f53 62 (by omega)]; exact w15)
    have g61 := w60 _ (jnat (x := (σ 55 25)) rfl (n := 8) (by omega) (by decide))
    refine lv_topi (fun x62 ex62 => ?_)
    rw [← ex62] at g61
    refine lv_istore_n (lv' := [(3, .int x62), (2, .int r52), (0, .ref (ad 55)), (1, .int a1)]) hx hb dX12_meanFrom_24 rfl hl (by decide) rfl (fun ls hl => ?_)
    refine lv_aload_n hx hb dX12_meanFrom_25 rfl (lv_at hl 2 rfl) ?_
    refine lv_iload_n hx hb dX12_meanFrom_26 rfl (lv_at hl 1 rfl) ?_
    refine lv_iload_n hx hb dX12_meanFrom_27 rfl (lv_at hl 0 rfl) ?_
    have z63 : (σ51 55 5).toInt = (σ 55 5).toInt := by rw [(show σ51 55 5 = (σ 55 5) from (by rw [f54 5 (by omega)]))]
    have z64 : (σ51 55 4).toInt = (σ 55 4).toInt := by rw [(show σ51 55 4 = (σ 55 4) from (by rw [f54 4 (by omega)]))]
    have w65 : ∀ k : Nat, k < 68 → (-200) ≤ (σ51 56 k).toInt ∧ (σ51 56 k).toInt ≤ 500 := (by rw [f53 56 (by omega)]; exact w4)
    have w66 : ∀ k : Nat, k < 40 → 0 ≤ (σ51 57 k).toInt ∧ (σ51 57 k).toInt ≤ 67 := (by rw [f53 57 (by omega)]; exact w5)
    have w67 : ∀ k : Nat, k < 40 → (-200) ≤ (σ51 58 k).toInt ∧ (σ51 58 k).toInt ≤ 500 := (by rw [f53 58 (by omega)]; exact w6)
    have w68 : ∀ k : Nat, k < 40 → (-200) ≤ (σ51 59 k).toInt ∧ (σ51 59 k).toInt ≤ 500 := (by rw [f53 59 (by omega)]; exact w7)
    have I69 : jI101 σ51 := ⟨(by omega), (by omega), (by omega), w65, w66, w67, w68⟩
    have z70 : (σ51 55 6).toInt = (σ 55 6).toInt := by rw [(show σ51 55 6 = (σ 55 6) from (by rw [f54 6 (by omega)]))]
    have w71 : ∀ k : Nat, k < 4 → 0 ≤ (σ51 60 k).toInt ∧ (σ51 60 k).toInt ≤ 50 := (by rw [f53 60 (by omega)]; exact w9)
    have w72 : ∀ k : Nat, k < 4 → 0 ≤ (σ51 61 k).toInt ∧ (σ51 61 k).toInt ≤ 20 := (by rw [f53 61 (by omega)]; exact w10)
    have I73 : jI102 σ51 := ⟨(by omega), w71, w72⟩
    have z74 : (σ51 55 9).toInt = (σ 55 9).toInt := by rw [(show σ51 55 9 = (σ 55 9) from (by rw [f54 9 (by omega)]))]
    have I75 : jI103 σ51 := (show 0 ≤ (σ51 55 9).toInt ∧ (σ51 55 9).toInt ≤ 3 by omega)
    have z76 : (σ51 55 15).toInt = (σ 55 15).toInt := by rw [(show σ51 55 15 = (σ 55 15) from (by rw [f54 15 (by omega)]))]
    have w77 : ∀ k : Nat, k < 2 → (-1) ≤ (σ51 65 k).toInt ∧ (σ51 65 k).toInt ≤ 80 := (by rw [f53 65 (by omega)]; exact w18)
    have I78 : jI105 σ51 := ⟨(by omega), w77⟩
    have w79 : ∀ k : Nat, k < 4 → 0 ≤ (σ51 68 k).toInt ∧ (σ51 68 k).toInt ≤ 3 := (by rw [f53 68 (by omega)]; exact w28)
    refine jcallV (As := [.int r52, .int x62]) (rest := []) ⟨hx, hb, hml, hown, hts⟩ hK hP hA hS hZ (c_X12_outBy l D cI cL ad zz hJ σ51 τ r52 (r52.toInt) rfl x62 (x62.toInt) rfl I69 I73 I75 I78 w79 (by omega) (by omega)) cw_RX12_259 (jc_55 cI cL ad σ51 τ) rfl ⟨Nat.le_of_ble_eq_true rfl, Nat.le_of_ble_eq_true rfl⟩ rfl rfl rfl hl.1 rfl (Nat.le_of_ble_eq_true rfl) dX12_meanFrom_28 ⟨Nat.zero_le _, Nat.zero_le _⟩ (fun r81 σ80 τ80 H locs h80 hP hS => ?_)
    obtain ⟨rfl, f82, f83, h80⟩ := h80
    have h84 := h80
    obtain ⟨q86, k85⟩ := h84
    refine lv_istore (lv' := [(4, .int r81), (3, .int x62), (2, .int r52), (0, .ref (ad 55)), (1, .int a1)]) hx hb dX12_meanFrom_31 hl (by decide) rfl (fun ls hl => ?_)
    refine lv_sipush (v := 1000) hx hb dX12_meanFrom_33 (by decide) ?_
    refine lv_aload_n hx hb dX12_meanFrom_36 rfl (lv_at hl 3 rfl) ?_
    refine lv_iload_n hx hb dX12_meanFrom_37 rfl (lv_at hl 2 rfl) ?_
    refine lv_iload_n hx hb dX12_meanFrom_38 rfl (lv_at hl 1 rfl) ?_
    have z87 : (σ80 55 5).toInt = (σ 55 5).toInt := by rw [(show σ80 55 5 = (σ 55 5) from (by rw [f83 5 (by omega)]; exact (by rw [f54 5 (by omega)])))]
    have z88 : (σ80 55 4).toInt = (σ 55 4).toInt := by rw [(show σ80 55 4 = (σ 55 4) from (by rw [f83 4 (by omega)]; exact (by rw [f54 4 (by omega)])))]
    have w89 : ∀ k : Nat, k < 68 → (-200) ≤ (σ80 56 k).toInt ∧ (σ80 56 k).toInt ≤ 500 := (by rw [f82 56 (by omega)]; exact w65)
    have w90 : ∀ k : Nat, k < 40 → 0 ≤ (σ80 57 k).toInt ∧ (σ80 57 k).toInt ≤ 67 := (by rw [f82 57 (by omega)]; exact w66)
    have w91 : ∀ k : Nat, k < 40 → (-200) ≤ (σ80 58 k).toInt ∧ (σ80 58 k).toInt ≤ 500 := (by rw [f82 58 (by omega)]; exact w67)
    have w92 : ∀ k : Nat, k < 40 → (-200) ≤ (σ80 59 k).toInt ∧ (σ80 59 k).toInt ≤ 500 := (by rw [f82 59 (by omega)]; exact w68)
    have I93 : jI101 σ80 := ⟨(by omega), (by omega), (by omega), w89, w90, w91, w92⟩
    have z94 : (σ80 55 6).toInt = (σ 55 6).toInt := by rw [(show σ80 55 6 = (σ 55 6) from (by rw [f83 6 (by omega)]; exact (by rw [f54 6 (by omega)])))]
    have w95 : ∀ k : Nat, k < 4 → 0 ≤ (σ80 60 k).toInt ∧ (σ80 60 k).toInt ≤ 50 := (by rw [f82 60 (by omega)]; exact w71)
    have w96 : ∀ k : Nat, k < 4 → 0 ≤ (σ80 61 k).toInt ∧ (σ80 61 k).toInt ≤ 20 := (by rw [f82 61 (by omega)]; exact w72)
    have I97 : jI102 σ80 := ⟨(by omega), w95, w96⟩
    have z98 : (σ80 55 9).toInt = (σ 55 9).toInt := by rw [(show σ80 55 9 = (σ 55 9) from (by rw [f83 9 (by omega)]; exact (by rw [f54 9 (by omega)])))]
    have I99 : jI103 σ80 := (show 0 ≤ (σ80 55 9).toInt ∧ (σ80 55 9).toInt ≤ 3 by omega)
    have w100 : ∀ k : Nat, k < 4 → 0 ≤ (σ80 68 k).toInt ∧ (σ80 68 k).toInt ≤ 3 := (by rw [f82 68 (by omega)]; exact w79)
    refine jcallV (As := [.int r52, .int x62]) (rest := [.int 1000]) ⟨hx, hb, hml, hown, hts⟩ hK hP hA hS hZ (c_X12_runsBy l D cI cL ad zz hJ σ80 τ r52 (r52.toInt) rfl x62 (x62.toInt) rfl I93 I97 I99 w100 (by omega) (by omega)) cw_RX12_262 (jc_55 cI cL ad σ80 τ) rfl ⟨Nat.le_of_ble_eq_true rfl, Nat.le_of_ble_eq_true rfl⟩ rfl rfl rfl hl.1 rfl (Nat.le_of_ble_eq_true rfl) dX12_meanFrom_39 ⟨Nat.zero_le _, Nat.zero_le _⟩ (fun r102 σ101 τ101 H locs h101 hP hS => ?_)
    obtain ⟨⟨rfl, rfl⟩, h101⟩ := h101
    have h103 := h101
    obtain ⟨q105, k104⟩ := h103
    have g106 := jrg (rfl : r102.toInt = r102.toInt)
    refine lv_imul hx hb dX12_meanFrom_42 ?_
    refine lv_topi (fun x107 ex107 => ?_)
    have tx107 : x107.toInt = 1000 * r102.toInt := (jmul ex107 jz_1000 rfl (by omega) (by omega)).trans (by omega)
    refine lv_istore (lv' := [(5, .int x107), (4, .int r81), (3, .int x62), (2, .int r52), (0, .ref (ad 55)), (1, .int a1)]) hx hb dX12_meanFrom_43 hl (by decide) rfl (fun ls hl => ?_)
    refine lv_aload_n hx hb dX12_meanFrom_45 rfl (lv_at hl 4 rfl) ?_
    refine lv_iload_n hx hb dX12_meanFrom_46 rfl (lv_at hl 3 rfl) ?_
    refine lv_iconst (v := 1) hx hb dX12_meanFrom_47 (by decide) ?_
    have z108 : (σ80 55 27).toInt = (σ 55 27).toInt := by rw [(show σ80 55 27 = (σ 55 27) from (by rw [f83 27 (by omega)]; exact (by rw [f54 27 (by omega)])))]
    have z109 : (σ80 55 25).toInt = (σ 55 25).toInt := by rw [(show σ80 55 25 = (σ 55 25) from (by rw [f83 25 (by omega)]; exact m59))]
    have z110 : (σ80 55 26).toInt = (σ 55 26).toInt := by rw [(show σ80 55 26 = (σ 55 26) from (by rw [f83 26 (by omega)]; exact (by rw [f54 26 (by omega)])))]
    have z111 : (σ80 68 0).toInt = (σ 68 0).toInt := by rw [(show σ80 68 0 = (σ 68 0) from (by rw [f82 68 (by omega)]; exact (by rw [f53 68 (by omega)])))]
    have z112 : (σ80 68 1).toInt = (σ 68 1).toInt := by rw [(show σ80 68 1 = (σ 68 1) from (by rw [f82 68 (by omega)]; exact (by rw [f53 68 (by omega)])))]
    have z113 : (σ80 68 2).toInt = (σ 68 2).toInt := by rw [(show σ80 68 2 = (σ 68 2) from (by rw [f82 68 (by omega)]; exact (by rw [f53 68 (by omega)])))]
    have z114 : (σ80 68 3).toInt = (σ 68 3).toInt := by rw [(show σ80 68 3 = (σ 68 3) from (by rw [f82 68 (by omega)]; exact (by rw [f53 68 (by omega)])))]
    refine jcallV (As := [.int r52, .int 1]) (rest := []) ⟨hx, hb, hml, hown, hts⟩ hK hP hA hS hZ (c_X12_goes_1 l D cI cL ad zz hJ σ80 τ r52 (r52.toInt) rfl w100 (by omega) (by omega) (by omega) (by omega) (by omega)) cw_RX12_296 (jc_55 cI cL ad σ80 τ) rfl ⟨Nat.le_of_ble_eq_true rfl, Nat.le_of_ble_eq_true rfl⟩ rfl rfl rfl hl.1 rfl (Nat.le_of_ble_eq_true rfl) dX12_meanFrom_48 ⟨Nat.zero_le _, Nat.zero_le _⟩ (fun r116 σ115 τ115 H locs h115 hP hS => ?_)
    obtain ⟨rfl, f117, f118, w119, w120, w121, h115⟩ := h115
    obtain ⟨k122, k123, k124, h115⟩ := h115
    have h125 := h115
    obtain ⟨q131, k126, k127, k128, k129, k130⟩ := h125
    refine lv_istore (lv' := [(6, .int r116), (5, .int x107), (4, .int r81), (3, .int x62), (2, .int r52), (0, .ref (ad 55)), (1, .int a1)]) hx hb dX12_meanFrom_51 hl (by decide) rfl (fun ls hl => ?_)
    refine lv_aload_n hx hb dX12_meanFrom_53 rfl (lv_at hl 5 rfl) ?_
    refine lv_iload_n hx hb dX12_meanFrom_54 rfl (lv_at hl 6 rfl) ?_
    have z132 : (σ115 55 5).toInt = (σ 55 5).toInt := by rw [(show σ115 55 5 = (σ 55 5) from (by rw [f118 5 (by omega)]; exact (by rw [f83 5 (by omega)]; exact (by rw [f54 5 (by omega)]))))]
    have z133 : (σ115 55 4).toInt = (σ 55 4).toInt := by rw [(show σ115 55 4 = (σ 55 4) from (by rw [f118 4 (by omega)]; exact (by rw [f83 4 (by omega)]; exact (by rw [f54 4 (by omega)]))))]
    have w134 : ∀ k : Nat, k < 68 → (-200) ≤ (σ115 56 k).toInt ∧ (σ115 56 k).toInt ≤ 500 := (by rw [f117 56 (by omega)]; exact w89)
    have w135 : ∀ k : Nat, k < 40 → 0 ≤ (σ115 57 k).toInt ∧ (σ115 57 k).toInt ≤ 67 := (by rw [f117 57 (by omega)]; exact w90)
    have w136 : ∀ k : Nat, k < 40 → (-200) ≤ (σ115 58 k).toInt ∧ (σ115 58 k).toInt ≤ 500 := (by rw [f117 58 (by omega)]; exact w91)
    have w137 : ∀ k : Nat, k < 40 → (-200) ≤ (σ115 59 k).toInt ∧ (σ115 59 k).toInt ≤ 500 := (by rw [f117 59 (by omega)]; exact w92)
    have I138 : jI101 σ115 := ⟨(by omega), (by omega), (by omega), w134, w135, w136, w137⟩
    have z139 : (σ115 55 6).toInt = (σ 55 6).toInt := by rw [(show σ115 55 6 = (σ 55 6) from (by rw [f118 6 (by omega)]; exact (by rw [f83 6 (by omega)]; exact (by rw [f54 6 (by omega)]))))]
    have w140 : ∀ k : Nat, k < 4 → 0 ≤ (σ115 60 k).toInt ∧ (σ115 60 k).toInt ≤ 50 := (by rw [f117 60 (by omega)]; exact w95)
    have w141 : ∀ k : Nat, k < 4 → 0 ≤ (σ115 61 k).toInt ∧ (σ115 61 k).toInt ≤ 20 := (by rw [f117 61 (by omega)]; exact w96)
    have I142 : jI102 σ115 := ⟨(by omega), w140, w141⟩
    have z143 : (σ115 55 9).toInt = (σ 55 9).toInt := by rw [(show σ115 55 9 = (σ 55 9) from (by rw [f118 9 (by omega)]; exact (by rw [f83 9 (by omega)]; exact (by rw [f54 9 (by omega)]))))]
    have I144 : jI103 σ115 := (show 0 ≤ (σ115 55 9).toInt ∧ (σ115 55 9).toInt ≤ 3 by omega)
    have z145 : (σ115 55 10).toInt = (σ 55 10).toInt := by rw [(show σ115 55 10 = (σ 55 10) from (by rw [f118 10 (by omega)]; exact (by rw [f83 10 (by omega)]; exact (by rw [f54 10 (by omega)]))))]
    have z146 : (σ115 55 12).toInt = (σ 55 12).toInt := by rw [(show σ115 55 12 = (σ 55 12) from (by rw [f118 12 (by omega)]; exact (by rw [f83 12 (by omega)]; exact (by rw [f54 12 (by omega)]))))]
    have z147 : (σ115 55 13).toInt = (σ 55 13).toInt := by rw [(show σ115 55 13 = (σ 55 13) from (by rw [f118 13 (by omega)]; exact (by rw [f83 13 (by omega)]; exact (by rw [f54 13 (by omega)]))))]
    have w148 : ∀ k : Nat, k < 8 → 0 ≤ (σ115 62 k).toInt ∧ (σ115 62 k).toInt ≤ 3 := (by rw [f117 62 (by omega)]; exact (by rw [f82 62 (by omega)]; exact w60))
    have w149 : ∀ k : Nat, k < 8 → 0 ≤ (σ115 67 k).toInt ∧ (σ115 67 k).toInt ≤ 3 := (by rw [f117 67 (by omega)]; exact (by rw [f82 67 (by omega)]; exact (by rw [f53 67 (by omega)]; exact w16)))
    have I150 : jI104 σ115 := ⟨(by omega), (by omega), (by omega), w148, w149⟩
    have z151 : (σ115 55 15).toInt = (σ 55 15).toInt := by rw [(show σ115 55 15 = (σ 55 15) from (by rw [f118 15 (by omega)]; exact (by rw [f83 15 (by omega)]; exact (by rw [f54 15 (by omega)]))))]
    have w152 : ∀ k : Nat, k < 2 → (-1) ≤ (σ115 65 k).toInt ∧ (σ115 65 k).toInt ≤ 80 := (by rw [f117 65 (by omega)]; exact (by rw [f82 65 (by omega)]; exact w77))
    have I153 : jI105 σ115 := ⟨(by omega), w152⟩
    have z154 : (σ115 55 32).toInt = (σ 55 32).toInt := by rw [(show σ115 55 32 = (σ 55 32) from (by rw [f118 32 (by omega)]; exact (by rw [f83 32 (by omega)]; exact (by rw [f54 32 (by omega)]))))]
    have w155 : ∀ k : Nat, k < 20 → 0 ≤ (σ115 70 k).toInt ∧ (σ115 70 k).toInt ≤ 6 := (by rw [f117 70 (by omega)]; exact (by rw [f82 70 (by omega)]; exact (by rw [f53 70 (by omega)]; exact w20)))
    have w156 : ∀ k : Nat, k < 20 → 0 ≤ (σ115 71 k).toInt ∧ (σ115 71 k).toInt ≤ 8 := (by rw [f117 71 (by omega)]; exact (by rw [f82 71 (by omega)]; exact (by rw [f53 71 (by omega)]; exact w21)))
    have w157 : ∀ k : Nat, k < 160 → 0 ≤ (σ115 72 k).toInt ∧ (σ115 72 k).toInt ≤ 3 := (by rw [f117 72 (by omega)]; exact (by rw [f82 72 (by omega)]; exact (by rw [f53 72 (by omega)]; exact w22)))
    have I158 : jI106 σ115 := ⟨(by omega), w155, w156, w157⟩
    have I159 : jI120 σ115 := ⟨(by omega), (by omega), (by omega), (by omega), (by omega), w119⟩
    have p160 : jKept σ115 := jKept.fr (by rw [f117 75 (by omega), f82 75 (by omega)]) (by rw [f117 76 (by omega), f82 76 (by omega)]) (by rw [f117 77 (by omega), f82 77 (by omega)]) p55
    refine jcallV (As := [.int a1]) (rest := []) ⟨hx, hb, hml, hown, hts⟩ hK hP hA hS hZ (c_X12_meanFrom_1 l D cI cL ad zz hJ σ115 τ a1 (A1) t1 I138 I142 I144 I150 I153 I158 I159 p160 (by omega) (by omega)) cw_RX12_324 (jc_55 cI cL ad σ115 τ) rfl ⟨Nat.le_of_ble_eq_true rfl, Nat.le_of_ble_eq_true rfl⟩ rfl rfl rfl hl.1 rfl (Nat.le_of_ble_eq_true rfl) dX12_meanFrom_55 ⟨Nat.zero_le _, Nat.zero_le _⟩ (fun r162 σ161 τ161 H locs h161 hP hS => ?_)
    obtain ⟨rfl, f163, f164, p165, h161⟩ := h161
    refine lv_istore (lv' := [(7, .int r162), (6, .int r116), (5, .int x107), (4, .int r81), (3, .int x62), (2, .int r52), (0, .ref (ad 55)), (1, .int a1)]) hx hb dX12_meanFrom_58 hl (by decide) rfl (fun ls hl => ?_)
    refine lv_aload_n hx hb dX12_meanFrom_60 rfl (lv_at hl 6 rfl) ?_
    refine lv_iload_n hx hb dX12_meanFrom_61 rfl (lv_at hl 5 rfl) ?_
    refine lv_iconst (v := 1) hx hb dX12_meanFrom_62 (by decide) ?_
    refine lv_iload hx hb dX12_meanFrom_63 (lv_at hl 1 rfl) ?_
    have w166 : ∀ k : Nat, k < 4 → 0 ≤ (σ161 68 k).toInt ∧ (σ161 68 k).toInt ≤ 3 := (by rw [f163 68 (by omega)]; exact w119)
    have z167 : (σ161 55 25).toInt = (σ115 55 25).toInt := by rw [(show σ161 55 25 = (σ115 55 25) from (by rw [f164 25 (by omega)]))]
    have z168 : (σ161 55 26).toInt = (σ115 55 26).toInt := by rw [(show σ161 55 26 = (σ115 55 26) from (by rw [f164 26 (by omega)]))]
    have z169 : (σ161 55 6).toInt = (σ 55 6).toInt := by rw [(show σ161 55 6 = (σ 55 6) from (by rw [f164 6 (by omega)]; exact (by rw [f118 6 (by omega)]; exact (by rw [f83 6 (by omega)]; exact (by rw [f54 6 (by omega)])))))]
    have w170 : ∀ k : Nat, k < 4 → 0 ≤ (σ80 68 k).toInt ∧ (σ80 68 k).toInt ≤ 3 := w100
    have z172 : (σ80 55 27).toInt = (σ 55 27).toInt := by rw [(show σ80 55 27 = (σ 55 27) from (by rw [f83 27 (by omega)]; exact (by rw [f54 27 (by omega)])))]
    have k171 := jwas (by omega) (w170 0 (by decide)) (w170 1 (by decide)) (w170 2 (by decide)) (w170 3 (by decide)) k126
    rw [← (show σ161 55 6 = σ80 55 6 from (by rw [f164 6 (by omega), f118 6 (by omega)]))] at k171
    refine jcallVv (As := [.int r52, .int 1, .int r116]) (rest := []) ⟨hx, hb, hml, hown, hts⟩ hK hP hA hS hZ (c_X12_goesBack_1 l D cI cL ad zz hJ σ161 τ r52 (r52.toInt) rfl r116 (r116.toInt) rfl w166 (by omega) (by omega) (by omega) k171) cw_RX12_300 (jc_55 cI cL ad σ161 τ) rfl ⟨Nat.le_of_ble_eq_true rfl, Nat.le_of_ble_eq_true rfl⟩ rfl rfl rfl hl.1 rfl (Nat.le_of_ble_eq_true rfl) dX12_meanFrom_65 ⟨Nat.zero_le _, Nat.zero_le _⟩ (fun σ173 τ173 H locs h173 hP hS => ?_)
    obtain ⟨rfl, f175, f176, w177, w178, w179, h173⟩ := h173
    obtain ⟨k180, k181, k182, k183, h173⟩ := h173
    have p184 : jKept σ173 := jKept.fr (by rw [f175 75 (by omega)]) (by rw [f175 76 (by omega)]) (by rw [f175 77 (by omega)]) p165
    have e185 : σ161 69 = σ115 69 := (by rw [f163 69 (by omega)])
    have e186 : σ173 69 = σ80 69 := jback69 w120 e185 w178
    have e187 : σ161 68 = σ115 68 := (by rw [f163 68 (by omega)])
    have e188 : σ161 55 6 = σ80 55 6 := (by rw [f164 6 (by omega), f118 6 (by omega)])
    have w196 : ∀ k : Nat, k < 4 → 0 ≤ (σ80 68 k).toInt ∧ (σ80 68 k).toInt ≤ 3 := w100
    have w197 : ∀ k : Nat, k < 4 → 0 ≤ (σ173 68 k).toInt ∧ (σ173 68 k).toInt ≤ 3 := w177
    have k198 := k183
    rw [e188] at k198
    have D189 := jdig (w196 0 (by decide)) (w196 1 (by decide)) (w196 2 (by decide)) (w196 3 (by decide)) (w197 0 (by decide)) (w197 1 (by decide)) (w197 2 (by decide)) (w197 3 (by decide)) k126 k198
    have e190 : σ173 55 27 = σ80 55 27 := Int32.toInt_inj.mp (by have h9 := D189.1; omega)
    have z199 : (σ161 55 26).toInt = (σ115 55 26).toInt := by rw [(show σ161 55 26 = (σ115 55 26) from (by rw [f164 26 (by omega)]))]
    have z200 : (σ80 55 26).toInt = (σ 55 26).toInt := by rw [(show σ80 55 26 = (σ 55 26) from (by rw [f83 26 (by omega)]; exact (by rw [f54 26 (by omega)])))]
    have z201 : (σ161 55 25).toInt = (σ115 55 25).toInt := by rw [(show σ161 55 25 = (σ115 55 25) from (by rw [f164 25 (by omega)]))]
    have z202 : (σ80 55 25).toInt = (σ 55 25).toInt := by rw [(show σ80 55 25 = (σ 55 25) from (by rw [f83 25 (by omega)]; exact (by rw [f54 25 (by omega)])))]
    have e191 : σ173 55 26 = σ80 55 26 := Int32.toInt_inj.mp (by omega)
    have e192 : σ173 55 25 = σ80 55 25 := Int32.toInt_inj.mp (by omega)
    have z203 : (σ80 55 6).toInt = (σ 55 6).toInt := by rw [(show σ80 55 6 = (σ 55 6) from (by rw [f83 6 (by omega)]; exact (by rw [f54 6 (by omega)])))]
    have e193 : σ173 68 = σ80 68 := jback68 (nb := (σ80 55 6).toInt) (by omega) w121 e187 (fun k hk => w179 k (by rw [e188]; exact hk)) D189.2
    have f194 : (∀ i : Nat, (i < 55 ∨ 55 < i) ∧ (i < 66 ∨ 66 < i) ∧ (i < 74 ∨ 78 < i) → σ173 i = σ80 i) := fun i hi => by
      by_cases h8 : i = 68
      · rw [h8]; exact e193
      by_cases h9 : i = 69
      · rw [h9]; exact e186
      rw [f175 i (by omega), f163 i (by omega), f117 i (by omega)]
    have f195 : ∀ k : Nat, (k < 18 ∨ 18 < k) ∧ (k < 19 ∨ 19 < k) ∧ (k < 20 ∨ 20 < k) ∧ (k < 21 ∨ 21 < k) ∧ (k < 22 ∨ 22 < k) ∧ (k < 37 ∨ 37 < k) → σ173 55 k = σ80 55 k := fun k hk => by
      by_cases h25 : k = 25
      · rw [h25]; exact e192
      by_cases h26 : k = 26
      · rw [h26]; exact e191
      by_cases h27 : k = 27
      · rw [h27]; exact e190
      rw [f176 k (by omega), f164 k (by omega), f118 k (by omega)]
    clear k198 k183 k126
    refine lv_aload_n hx hb dX12_meanFrom_68 rfl (lv_at hl 6 rfl) ?_
    refine lv_iload_n hx hb dX12_meanFrom_69 rfl (lv_at hl 5 rfl) ?_
    refine lv_iconst (v := 0) hx hb dX12_meanFrom_70 (by decide) ?_
    have w204 : ∀ k : Nat, k < 4 → 0 ≤ (σ173 68 k).toInt ∧ (σ173 68 k).toInt ≤ 3 := (by rw [f194 68 (by omega)]; exact w100)
    have z205 : (σ173 55 6).toInt = (σ 55 6).toInt := by rw [(show σ173 55 6 = (σ 55 6) from (by rw [f195 6 (by omega)]; exact (by rw [f83 6 (by omega)]; exact (by rw [f54 6 (by omega)]))))]
    have z206 : (σ173 55 27).toInt = (σ 55 27).toInt := by rw [(show σ173 55 27 = (σ 55 27) from (by rw [f195 27 (by omega)]; exact (by rw [f83 27 (by omega)]; exact (by rw [f54 27 (by omega)]))))]
    have z207 : (σ173 55 25).toInt = (σ 55 25).toInt := by rw [(show σ173 55 25 = (σ 55 25) from (by rw [f195 25 (by omega)]; exact (by rw [f83 25 (by omega)]; exact m59)))]
    have z208 : (σ173 55 26).toInt = (σ 55 26).toInt := by rw [(show σ173 55 26 = (σ 55 26) from (by rw [f195 26 (by omega)]; exact (by rw [f83 26 (by omega)]; exact (by rw [f54 26 (by omega)]))))]
    have z209 : (σ173 68 0).toInt = (σ 68 0).toInt := by rw [(show σ173 68 0 = (σ 68 0) from (by rw [f194 68 (by omega)]; exact (by rw [f82 68 (by omega)]; exact (by rw [f53 68 (by omega)]))))]
    have z210 : (σ173 68 1).toInt = (σ 68 1).toInt := by rw [(show σ173 68 1 = (σ 68 1) from (by rw [f194 68 (by omega)]; exact (by rw [f82 68 (by omega)]; exact (by rw [f53 68 (by omega)]))))]
    have z211 : (σ173 68 2).toInt = (σ 68 2).toInt := by rw [(show σ173 68 2 = (σ 68 2) from (by rw [f194 68 (by omega)]; exact (by rw [f82 68 (by omega)]; exact (by rw [f53 68 (by omega)]))))]
    have z212 : (σ173 68 3).toInt = (σ 68 3).toInt := by rw [(show σ173 68 3 = (σ 68 3) from (by rw [f194 68 (by omega)]; exact (by rw [f82 68 (by omega)]; exact (by rw [f53 68 (by omega)]))))]
    refine jcallV (As := [.int r52, .int 0]) (rest := []) ⟨hx, hb, hml, hown, hts⟩ hK hP hA hS hZ (c_X12_goes_0 l D cI cL ad zz hJ σ173 τ r52 (r52.toInt) rfl w204 (by omega) (by omega) (by omega) (by omega) (by omega)) cw_RX12_296 (jc_55 cI cL ad σ173 τ) rfl ⟨Nat.le_of_ble_eq_true rfl, Nat.le_of_ble_eq_true rfl⟩ rfl rfl rfl hl.1 rfl (Nat.le_of_ble_eq_true rfl) dX12_meanFrom_71 ⟨Nat.zero_le _, Nat.zero_le _⟩ (fun r214 σ213 τ213 H locs h213 hP hS => ?_)
    obtain ⟨rfl, f215, f216, w217, w218, w219, h213⟩ := h213
    obtain ⟨k220, k221, k222, h213⟩ := h213
    have h223 := h213
    obtain ⟨q229, k224, k225, k226, k227, k228⟩ := h223
    refine lv_istore (lv' := [(6, .int r214), (7, .int r162), (5, .int x107), (4, .int r81), (3, .int x62), (2, .int r52), (0, .ref (ad 55)), (1, .int a1)]) hx hb dX12_meanFrom_74 hl (by decide) rfl (fun ls hl => ?_)
    refine lv_aload_n hx hb dX12_meanFrom_76 rfl (lv_at hl 6 rfl) ?_
    refine lv_iload_n hx hb dX12_meanFrom_77 rfl (lv_at hl 7 rfl) ?_
    have z230 : (σ213 55 5).toInt = (σ 55 5).toInt := by rw [(show σ213 55 5 = (σ 55 5) from (by rw [f216 5 (by omega)]; exact (by rw [f195 5 (by omega)]; exact (by rw [f83 5 (by omega)]; exact (by rw [f54 5 (by omega)])))))]
    have z231 : (σ213 55 4).toInt = (σ 55 4).toInt := by rw [(show σ213 55 4 = (σ 55 4) from (by rw [f216 4 (by omega)]; exact (by rw [f195 4 (by omega)]; exact (by rw [f83 4 (by omega)]; exact (by rw [f54 4 (by omega)])))))]
    have w232 : ∀ k : Nat, k < 68 → (-200) ≤ (σ213 56 k).toInt ∧ (σ213 56 k).toInt ≤ 500 := (by rw [f215 56 (by omega)]; exact (by rw [f194 56 (by omega)]; exact w89))
    have w233 : ∀ k : Nat, k < 40 → 0 ≤ (σ213 57 k).toInt ∧ (σ213 57 k).toInt ≤ 67 := (by rw [f215 57 (by omega)]; exact (by rw [f194 57 (by omega)]; exact w90))
    have w234 : ∀ k : Nat, k < 40 → (-200) ≤ (σ213 58 k).toInt ∧ (σ213 58 k).toInt ≤ 500 := (by rw [f215 58 (by omega)]; exact (by rw [f194 58 (by omega)]; exact w91))
    have w235 : ∀ k : Nat, k < 40 → (-200) ≤ (σ213 59 k).toInt ∧ (σ213 59 k).toInt ≤ 500 := (by rw [f215 59 (by omega)]; exact (by rw [f194 59 (by omega)]; exact w92))
    have I236 : jI101 σ213 := ⟨(by omega), (by omega), (by omega), w232, w233, w234, w235⟩
    have z237 : (σ213 55 6).toInt = (σ 55 6).toInt := by rw [(show σ213 55 6 = (σ 55 6) from (by rw [f216 6 (by omega)]; exact (by rw [f195 6 (by omega)]; exact (by rw [f83 6 (by omega)]; exact (by rw [f54 6 (by omega)])))))]
    have w238 : ∀ k : Nat, k < 4 → 0 ≤ (σ213 60 k).toInt ∧ (σ213 60 k).toInt ≤ 50 := (by rw [f215 60 (by omega)]; exact (by rw [f194 60 (by omega)]; exact w95))
    have w239 : ∀ k : Nat, k < 4 → 0 ≤ (σ213 61 k).toInt ∧ (σ213 61 k).toInt ≤ 20 := (by rw [f215 61 (by omega)]; exact (by rw [f194 61 (by omega)]; exact w96))
    have I240 : jI102 σ213 := ⟨(by omega), w238, w239⟩
    have z241 : (σ213 55 9).toInt = (σ 55 9).toInt := by rw [(show σ213 55 9 = (σ 55 9) from (by rw [f216 9 (by omega)]; exact (by rw [f195 9 (by omega)]; exact (by rw [f83 9 (by omega)]; exact (by rw [f54 9 (by omega)])))))]
    have I242 : jI103 σ213 := (show 0 ≤ (σ213 55 9).toInt ∧ (σ213 55 9).toInt ≤ 3 by omega)
    have z243 : (σ213 55 10).toInt = (σ 55 10).toInt := by rw [(show σ213 55 10 = (σ 55 10) from (by rw [f216 10 (by omega)]; exact (by rw [f195 10 (by omega)]; exact (by rw [f83 10 (by omega)]; exact (by rw [f54 10 (by omega)])))))]
    have z244 : (σ213 55 12).toInt = (σ 55 12).toInt := by rw [(show σ213 55 12 = (σ 55 12) from (by rw [f216 12 (by omega)]; exact (by rw [f195 12 (by omega)]; exact (by rw [f83 12 (by omega)]; exact (by rw [f54 12 (by omega)])))))]
    have z245 : (σ213 55 13).toInt = (σ 55 13).toInt := by rw [(show σ213 55 13 = (σ 55 13) from (by rw [f216 13 (by omega)]; exact (by rw [f195 13 (by omega)]; exact (by rw [f83 13 (by omega)]; exact (by rw [f54 13 (by omega)])))))]
    have w246 : ∀ k : Nat, k < 8 → 0 ≤ (σ213 62 k).toInt ∧ (σ213 62 k).toInt ≤ 3 := (by rw [f215 62 (by omega)]; exact (by rw [f194 62 (by omega)]; exact (by rw [f82 62 (by omega)]; exact w60)))
    have w247 : ∀ k : Nat, k < 8 → 0 ≤ (σ213 67 k).toInt ∧ (σ213 67 k).toInt ≤ 3 := (by rw [f215 67 (by omega)]; exact (by rw [f194 67 (by omega)]; exact (by rw [f82 67 (by omega)]; exact (by rw [f53 67 (by omega)]; exact w16))))
    have I248 : jI104 σ213 := ⟨(by omega), (by omega), (by omega), w246, w247⟩
    have z249 : (σ213 55 15).toInt = (σ 55 15).toInt := by rw [(show σ213 55 15 = (σ 55 15) from (by rw [f216 15 (by omega)]; exact (by rw [f195 15 (by omega)]; exact (by rw [f83 15 (by omega)]; exact (by rw [f54 15 (by omega)])))))]
    have w250 : ∀ k : Nat, k < 2 → (-1) ≤ (σ213 65 k).toInt ∧ (σ213 65 k).toInt ≤ 80 := (by rw [f215 65 (by omega)]; exact (by rw [f194 65 (by omega)]; exact (by rw [f82 65 (by omega)]; exact w77)))
    have I251 : jI105 σ213 := ⟨(by omega), w250⟩
    have z252 : (σ213 55 32).toInt = (σ 55 32).toInt := by rw [(show σ213 55 32 = (σ 55 32) from (by rw [f216 32 (by omega)]; exact (by rw [f195 32 (by omega)]; exact (by rw [f83 32 (by omega)]; exact (by rw [f54 32 (by omega)])))))]
    have w253 : ∀ k : Nat, k < 20 → 0 ≤ (σ213 70 k).toInt ∧ (σ213 70 k).toInt ≤ 6 := (by rw [f215 70 (by omega)]; exact (by rw [f194 70 (by omega)]; exact (by rw [f82 70 (by omega)]; exact (by rw [f53 70 (by omega)]; exact w20))))
    have w254 : ∀ k : Nat, k < 20 → 0 ≤ (σ213 71 k).toInt ∧ (σ213 71 k).toInt ≤ 8 := (by rw [f215 71 (by omega)]; exact (by rw [f194 71 (by omega)]; exact (by rw [f82 71 (by omega)]; exact (by rw [f53 71 (by omega)]; exact w21))))
    have w255 : ∀ k : Nat, k < 160 → 0 ≤ (σ213 72 k).toInt ∧ (σ213 72 k).toInt ≤ 3 := (by rw [f215 72 (by omega)]; exact (by rw [f194 72 (by omega)]; exact (by rw [f82 72 (by omega)]; exact (by rw [f53 72 (by omega)]; exact w22))))
    have I256 : jI106 σ213 := ⟨(by omega), w253, w254, w255⟩
    have I257 : jI120 σ213 := ⟨(by omega), (by omega), (by omega), (by omega), (by omega), w217⟩
    have p258 : jKept σ213 := jKept.fr (by rw [f215 75 (by omega)]) (by rw [f215 76 (by omega)]) (by rw [f215 77 (by omega)]) p184
    refine jcallV (As := [.int a1]) (rest := []) ⟨hx, hb, hml, hown, hts⟩ hK hP hA hS hZ (c_X12_meanFrom_1 l D cI cL ad zz hJ σ213 τ a1 (A1) t1 I236 I240 I242 I248 I251 I256 I257 p258 (by omega) (by omega)) cw_RX12_324 (jc_55 cI cL ad σ213 τ) rfl ⟨Nat.le_of_ble_eq_true rfl, Nat.le_of_ble_eq_true rfl⟩ rfl rfl rfl hl.1 rfl (Nat.le_of_ble_eq_true rfl) dX12_meanFrom_78 ⟨Nat.zero_le _, Nat.zero_le _⟩ (fun r260 σ259 τ259 H locs h259 hP hS => ?_)
    obtain ⟨rfl, f261, f262, p263, h259⟩ := h259
    refine lv_istore (lv' := [(8, .int r260), (6, .int r214), (7, .int r162), (5, .int x107), (4, .int r81), (3, .int x62), (2, .int r52), (0, .ref (ad 55)), (1, .int a1)]) hx hb dX12_meanFrom_81 hl (by decide) rfl (fun ls hl => ?_)
    refine lv_aload_n hx hb dX12_meanFrom_83 rfl (lv_at hl 7 rfl) ?_
    refine lv_iload_n hx hb dX12_meanFrom_84 rfl (lv_at hl 6 rfl) ?_
    refine lv_iconst (v := 0) hx hb dX12_meanFrom_85 (by decide) ?_
    refine lv_iload hx hb dX12_meanFrom_86 (lv_at hl 1 rfl) ?_
    have w264 : ∀ k : Nat, k < 4 → 0 ≤ (σ259 68 k).toInt ∧ (σ259 68 k).toInt ≤ 3 := (by rw [f261 68 (by omega)]; exact w217)
    have z265 : (σ259 55 25).toInt = (σ213 55 25).toInt := by rw [(show σ259 55 25 = (σ213 55 25) from (by rw [f262 25 (by omega)]))]
    have z266 : (σ259 55 26).toInt = (σ213 55 26).toInt := by rw [(show σ259 55 26 = (σ213 55 26) from (by rw [f262 26 (by omega)]))]
    have z267 : (σ259 55 6).toInt = (σ 55 6).toInt := by rw [(show σ259 55 6 = (σ 55 6) from (by rw [f262 6 (by omega)]; exact (by rw [f216 6 (by omega)]; exact (by rw [f195 6 (by omega)]; exact (by rw [f83 6 (by omega)]; exact (by rw [f54 6 (by omega)]))))))]
    have w268 : ∀ k : Nat, k < 4 → 0 ≤ (σ173 68 k).toInt ∧ (σ173 68 k).toInt ≤ 3 := w204
    have z270 : (σ173 55 27).toInt = (σ 55 27).toInt := by rw [(show σ173 55 27 = (σ 55 27) from (by rw [f195 27 (by omega)]; exact (by rw [f83 27 (by omega)]; exact (by rw [f54 27 (by omega)]))))]
    have k269 := jwas (by omega) (w268 0 (by decide)) (w268 1 (by decide)) (w268 2 (by decide)) (w268 3 (by decide)) k224
    rw [← (show σ259 55 6 = σ173 55 6 from (by rw [f262 6 (by omega), f216 6 (by omega)]))] at k269
    refine jcallVv (As := [.int r52, .int 0, .int r214]) (rest := []) ⟨hx, hb, hml, hown, hts⟩ hK hP hA hS hZ (c_X12_goesBack_0 l D cI cL ad zz hJ σ259 τ r52 (r52.toInt) rfl r214 (r214.toInt) rfl w264 (by omega) (by omega) (by omega) k269) cw_RX12_300 (jc_55 cI cL ad σ259 τ) rfl ⟨Nat.le_of_ble_eq_true rfl, Nat.le_of_ble_eq_true rfl⟩ rfl rfl rfl hl.1 rfl (Nat.le_of_ble_eq_true rfl) dX12_meanFrom_88 ⟨Nat.zero_le _, Nat.zero_le _⟩ (fun σ271 τ271 H locs h271 hP hS => ?_)
    obtain ⟨rfl, f273, f274, w275, w276, w277, h271⟩ := h271
    obtain ⟨k278, k279, k280, k281, h271⟩ := h271
    have p282 : jKept σ271 := jKept.fr (by rw [f273 75 (by omega)]) (by rw [f273 76 (by omega)]) (by rw [f273 77 (by omega)]) p263
    have e283 : σ259 69 = σ213 69 := (by rw [f261 69 (by omega)])
    have e284 : σ271 69 = σ173 69 := jback69 w218 e283 w276
    have e285 : σ259 68 = σ213 68 := (by rw [f261 68 (by omega)])
    have e286 : σ259 55 6 = σ173 55 6 := (by rw [f262 6 (by omega), f216 6 (by omega)])
    have w294 : ∀ k : Nat, k < 4 → 0 ≤ (σ173 68 k).toInt ∧ (σ173 68 k).toInt ≤ 3 := w204
    have w295 : ∀ k : Nat, k < 4 → 0 ≤ (σ271 68 k).toInt ∧ (σ271 68 k).toInt ≤ 3 := w275
    have k296 := k281
    rw [e286] at k296
    have D287 := jdig (w294 0 (by decide)) (w294 1 (by decide)) (w294 2 (by decide)) (w294 3 (by decide)) (w295 0 (by decide)) (w295 1 (by decide)) (w295 2 (by decide)) (w295 3 (by decide)) k224 k296
    have e288 : σ271 55 27 = σ173 55 27 := Int32.toInt_inj.mp (by have h9 := D287.1; omega)
    have z297 : (σ259 55 26).toInt = (σ213 55 26).toInt := by rw [(show σ259 55 26 = (σ213 55 26) from (by rw [f262 26 (by omega)]))]
    have z298 : (σ173 55 26).toInt = (σ 55 26).toInt := by rw [(show σ173 55 26 = (σ 55 26) from (by rw [f195 26 (by omega)]; exact (by rw [f83 26 (by omega)]; exact (by rw [f54 26 (by omega)]))))]
    have z299 : (σ259 55 25).toInt = (σ213 55 25).toInt := by rw [(show σ259 55 25 = (σ213 55 25) from (by rw [f262 25 (by omega)]))]
    have z300 : (σ173 55 25).toInt = (σ 55 25).toInt := by rw [(show σ173 55 25 = (σ 55 25) from (by rw [f195 25 (by omega)]; exact (by rw [f83 25 (by omega)]; exact (by rw [f54 25 (by omega)]))))]
    have e289 : σ271 55 26 = σ173 55 26 := Int32.toInt_inj.mp (by omega)
    have e290 : σ271 55 25 = σ173 55 25 := Int32.toInt_inj.mp (by omega)
    have z301 : (σ173 55 6).toInt = (σ 55 6).toInt := by rw [(show σ173 55 6 = (σ 55 6) from (by rw [f195 6 (by omega)]; exact (by rw [f83 6 (by omega)]; exact (by rw [f54 6 (by omega)]))))]
    have e291 : σ271 68 = σ173 68 := jback68 (nb := (σ173 55 6).toInt) (by omega) w219 e285 (fun k hk => w277 k (by rw [e286]; exact hk)) D287.2
    have f292 : (∀ i : Nat, (i < 55 ∨ 55 < i) ∧ (i < 66 ∨ 66 < i) ∧ (i < 74 ∨ 78 < i) → σ271 i = σ173 i) := fun i hi => by
      by_cases h8 : i = 68
      · rw [h8]; exact e291
      by_cases h9 : i = 69
      · rw [h9]; exact e284
      rw [f273 i (by omega), f261 i (by omega), f215 i (by omega)]
    have f293 : ∀ k : Nat, (k < 18 ∨ 18 < k) ∧ (k < 19 ∨ 19 < k) ∧ (k < 20 ∨ 20 < k) ∧ (k < 21 ∨ 21 < k) ∧ (k < 22 ∨ 22 < k) ∧ (k < 37 ∨ 37 < k) → σ271 55 k = σ173 55 k := fun k hk => by
      by_cases h25 : k = 25
      · rw [h25]; exact e290
      by_cases h26 : k = 26
      · rw [h26]; exact e289
      by_cases h27 : k = 27
      · rw [h27]; exact e288
      rw [f274 k (by omega), f262 k (by omega), f216 k (by omega)]
    clear k296 k281 k224
    refine lv_iload hx hb dX12_meanFrom_91 (lv_at hl 3 rfl) ?_
    refine lv_sipush (v := 1000) hx hb dX12_meanFrom_93 (by decide) ?_
    refine lv_aload_n hx hb dX12_meanFrom_96 rfl (lv_at hl 7 rfl) ?_
    refine va_get (D := D) hx hb hts inlX12 hown hK hP 55 (jc_55 cI cL ad σ271 τ) rfl 13 (by decide) (hts _ kw_15_14) (fun _ h9 => h9) rfl dX12_meanFrom_97 ?_
    have m302 : σ271 55 13 = (σ 55 13) := (by rw [f293 13 (by omega)]; exact (by rw [f195 13 (by omega)]; exact (by rw [f83 13 (by omega)]; exact (by rw [f54 13 (by omega)]))))
    refine jtopr m302 ?_
    have g303 := jrg (rfl : (σ 55 13).toInt = (σ 55 13).toInt)
    refine lv_isub hx hb dX12_meanFrom_100 ?_
    refine lv_topi (fun x304 ex304 => ?_)
    have tx304 : x304.toInt = -(σ 55 13).toInt + 1000 := (jsub ex304 jz_1000 rfl (by omega) (by omega)).trans (by omega)
    refine lv_i2l (v := x304.toInt64) hx hb dX12_meanFrom_101 rfl ?_
    refine lv_iload hx hb dX12_meanFrom_102 (lv_at hl 2 rfl) ?_
    refine lv_iload hx hb dX12_meanFrom_104 (lv_at hl 0 rfl) ?_
    refine lv_iload hx hb dX12_meanFrom_106 (lv_at hl 4 rfl) ?_
    refine jcallS (As := [.int r162, .int r260, .int r81]) (rest := [.long x304.toInt64, .int x107]) ⟨hx, hb, hml, hown, hts⟩ hK hP hA hS hZ (c_X12_mixed l D cI cL ad zz hJ σ271 τ r162 (r162.toInt) rfl r260 (r260.toInt) rfl r81 (r81.toInt) rfl) cw_RX12_304 ⟨Nat.le_of_ble_eq_true rfl, Nat.le_of_ble_eq_true rfl⟩ rfl rfl rfl hl.1 rfl (Nat.le_of_ble_eq_true rfl) dX12_meanFrom_108 ⟨Nat.zero_le _, Nat.zero_le _⟩ (fun r306 σ305 τ305 H locs h305 hP hS => ?_)
    obtain ⟨⟨rfl, rfl⟩, h305⟩ := h305
    refine lv_i2l (v := r306.toInt64) hx hb dX12_meanFrom_111 rfl ?_
    refine lv_lmul hx hb dX12_meanFrom_112 ?_
    refine lv_topl (fun lx307 elx307 => ?_)
    refine lv_ldc2 (v := 1000) hx hb hown (hts _ kw_34_19) dX12_meanFrom_113 ?_
    refine lv_ldiv hx hb dX12_meanFrom_116 (by decide) ?_
    refine lv_topl (fun lx308 elx308 => ?_)
    refine lv_l2i hx hb dX12_meanFrom_117 rfl ?_
    refine lv_topi (fun x309 ex309 => ?_)
    have gx309 := jrg (rfl : x309.toInt = x309.toInt)
    have g310 := jrg (rfl : x309.toInt = x309.toInt)
    refine lv_iadd hx hb dX12_meanFrom_118 ?_
    refine lv_topi (fun x311 ex311 => ?_)
    have gx311 := jrg (rfl : x311.toInt = x311.toInt)
    exact hret x311 σ271 τ _ _ _ _ rfl ⟨rfl, (fun i hi => by rw [f292 i (by omega), f194 i (by omega), f82 i (by omega), f53 i (by omega)]), (fun k hk => by rw [f293 k (by omega), f195 k (by omega), f83 k (by omega), f54 k (by omega)]), p282, trivial⟩ hP hS dX12_meanFrom_119
set_option maxHeartbeats 4000000 in
set_option maxRecDepth 100000 in
theorem c_X12_meanFrom_3 (l : Launch) (D : va_G) (cI cL : ClassId) (ad zz : Nat → Nat) (hJ : jD ad) (σ : Nat → Nat → Int32) (τ : Nat → Nat → Int64) (a1 : Int32) (A1 : Int) (t1 : a1.toInt = A1) (hI101 : jI101 σ) (hI102 : jI102 σ) (hI103 : jI103 σ) (hI104 : jI104 σ) (hI105 : jI105 σ) (hI106 : jI106 σ) (hI120 : jI120 σ) (hs_jKept : jKept σ) (hp0 : 0 ≤ A1 ∧ A1 ≤ 19) (hp1 : (σ 55 12).toInt - (σ 55 26).toInt ≤ 3) : jM l yX12_meanFrom cX12_meanFrom 9 (some .int) ({ frames := 65, cells := 0, slots := 0, locals := 1569 }) D cI cL ad zz [.ref (ad 55), .int a1] σ τ (fun r σ' τ' => τ = τ' ∧ (∀ i : Nat, (i < 55 ∨ 55 < i) ∧ (i < 66 ∨ 66 < i) ∧ (i < 74 ∨ 78 < i) → σ' i = σ i) ∧ (∀ k : Nat, (k < 18 ∨ 18 < k) ∧ (k < 19 ∨ 19 < k) ∧ (k < 20 ∨ 20 < k) ∧ (k < 21 ∨ 21 < k) ∧ (k < 22 ∨ 22 < k) ∧ (k < 37 ∨ 37 < k) → σ' 55 k = σ 55 k) ∧ (jKept σ') ∧ True) := by
  refine jM.of hJ (by decide +kernel) (nt := .int) rfl (Nat.le_of_ble_eq_true rfl) ?_
  intro p e s m args below meth c Q ls hC hret hl hP
  obtain ⟨hx, hb, hr, hml, hown, hts, hK, -, hlocks, hZ⟩ := hC
  have hown : s.vm.findClass RX12 = some m.cls := hown
  have hS : va_S (jA ad) s.heap s.heap [] := va_S.rf
  have hA : ∀ q, jA ad q → jA ad q := fun _ h => h
  have hl : lv_has ls 9 [(0, .ref (ad 55)), (1, .int a1)] := hl
  have g1 := jrg t1
  obtain ⟨i1, i2, i3, w4, w5, w6, w7⟩ : (0 ≤ (σ 55 5).toInt) ∧ ((σ 55 5).toInt ≤ (σ 55 4).toInt) ∧ ((σ 55 4).toInt ≤ 40) ∧ (∀ k : Nat, k < 68 → (-200) ≤ (σ 56 k).toInt ∧ (σ 56 k).toInt ≤ 500) ∧ (∀ k : Nat, k < 40 → 0 ≤ (σ 57 k).toInt ∧ (σ 57 k).toInt ≤ 67) ∧ (∀ k : Nat, k < 40 → (-200) ≤ (σ 58 k).toInt ∧ (σ 58 k).toInt ≤ 500) ∧ (∀ k : Nat, k < 40 → (-200) ≤ (σ 59 k).toInt ∧ (σ 59 k).toInt ≤ 500) := id hI101
  obtain ⟨i8, w9, w10⟩ : (0 ≤ (σ 55 6).toInt ∧ (σ 55 6).toInt ≤ 4) ∧ (∀ k : Nat, k < 4 → 0 ≤ (σ 60 k).toInt ∧ (σ 60 k).toInt ≤ 50) ∧ (∀ k : Nat, k < 4 → 0 ≤ (σ 61 k).toInt ∧ (σ 61 k).toInt ≤ 20) := id hI102
  have i11 : 0 ≤ (σ 55 9).toInt ∧ (σ 55 9).toInt ≤ 3 := hI103
  obtain ⟨i12, i13, i14, w15, w16⟩ : (1 ≤ (σ 55 10).toInt ∧ (σ 55 10).toInt ≤ 8) ∧ (1 ≤ (σ 55 12).toInt ∧ (σ 55 12).toInt ≤ 12) ∧ (0 ≤ (σ 55 13).toInt ∧ (σ 55 13).toInt ≤ 999) ∧ (∀ k : Nat, k < 8 → 0 ≤ (σ 62 k).toInt ∧ (σ 62 k).toInt ≤ 3) ∧ (∀ k : Nat, k < 8 → 0 ≤ (σ 67 k).toInt ∧ (σ 67 k).toInt ≤ 3) := id hI104
  obtain ⟨i17, w18⟩ : (0 ≤ (σ 55 15).toInt ∧ (σ 55 15).toInt ≤ 80) ∧ (∀ k : Nat, k < 2 → (-1) ≤ (σ 65 k).toInt ∧ (σ 65 k).toInt ≤ 80) := id hI105
  obtain ⟨i19, w20, w21, w22⟩ : (0 ≤ (σ 55 32).toInt ∧ (σ 55 32).toInt ≤ 20) ∧ (∀ k : Nat, k < 20 → 0 ≤ (σ 70 k).toInt ∧ (σ 70 k).toInt ≤ 6) ∧ (∀ k : Nat, k < 20 → 0 ≤ (σ 71 k).toInt ∧ (σ 71 k).toInt ≤ 8) ∧ (∀ k : Nat, k < 160 → 0 ≤ (σ 72 k).toInt ∧ (σ 72 k).toInt ≤ 3) := id hI106
  obtain ⟨i23, i24, i25, i26, i27, w28⟩ : (0 ≤ (σ 55 25).toInt) ∧ ((σ 55 25).toInt ≤ (σ 55 10).toInt) ∧ (0 ≤ (σ 55 26).toInt) ∧ ((σ 55 26).toInt ≤ (σ 55 12).toInt) ∧ ((-1) ≤ (σ 55 27).toInt ∧ (σ 55 27).toInt ≤ 3) ∧ (∀ k : Nat, k < 4 → 0 ≤ (σ 68 k).toInt ∧ (σ 68 k).toInt ≤ 3) := id hI120
  refine lv_aload_n hx hb dX12_meanFrom_0 rfl (lv_at hl 0 rfl) ?_
  have I29 : jI102 σ := ⟨(by omega), w9, w10⟩
  have I30 : jI104 σ := ⟨(by omega), (by omega), (by omega), w15, w16⟩
  have I31 : jI120 σ := ⟨(by omega), (by omega), (by omega), (by omega), (by omega), w28⟩
  refine jcallV (As := []) (rest := []) ⟨hx, hb, hml, hown, hts⟩ hK hP hA hS hZ (c_X12_isEnded l D cI cL ad zz hJ σ τ I29 I30 I31) cw_RX12_307 (jc_55 cI cL ad σ τ) rfl ⟨Nat.le_of_ble_eq_true rfl, Nat.le_of_ble_eq_true rfl⟩ rfl rfl rfl hl.1 rfl (Nat.le_of_ble_eq_true rfl) dX12_meanFrom_1 ⟨Nat.zero_le _, Nat.zero_le _⟩ (fun r33 σ32 τ32 H locs h32 hP hS => ?_)
  obtain ⟨⟨rfl, rfl⟩, h32⟩ := h32
  rcases h32 with h34 | h35
  · obtain ⟨q37, k36⟩ := h34
    have q37 := q37.symm
    subst q37
    refine lv_if_eq (tgt := 9) hx hb dX12_meanFrom_4 (by decide) (fun c => absurd c (by decide)) (fun _ => ?_)
    refine lv_iconst (v := 0) hx hb dX12_meanFrom_7 (by decide) ?_
    exact hret 0 σ τ _ _ _ _ rfl ⟨rfl, (fun _ _ => rfl), (fun _ _ => rfl), hs_jKept, trivial⟩ hP hS dX12_meanFrom_8
  · obtain ⟨q41, k38, k39, k40⟩ := h35
    have q41 := q41.symm
    subst q41
    obtain ⟨B42, k43, k44, w45⟩ := k40
    refine lv_if_eq (tgt := 9) hx hb dX12_meanFrom_4 (by decide) (fun _ => ?_) (fun c => absurd (by decide) c)
    refine lv_aload_n hx hb dX12_meanFrom_9 rfl (lv_at hl 0 rfl) ?_
    refine lv_iload_n hx hb dX12_meanFrom_10 rfl (lv_at hl 1 rfl) ?_
    have p46 : jmb σ B42 = 1 := (jmb_fr rfl rfl rfl rfl rfl B42).trans w45
    have I47 : jI101 σ := ⟨(by omega), (by omega), (by omega), w4, w5, w6, w7⟩
    have I48 : jI103 σ := (show 0 ≤ (σ 55 9).toInt ∧ (σ 55 9).toInt ≤ 3 by omega)
    have I49 : jI105 σ := ⟨(by omega), w18⟩
    have I50 : jI106 σ := ⟨(by omega), w20, w21, w22⟩
    refine jcallV (As := [.int a1]) (rest := []) ⟨hx, hb, hml, hown, hts⟩ hK hP hA hS hZ (c_X12_putsOn l D cI cL ad zz hJ σ τ B42 p46 a1 (A1) t1 I47 I29 I48 I30 I49 I50 I31 hs_jKept (by omega) (by omega) (by omega) (by omega) (by omega)) cw_RX12_321 (jc_55 cI cL ad σ τ) rfl ⟨Nat.le_of_ble_eq_true rfl, Nat.le_of_ble_eq_true rfl⟩ rfl rfl rfl hl.1 rfl (Nat.le_of_ble_eq_true rfl) dX12_meanFrom_11 ⟨Nat.zero_le _, Nat.zero_le _⟩ (fun r52 σ51 τ51 H locs h51 hP hS => ?_)
    obtain ⟨rfl, f53, f54, p55, h51⟩ := h51
    have h56 := h51
    obtain ⟨q58, k57⟩ := h56
    refine lv_istore_n (lv' := [(2, .int r52), (0, .ref (ad 55)), (1, .int a1)]) hx hb dX12_meanFrom_14 rfl hl (by decide) rfl (fun ls hl => ?_)
    refine lv_aload_n hx hb dX12_meanFrom_15 rfl (lv_at hl 1 rfl) ?_
    refine va_get (D := D) hx hb hts inlX12 hown hK hP 55 (jc_55 cI cL ad σ51 τ) rfl 11 (by decide) (hts _ kw_7_8) (fun _ h9 => h9) rfl dX12_meanFrom_16 ?_
    refine lv_aload_n hx hb dX12_meanFrom_19 rfl (lv_at hl 1 rfl) ?_
    refine va_get (D := D) hx hb hts inlX12 hown hK hP 55 (jc_55 cI cL ad σ51 τ) rfl 25 (by decide) (hts _ kw_23_6) (fun _ h9 => h9) rfl dX12_meanFrom_20 ?_
    have m59 : σ51 55 25 = (σ 55 25) := (by rw [f54 25 (by omega)])
    refine jtopr m59 ?_
    refine jald hx hb hK hP (jc_62 cI cL ad σ51 τ) (jin rfl (by omega) (by omega)) dX12_meanFrom_23 ?_
    have w60 : ∀ k : Nat, k < 8 → 0 ≤ (σ51 62 k).toInt ∧ (σ51 62 k).toInt ≤ 3 := (by rw [f53 62 (by omega)]; exact w15)
    have g61 := w60 _ (jnat (x := (σ 55 25)) rfl (n := 8) (by omega) (by decide))
    refine lv_topi (fun x62 ex62 => ?_)
    rw [← ex62] at g61
    refine lv_istore_n (lv' := [(3, .int x62), (2, .int r52), (0, .ref (ad 55)), (1, .int a1)]) hx hb dX12_meanFrom_24 rfl hl (by decide) rfl (fun ls hl => ?_)
    refine lv_aload_n hx hb dX12_meanFrom_25 rfl (lv_at hl 2 rfl) ?_
    refine lv_iload_n hx hb dX12_meanFrom_26 rfl (lv_at hl 1 rfl) ?_
    refine lv_iload_n hx hb dX12_meanFrom_27 rfl (lv_at hl 0 rfl) ?_
    have z63 : (σ51 55 5).toInt = (σ 55 5).toInt := by rw [(show σ51 55 5 = (σ 55 5) from (by rw [f54 5 (by omega)]))]
    have z64 : (σ51 55 4).toInt = (σ 55 4).toInt := by rw [(show σ51 55 4 = (σ 55 4) from (by rw [f54 4 (by omega)]))]
    have w65 : ∀ k : Nat, k < 68 → (-200) ≤ (σ51 56 k).toInt ∧ (σ51 56 k).toInt ≤ 500 := (by rw [f53 56 (by omega)]; exact w4)
    have w66 : ∀ k : Nat, k < 40 → 0 ≤ (σ51 57 k).toInt ∧ (σ51 57 k).toInt ≤ 67 := (by rw [f53 57 (by omega)]; exact w5)
    have w67 : ∀ k : Nat, k < 40 → (-200) ≤ (σ51 58 k).toInt ∧ (σ51 58 k).toInt ≤ 500 := (by rw [f53 58 (by omega)]; exact w6)
    have w68 : ∀ k : Nat, k < 40 → (-200) ≤ (σ51 59 k).toInt ∧ (σ51 59 k).toInt ≤ 500 := (by rw [f53 59 (by omega)]; exact w7)
    have I69 : jI101 σ51 := ⟨(by omega), (by omega), (by omega), w65, w66, w67, w68⟩
    have z70 : (σ51 55 6).toInt = (σ 55 6).toInt := by rw [(show σ51 55 6 = (σ 55 6) from (by rw [f54 6 (by omega)]))]
    have w71 : ∀ k : Nat, k < 4 → 0 ≤ (σ51 60 k).toInt ∧ (σ51 60 k).toInt ≤ 50 := (by rw [f53 60 (by omega)]; exact w9)
    have w72 : ∀ k : Nat, k < 4 → 0 ≤ (σ51 61 k).toInt ∧ (σ51 61 k).toInt ≤ 20 := (by rw [f53 61 (by omega)]; exact w10)
    have I73 : jI102 σ51 := ⟨(by omega), w71, w72⟩
    have z74 : (σ51 55 9).toInt = (σ 55 9).toInt := by rw [(show σ51 55 9 = (σ 55 9) from (by rw [f54 9 (by omega)]))]
    have I75 : jI103 σ51 := (show 0 ≤ (σ51 55 9).toInt ∧ (σ51 55 9).toInt ≤ 3 by omega)
    have z76 : (σ51 55 15).toInt = (σ 55 15).toInt := by rw [(show σ51 55 15 = (σ 55 15) from (by rw [f54 15 (by omega)]))]
    have w77 : ∀ k : Nat, k < 2 → (-1) ≤ (σ51 65 k).toInt ∧ (σ51 65 k).toInt ≤ 80 := (by rw [f53 65 (by omega)]; exact w18)
    have I78 : jI105 σ51 := ⟨(by omega), w77⟩
    have w79 : ∀ k : Nat, k < 4 → 0 ≤ (σ51 68 k).toInt ∧ (σ51 68 k).toInt ≤ 3 := (by rw [f53 68 (by omega)]; exact w28)
    refine jcallV (As := [.int r52, .int x62]) (rest := []) ⟨hx, hb, hml, hown, hts⟩ hK hP hA hS hZ (c_X12_outBy l D cI cL ad zz hJ σ51 τ r52 (r52.toInt) rfl x62 (x62.toInt) rfl I69 I73 I75 I78 w79 (by omega) (by omega)) cw_RX12_259 (jc_55 cI cL ad σ51 τ) rfl ⟨Nat.le_of_ble_eq_true rfl, Nat.le_of_ble_eq_true rfl⟩ rfl rfl rfl hl.1 rfl (Nat.le_of_ble_eq_true rfl) dX12_meanFrom_28 ⟨Nat.zero_le _, Nat.zero_le _⟩ (fun r81 σ80 τ80 H locs h80 hP hS => ?_)
    obtain ⟨rfl, f82, f83, h80⟩ := h80
    have h84 := h80
    obtain ⟨q86, k85⟩ := h84
    refine lv_istore (lv' := [(4, .int r81), (3, .int x62), (2, .int r52), (0, .ref (ad 55)), (1, .int a1)]) hx hb dX12_meanFrom_31 hl (by decide) rfl (fun ls hl => ?_)
    refine lv_sipush (v := 1000) hx hb dX12_meanFrom_33 (by decide) ?_
    refine lv_aload_n hx hb dX12_meanFrom_36 rfl (lv_at hl 3 rfl) ?_
    refine lv_iload_n hx hb dX12_meanFrom_37 rfl (lv_at hl 2 rfl) ?_
    refine lv_iload_n hx hb dX12_meanFrom_38 rfl (lv_at hl 1 rfl) ?_
    have z87 : (σ80 55 5).toInt = (σ 55 5).toInt := by rw [(show σ80 55 5 = (σ 55 5) from (by rw [f83 5 (by omega)]; exact (by rw [f54 5 (by omega)])))]
    have z88 : (σ80 55 4).toInt = (σ 55 4).toInt := by rw [(show σ80 55 4 = (σ 55 4) from (by rw [f83 4 (by omega)]; exact (by rw [f54 4 (by omega)])))]
    have w89 : ∀ k : Nat, k < 68 → (-200) ≤ (σ80 56 k).toInt ∧ (σ80 56 k).toInt ≤ 500 := (by rw [f82 56 (by omega)]; exact w65)
    have w90 : ∀ k : Nat, k < 40 → 0 ≤ (σ80 57 k).toInt ∧ (σ80 57 k).toInt ≤ 67 := (by rw [f82 57 (by omega)]; exact w66)
    have w91 : ∀ k : Nat, k < 40 → (-200) ≤ (σ80 58 k).toInt ∧ (σ80 58 k).toInt ≤ 500 := (by rw [f82 58 (by omega)]; exact w67)
    have w92 : ∀ k : Nat, k < 40 → (-200) ≤ (σ80 59 k).toInt ∧ (σ80 59 k).toInt ≤ 500 := (by rw [f82 59 (by omega)]; exact w68)
    have I93 : jI101 σ80 := ⟨(by omega), (by omega), (by omega), w89, w90, w91, w92⟩
    have z94 : (σ80 55 6).toInt = (σ 55 6).toInt := by rw [(show σ80 55 6 = (σ 55 6) from (by rw [f83 6 (by omega)]; exact (by rw [f54 6 (by omega)])))]
    have w95 : ∀ k : Nat, k < 4 → 0 ≤ (σ80 60 k).toInt ∧ (σ80 60 k).toInt ≤ 50 := (by rw [f82 60 (by omega)]; exact w71)
    have w96 : ∀ k : Nat, k < 4 → 0 ≤ (σ80 61 k).toInt ∧ (σ80 61 k).toInt ≤ 20 := (by rw [f82 61 (by omega)]; exact w72)
    have I97 : jI102 σ80 := ⟨(by omega), w95, w96⟩
    have z98 : (σ80 55 9).toInt = (σ 55 9).toInt := by rw [(show σ80 55 9 = (σ 55 9) from (by rw [f83 9 (by omega)]; exact (by rw [f54 9 (by omega)])))]
    have I99 : jI103 σ80 := (show 0 ≤ (σ80 55 9).toInt ∧ (σ80 55 9).toInt ≤ 3 by omega)
    have w100 : ∀ k : Nat, k < 4 → 0 ≤ (σ80 68 k).toInt ∧ (σ80 68 k).toInt ≤ 3 := (by rw [f82 68 (by omega)]; exact w79)
    refine jcallV (As := [.int r52, .int x62]) (rest := [.int 1000]) ⟨hx, hb, hml, hown, hts⟩ hK hP hA hS hZ (c_X12_runsBy l D cI cL ad zz hJ σ80 τ r52 (r52.toInt) rfl x62 (x62.toInt) rfl I93 I97 I99 w100 (by omega) (by omega)) cw_RX12_262 (jc_55 cI cL ad σ80 τ) rfl ⟨Nat.le_of_ble_eq_true rfl, Nat.le_of_ble_eq_true rfl⟩ rfl rfl rfl hl.1 rfl (Nat.le_of_ble_eq_true rfl) dX12_meanFrom_39 ⟨Nat.zero_le _, Nat.zero_le _⟩ (fun r102 σ101 τ101 H locs h101 hP hS => ?_)
    obtain ⟨⟨rfl, rfl⟩, h101⟩ := h101
    have h103 := h101
    obtain ⟨q105, k104⟩ := h103
    have g106 := jrg (rfl : r102.toInt = r102.toInt)
    refine lv_imul hx hb dX12_meanFrom_42 ?_
    refine lv_topi (fun x107 ex107 => ?_)
    have tx107 : x107.toInt = 1000 * r102.toInt := (jmul ex107 jz_1000 rfl (by omega) (by omega)).trans (by omega)
    refine lv_istore (lv' := [(5, .int x107), (4, .int r81), (3, .int x62), (2, .int r52), (0, .ref (ad 55)), (1, .int a1)]) hx hb dX12_meanFrom_43 hl (by decide) rfl (fun ls hl => ?_)
    refine lv_aload_n hx hb dX12_meanFrom_45 rfl (lv_at hl 4 rfl) ?_
    refine lv_iload_n hx hb dX12_meanFrom_46 rfl (lv_at hl 3 rfl) ?_
    refine lv_iconst (v := 1) hx hb dX12_meanFrom_47 (by decide) ?_
    have z108 : (σ80 55 27).toInt = (σ 55 27).toInt := by rw [(show σ80 55 27 = (σ 55 27) from (by rw [f83 27 (by omega)]; exact (by rw [f54 27 (by omega)])))]
    have z109 : (σ80 55 25).toInt = (σ 55 25).toInt := by rw [(show σ80 55 25 = (σ 55 25) from (by rw [f83 25 (by omega)]; exact m59))]
    have z110 : (σ80 55 26).toInt = (σ 55 26).toInt := by rw [(show σ80 55 26 = (σ 55 26) from (by rw [f83 26 (by omega)]; exact (by rw [f54 26 (by omega)])))]
    have z111 : (σ80 68 0).toInt = (σ 68 0).toInt := by rw [(show σ80 68 0 = (σ 68 0) from (by rw [f82 68 (by omega)]; exact (by rw [f53 68 (by omega)])))]
    have z112 : (σ80 68 1).toInt = (σ 68 1).toInt := by rw [(show σ80 68 1 = (σ 68 1) from (by rw [f82 68 (by omega)]; exact (by rw [f53 68 (by omega)])))]
    have z113 : (σ80 68 2).toInt = (σ 68 2).toInt := by rw [(show σ80 68 2 = (σ 68 2) from (by rw [f82 68 (by omega)]; exact (by rw [f53 68 (by omega)])))]
    have z114 : (σ80 68 3).toInt = (σ 68 3).toInt := by rw [(show σ80 68 3 = (σ 68 3) from (by rw [f82 68 (by omega)]; exact (by rw [f53 68 (by omega)])))]
    refine jcallV (As := [.int r52, .int 1]) (rest := []) ⟨hx, hb, hml, hown, hts⟩ hK hP hA hS hZ (c_X12_goes_1 l D cI cL ad zz hJ σ80 τ r52 (r52.toInt) rfl w100 (by omega) (by omega) (by omega) (by omega) (by omega)) cw_RX12_296 (jc_55 cI cL ad σ80 τ) rfl ⟨Nat.le_of_ble_eq_true rfl, Nat.le_of_ble_eq_true rfl⟩ rfl rfl rfl hl.1 rfl (Nat.le_of_ble_eq_true rfl) dX12_meanFrom_48 ⟨Nat.zero_le _, Nat.zero_le _⟩ (fun r116 σ115 τ115 H locs h115 hP hS => ?_)
    obtain ⟨rfl, f117, f118, w119, w120, w121, h115⟩ := h115
    obtain ⟨k122, k123, k124, h115⟩ := h115
    have h125 := h115
    obtain ⟨q131, k126, k127, k128, k129, k130⟩ := h125
    refine lv_istore (lv' := [(6, .int r116), (5, .int x107), (4, .int r81), (3, .int x62), (2, .int r52), (0, .ref (ad 55)), (1, .int a1)]) hx hb dX12_meanFrom_51 hl (by decide) rfl (fun ls hl => ?_)
    refine lv_aload_n hx hb dX12_meanFrom_53 rfl (lv_at hl 5 rfl) ?_
    refine lv_iload_n hx hb dX12_meanFrom_54 rfl (lv_at hl 6 rfl) ?_
    have z132 : (σ115 55 5).toInt = (σ 55 5).toInt := by rw [(show σ115 55 5 = (σ 55 5) from (by rw [f118 5 (by omega)]; exact (by rw [f83 5 (by omega)]; exact (by rw [f54 5 (by omega)]))))]
    have z133 : (σ115 55 4).toInt = (σ 55 4).toInt := by rw [(show σ115 55 4 = (σ 55 4) from (by rw [f118 4 (by omega)]; exact (by rw [f83 4 (by omega)]; exact (by rw [f54 4 (by omega)]))))]
    have w134 : ∀ k : Nat, k < 68 → (-200) ≤ (σ115 56 k).toInt ∧ (σ115 56 k).toInt ≤ 500 := (by rw [f117 56 (by omega)]; exact w89)
    have w135 : ∀ k : Nat, k < 40 → 0 ≤ (σ115 57 k).toInt ∧ (σ115 57 k).toInt ≤ 67 := (by rw [f117 57 (by omega)]; exact w90)
    have w136 : ∀ k : Nat, k < 40 → (-200) ≤ (σ115 58 k).toInt ∧ (σ115 58 k).toInt ≤ 500 := (by rw [f117 58 (by omega)]; exact w91)
    have w137 : ∀ k : Nat, k < 40 → (-200) ≤ (σ115 59 k).toInt ∧ (σ115 59 k).toInt ≤ 500 := (by rw [f117 59 (by omega)]; exact w92)
    have I138 : jI101 σ115 := ⟨(by omega), (by omega), (by omega), w134, w135, w136, w137⟩
    have z139 : (σ115 55 6).toInt = (σ 55 6).toInt := by rw [(show σ115 55 6 = (σ 55 6) from (by rw [f118 6 (by omega)]; exact (by rw [f83 6 (by omega)]; exact (by rw [f54 6 (by omega)]))))]
    have w140 : ∀ k : Nat, k < 4 → 0 ≤ (σ115 60 k).toInt ∧ (σ115 60 k).toInt ≤ 50 := (by rw [f117 60 (by omega)]; exact w95)
    have w141 : ∀ k : Nat, k < 4 → 0 ≤ (σ115 61 k).toInt ∧ (σ115 61 k).toInt ≤ 20 := (by rw [f117 61 (by omega)]; exact w96)
    have I142 : jI102 σ115 := ⟨(by omega), w140, w141⟩
    have z143 : (σ115 55 9).toInt = (σ 55 9).toInt := by rw [(show σ115 55 9 = (σ 55 9) from (by rw [f118 9 (by omega)]; exact (by rw [f83 9 (by omega)]; exact (by rw [f54 9 (by omega)]))))]
    have I144 : jI103 σ115 := (show 0 ≤ (σ115 55 9).toInt ∧ (σ115 55 9).toInt ≤ 3 by omega)
    have z145 : (σ115 55 10).toInt = (σ 55 10).toInt := by rw [(show σ115 55 10 = (σ 55 10) from (by rw [f118 10 (by omega)]; exact (by rw [f83 10 (by omega)]; exact (by rw [f54 10 (by omega)]))))]
    have z146 : (σ115 55 12).toInt = (σ 55 12).toInt := by rw [(show σ115 55 12 = (σ 55 12) from (by rw [f118 12 (by omega)]; exact (by rw [f83 12 (by omega)]; exact (by rw [f54 12 (by omega)]))))]
    have z147 : (σ115 55 13).toInt = (σ 55 13).toInt := by rw [(show σ115 55 13 = (σ 55 13) from (by rw [f118 13 (by omega)]; exact (by rw [f83 13 (by omega)]; exact (by rw [f54 13 (by omega)]))))]
    have w148 : ∀ k : Nat, k < 8 → 0 ≤ (σ115 62 k).toInt ∧ (σ115 62 k).toInt ≤ 3 := (by rw [f117 62 (by omega)]; exact (by rw [f82 62 (by omega)]; exact w60))
    have w149 : ∀ k : Nat, k < 8 → 0 ≤ (σ115 67 k).toInt ∧ (σ115 67 k).toInt ≤ 3 := (by rw [f117 67 (by omega)]; exact (by rw [f82 67 (by omega)]; exact (by rw [f53 67 (by omega)]; exact w16)))
    have I150 : jI104 σ115 := ⟨(by omega), (by omega), (by omega), w148, w149⟩
    have z151 : (σ115 55 15).toInt = (σ 55 15).toInt := by rw [(show σ115 55 15 = (σ 55 15) from (by rw [f118 15 (by omega)]; exact (by rw [f83 15 (by omega)]; exact (by rw [f54 15 (by omega)]))))]
    have w152 : ∀ k : Nat, k < 2 → (-1) ≤ (σ115 65 k).toInt ∧ (σ115 65 k).toInt ≤ 80 := (by rw [f117 65 (by omega)]; exact (by rw [f82 65 (by omega)]; exact w77))
    have I153 : jI105 σ115 := ⟨(by omega), w152⟩
    have z154 : (σ115 55 32).toInt = (σ 55 32).toInt := by rw [(show σ115 55 32 = (σ 55 32) from (by rw [f118 32 (by omega)]; exact (by rw [f83 32 (by omega)]; exact (by rw [f54 32 (by omega)]))))]
    have w155 : ∀ k : Nat, k < 20 → 0 ≤ (σ115 70 k).toInt ∧ (σ115 70 k).toInt ≤ 6 := (by rw [f117 70 (by omega)]; exact (by rw [f82 70 (by omega)]; exact (by rw [f53 70 (by omega)]; exact w20)))
    have w156 : ∀ k : Nat, k < 20 → 0 ≤ (σ115 71 k).toInt ∧ (σ115 71 k).toInt ≤ 8 := (by rw [f117 71 (by omega)]; exact (by rw [f82 71 (by omega)]; exact (by rw [f53 71 (by omega)]; exact w21)))
    have w157 : ∀ k : Nat, k < 160 → 0 ≤ (σ115 72 k).toInt ∧ (σ115 72 k).toInt ≤ 3 := (by rw [f117 72 (by omega)]; exact (by rw [f82 72 (by omega)]; exact (by rw [f53 72 (by omega)]; exact w22)))
    have I158 : jI106 σ115 := ⟨(by omega), w155, w156, w157⟩
    have I159 : jI120 σ115 := ⟨(by omega), (by omega), (by omega), (by omega), (by omega), w119⟩
    have p160 : jKept σ115 := jKept.fr (by rw [f117 75 (by omega), f82 75 (by omega)]) (by rw [f117 76 (by omega), f82 76 (by omega)]) (by rw [f117 77 (by omega), f82 77 (by omega)]) p55
    refine jcallV (As := [.int a1]) (rest := []) ⟨hx, hb, hml, hown, hts⟩ hK hP hA hS hZ (c_X12_meanFrom_2 l D cI cL ad zz hJ σ115 τ a1 (A1) t1 I138 I142 I144 I150 I153 I158 I159 p160 (by omega) (by omega)) cw_RX12_324 (jc_55 cI cL ad σ115 τ) rfl ⟨Nat.le_of_ble_eq_true rfl, Nat.le_of_ble_eq_true rfl⟩ rfl rfl rfl hl.1 rfl (Nat.le_of_ble_eq_true rfl) dX12_meanFrom_55 ⟨Nat.zero_le _, Nat.zero_le _⟩ (fun r162 σ161 τ161 H locs h161 hP hS => ?_)
    obtain ⟨rfl, f163, f164, p165, h161⟩ := h161
    refine lv_istore (lv' := [(7, .int r162), (6, .int r116), (5, .int x107), (4, .int r81), (3, .int x62), (2, .int r52), (0, .ref (ad 55)), (1, .int a1)]) hx hb dX12_meanFrom_58 hl (by decide) rfl (fun ls hl => ?_)
    refine lv_aload_n hx hb dX12_meanFrom_60 rfl (lv_at hl 6 rfl) ?_
    refine lv_iload_n hx hb dX12_meanFrom_61 rfl (lv_at hl 5 rfl) ?_
    refine lv_iconst (v := 1) hx hb dX12_meanFrom_62 (by decide) ?_
    refine lv_iload hx hb dX12_meanFrom_63 (lv_at hl 1 rfl) ?_
    have w166 : ∀ k : Nat, k < 4 → 0 ≤ (σ161 68 k).toInt ∧ (σ161 68 k).toInt ≤ 3 := (by rw [f163 68 (by omega)]; exact w119)
    have z167 : (σ161 55 25).toInt = (σ115 55 25).toInt := by rw [(show σ161 55 25 = (σ115 55 25) from (by rw [f164 25 (by omega)]))]
    have z168 : (σ161 55 26).toInt = (σ115 55 26).toInt := by rw [(show σ161 55 26 = (σ115 55 26) from (by rw [f164 26 (by omega)]))]
    have z169 : (σ161 55 6).toInt = (σ 55 6).toInt := by rw [(show σ161 55 6 = (σ 55 6) from (by rw [f164 6 (by omega)]; exact (by rw [f118 6 (by omega)]; exact (by rw [f83 6 (by omega)]; exact (by rw [f54 6 (by omega)])))))]
    have w170 : ∀ k : Nat, k < 4 → 0 ≤ (σ80 68 k).toInt ∧ (σ80 68 k).toInt ≤ 3 := w100
    have z172 : (σ80 55 27).toInt = (σ 55 27).toInt := by rw [(show σ80 55 27 = (σ 55 27) from (by rw [f83 27 (by omega)]; exact (by rw [f54 27 (by omega)])))]
    have k171 := jwas (by omega) (w170 0 (by decide)) (w170 1 (by decide)) (w170 2 (by decide)) (w170 3 (by decide)) k126
    rw [← (show σ161 55 6 = σ80 55 6 from (by rw [f164 6 (by omega), f118 6 (by omega)]))] at k171
    refine jcallVv (As := [.int r52, .int 1, .int r116]) (rest := []) ⟨hx, hb, hml, hown, hts⟩ hK hP hA hS hZ (c_X12_goesBack_1 l D cI cL ad zz hJ σ161 τ r52 (r52.toInt) rfl r116 (r116.toInt) rfl w166 (by omega) (by omega) (by omega) k171) cw_RX12_300 (jc_55 cI cL ad σ161 τ) rfl ⟨Nat.le_of_ble_eq_true rfl, Nat.le_of_ble_eq_true rfl⟩ rfl rfl rfl hl.1 rfl (Nat.le_of_ble_eq_true rfl) dX12_meanFrom_65 ⟨Nat.zero_le _, Nat.zero_le _⟩ (fun σ173 τ173 H locs h173 hP hS => ?_)
    obtain ⟨rfl, f175, f176, w177, w178, w179, h173⟩ := h173
    obtain ⟨k180, k181, k182, k183, h173⟩ := h173
    have p184 : jKept σ173 := jKept.fr (by rw [f175 75 (by omega)]) (by rw [f175 76 (by omega)]) (by rw [f175 77 (by omega)]) p165
    have e185 : σ161 69 = σ115 69 := (by rw [f163 69 (by omega)])
    have e186 : σ173 69 = σ80 69 := jback69 w120 e185 w178
    have e187 : σ161 68 = σ115 68 := (by rw [f163 68 (by omega)])
    have e188 : σ161 55 6 = σ80 55 6 := (by rw [f164 6 (by omega), f118 6 (by omega)])
    have w196 : ∀ k : Nat, k < 4 → 0 ≤ (σ80 68 k).toInt ∧ (σ80 68 k).toInt ≤ 3 := w100
    have w197 : ∀ k : Nat, k < 4 → 0 ≤ (σ173 68 k).toInt ∧ (σ173 68 k).toInt ≤ 3 := w177
    have k198 := k183
    rw [e188] at k198
    have D189 := jdig (w196 0 (by decide)) (w196 1 (by decide)) (w196 2 (by decide)) (w196 3 (by decide)) (w197 0 (by decide)) (w197 1 (by decide)) (w197 2 (by decide)) (w197 3 (by decide)) k126 k198
    have e190 : σ173 55 27 = σ80 55 27 := Int32.toInt_inj.mp (by have h9 := D189.1; omega)
    have z199 : (σ161 55 26).toInt = (σ115 55 26).toInt := by rw [(show σ161 55 26 = (σ115 55 26) from (by rw [f164 26 (by omega)]))]
    have z200 : (σ80 55 26).toInt = (σ 55 26).toInt := by rw [(show σ80 55 26 = (σ 55 26) from (by rw [f83 26 (by omega)]; exact (by rw [f54 26 (by omega)])))]
    have z201 : (σ161 55 25).toInt = (σ115 55 25).toInt := by rw [(show σ161 55 25 = (σ115 55 25) from (by rw [f164 25 (by omega)]))]
    have z202 : (σ80 55 25).toInt = (σ 55 25).toInt := by rw [(show σ80 55 25 = (σ 55 25) from (by rw [f83 25 (by omega)]; exact (by rw [f54 25 (by omega)])))]
    have e191 : σ173 55 26 = σ80 55 26 := Int32.toInt_inj.mp (by omega)
    have e192 : σ173 55 25 = σ80 55 25 := Int32.toInt_inj.mp (by omega)
    have z203 : (σ80 55 6).toInt = (σ 55 6).toInt := by rw [(show σ80 55 6 = (σ 55 6) from (by rw [f83 6 (by omega)]; exact (by rw [f54 6 (by omega)])))]
    have e193 : σ173 68 = σ80 68 := jback68 (nb := (σ80 55 6).toInt) (by omega) w121 e187 (fun k hk => w179 k (by rw [e188]; exact hk)) D189.2
    have f194 : (∀ i : Nat, (i < 55 ∨ 55 < i) ∧ (i < 66 ∨ 66 < i) ∧ (i < 74 ∨ 78 < i) → σ173 i = σ80 i) := fun i hi => by
      by_cases h8 : i = 68
      · rw [h8]; exact e193
      by_cases h9 : i = 69
      · rw [h9]; exact e186
      rw [f175 i (by omega), f163 i (by omega), f117 i (by omega)]
    have f195 : ∀ k : Nat, (k < 18 ∨ 18 < k) ∧ (k < 19 ∨ 19 < k) ∧ (k < 20 ∨ 20 < k) ∧ (k < 21 ∨ 21 < k) ∧ (k < 22 ∨ 22 < k) ∧ (k < 37 ∨ 37 < k) → σ173 55 k = σ80 55 k := fun k hk => by
      by_cases h25 : k = 25
      · rw [h25]; exact e192
      by_cases h26 : k = 26
      · rw [h26]; exact e191
      by_cases h27 : k = 27
      · rw [h27]; exact e190
      rw [f176 k (by omega), f164 k (by omega), f118 k (by omega)]
    clear k198 k183 k126
    refine lv_aload_n hx hb dX12_meanFrom_68 rfl (lv_at hl 6 rfl) ?_
    refine lv_iload_n hx hb dX12_meanFrom_69 rfl (lv_at hl 5 rfl) ?_
    refine lv_iconst (v := 0) hx hb dX12_meanFrom_70 (by decide) ?_
    have w204 : ∀ k : Nat, k < 4 → 0 ≤ (σ173 68 k).toInt ∧ (σ173 68 k).toInt ≤ 3 := (by rw [f194 68 (by omega)]; exact w100)
    have z205 : (σ173 55 6).toInt = (σ 55 6).toInt := by rw [(show σ173 55 6 = (σ 55 6) from (by rw [f195 6 (by omega)]; exact (by rw [f83 6 (by omega)]; exact (by rw [f54 6 (by omega)]))))]
    have z206 : (σ173 55 27).toInt = (σ 55 27).toInt := by rw [(show σ173 55 27 = (σ 55 27) from (by rw [f195 27 (by omega)]; exact (by rw [f83 27 (by omega)]; exact (by rw [f54 27 (by omega)]))))]
    have z207 : (σ173 55 25).toInt = (σ 55 25).toInt := by rw [(show σ173 55 25 = (σ 55 25) from (by rw [f195 25 (by omega)]; exact (by rw [f83 25 (by omega)]; exact m59)))]
    have z208 : (σ173 55 26).toInt = (σ 55 26).toInt := by rw [(show σ173 55 26 = (σ 55 26) from (by rw [f195 26 (by omega)]; exact (by rw [f83 26 (by omega)]; exact (by rw [f54 26 (by omega)]))))]
    have z209 : (σ173 68 0).toInt = (σ 68 0).toInt := by rw [(show σ173 68 0 = (σ 68 0) from (by rw [f194 68 (by omega)]; exact (by rw [f82 68 (by omega)]; exact (by rw [f53 68 (by omega)]))))]
    have z210 : (σ173 68 1).toInt = (σ 68 1).toInt := by rw [(show σ173 68 1 = (σ 68 1) from (by rw [f194 68 (by omega)]; exact (by rw [f82 68 (by omega)]; exact (by rw [f53 68 (by omega)]))))]
    have z211 : (σ173 68 2).toInt = (σ 68 2).toInt := by rw [(show σ173 68 2 = (σ 68 2) from (by rw [f194 68 (by omega)]; exact (by rw [f82 68 (by omega)]; exact (by rw [f53 68 (by omega)]))))]
    have z212 : (σ173 68 3).toInt = (σ 68 3).toInt := by rw [(show σ173 68 3 = (σ 68 3) from (by rw [f194 68 (by omega)]; exact (by rw [f82 68 (by omega)]; exact (by rw [f53 68 (by omega)]))))]
    refine jcallV (As := [.int r52, .int 0]) (rest := []) ⟨hx, hb, hml, hown, hts⟩ hK hP hA hS hZ (c_X12_goes_0 l D cI cL ad zz hJ σ173 τ r52 (r52.toInt) rfl w204 (by omega) (by omega) (by omega) (by omega) (by omega)) cw_RX12_296 (jc_55 cI cL ad σ173 τ) rfl ⟨Nat.le_of_ble_eq_true rfl, Nat.le_of_ble_eq_true rfl⟩ rfl rfl rfl hl.1 rfl (Nat.le_of_ble_eq_true rfl) dX12_meanFrom_71 ⟨Nat.zero_le _, Nat.zero_le _⟩ (fun r214 σ213 τ213 H locs h213 hP hS => ?_)
    obtain ⟨rfl, f215, f216, w217, w218, w219, h213⟩ := h213
    obtain ⟨k220, k221, k222, h213⟩ := h213
    have h223 := h213
    obtain ⟨q229, k224, k225, k226, k227, k228⟩ := h223
    refine lv_istore (lv' := [(6, .int r214), (7, .int r162), (5, .int x107), (4, .int r81), (3, .int x62), (2, .int r52), (0, .ref (ad 55)), (1, .int a1)]) hx hb dX12_meanFrom_74 hl (by decide) rfl (fun ls hl => ?_)
    refine lv_aload_n hx hb dX12_meanFrom_76 rfl (lv_at hl 6 rfl) ?_
    refine lv_iload_n hx hb dX12_meanFrom_77 rfl (lv_at hl 7 rfl) ?_
    have z230 : (σ213 55 5).toInt = (σ 55 5).toInt := by rw [(show σ213 55 5 = (σ 55 5) from (by rw [f216 5 (by omega)]; exact (by rw [f195 5 (by omega)]; exact (by rw [f83 5 (by omega)]; exact (by rw [f54 5 (by omega)])))))]
    have z231 : (σ213 55 4).toInt = (σ 55 4).toInt := by rw [(show σ213 55 4 = (σ 55 4) from (by rw [f216 4 (by omega)]; exact (by rw [f195 4 (by omega)]; exact (by rw [f83 4 (by omega)]; exact (by rw [f54 4 (by omega)])))))]
    have w232 : ∀ k : Nat, k < 68 → (-200) ≤ (σ213 56 k).toInt ∧ (σ213 56 k).toInt ≤ 500 := (by rw [f215 56 (by omega)]; exact (by rw [f194 56 (by omega)]; exact w89))
    have w233 : ∀ k : Nat, k < 40 → 0 ≤ (σ213 57 k).toInt ∧ (σ213 57 k).toInt ≤ 67 := (by rw [f215 57 (by omega)]; exact (by rw [f194 57 (by omega)]; exact w90))
    have w234 : ∀ k : Nat, k < 40 → (-200) ≤ (σ213 58 k).toInt ∧ (σ213 58 k).toInt ≤ 500 := (by rw [f215 58 (by omega)]; exact (by rw [f194 58 (by omega)]; exact w91))
    have w235 : ∀ k : Nat, k < 40 → (-200) ≤ (σ213 59 k).toInt ∧ (σ213 59 k).toInt ≤ 500 := (by rw [f215 59 (by omega)]; exact (by rw [f194 59 (by omega)]; exact w92))
    have I236 : jI101 σ213 := ⟨(by omega), (by omega), (by omega), w232, w233, w234, w235⟩
    have z237 : (σ213 55 6).toInt = (σ 55 6).toInt := by rw [(show σ213 55 6 = (σ 55 6) from (by rw [f216 6 (by omega)]; exact (by rw [f195 6 (by omega)]; exact (by rw [f83 6 (by omega)]; exact (by rw [f54 6 (by omega)])))))]
    have w238 : ∀ k : Nat, k < 4 → 0 ≤ (σ213 60 k).toInt ∧ (σ213 60 k).toInt ≤ 50 := (by rw [f215 60 (by omega)]; exact (by rw [f194 60 (by omega)]; exact w95))
    have w239 : ∀ k : Nat, k < 4 → 0 ≤ (σ213 61 k).toInt ∧ (σ213 61 k).toInt ≤ 20 := (by rw [f215 61 (by omega)]; exact (by rw [f194 61 (by omega)]; exact w96))
    have I240 : jI102 σ213 := ⟨(by omega), w238, w239⟩
    have z241 : (σ213 55 9).toInt = (σ 55 9).toInt := by rw [(show σ213 55 9 = (σ 55 9) from (by rw [f216 9 (by omega)]; exact (by rw [f195 9 (by omega)]; exact (by rw [f83 9 (by omega)]; exact (by rw [f54 9 (by omega)])))))]
    have I242 : jI103 σ213 := (show 0 ≤ (σ213 55 9).toInt ∧ (σ213 55 9).toInt ≤ 3 by omega)
    have z243 : (σ213 55 10).toInt = (σ 55 10).toInt := by rw [(show σ213 55 10 = (σ 55 10) from (by rw [f216 10 (by omega)]; exact (by rw [f195 10 (by omega)]; exact (by rw [f83 10 (by omega)]; exact (by rw [f54 10 (by omega)])))))]
    have z244 : (σ213 55 12).toInt = (σ 55 12).toInt := by rw [(show σ213 55 12 = (σ 55 12) from (by rw [f216 12 (by omega)]; exact (by rw [f195 12 (by omega)]; exact (by rw [f83 12 (by omega)]; exact (by rw [f54 12 (by omega)])))))]
    have z245 : (σ213 55 13).toInt = (σ 55 13).toInt := by rw [(show σ213 55 13 = (σ 55 13) from (by rw [f216 13 (by omega)]; exact (by rw [f195 13 (by omega)]; exact (by rw [f83 13 (by omega)]; exact (by rw [f54 13 (by omega)])))))]
    have w246 : ∀ k : Nat, k < 8 → 0 ≤ (σ213 62 k).toInt ∧ (σ213 62 k).toInt ≤ 3 := (by rw [f215 62 (by omega)]; exact (by rw [f194 62 (by omega)]; exact (by rw [f82 62 (by omega)]; exact w60)))
    have w247 : ∀ k : Nat, k < 8 → 0 ≤ (σ213 67 k).toInt ∧ (σ213 67 k).toInt ≤ 3 := (by rw [f215 67 (by omega)]; exact (by rw [f194 67 (by omega)]; exact (by rw [f82 67 (by omega)]; exact (by rw [f53 67 (by omega)]; exact w16))))
    have I248 : jI104 σ213 := ⟨(by omega), (by omega), (by omega), w246, w247⟩
    have z249 : (σ213 55 15).toInt = (σ 55 15).toInt := by rw [(show σ213 55 15 = (σ 55 15) from (by rw [f216 15 (by omega)]; exact (by rw [f195 15 (by omega)]; exact (by rw [f83 15 (by omega)]; exact (by rw [f54 15 (by omega)])))))]
    have w250 : ∀ k : Nat, k < 2 → (-1) ≤ (σ213 65 k).toInt ∧ (σ213 65 k).toInt ≤ 80 := (by rw [f215 65 (by omega)]; exact (by rw [f194 65 (by omega)]; exact (by rw [f82 65 (by omega)]; exact w77)))
    have I251 : jI105 σ213 := ⟨(by omega), w250⟩
    have z252 : (σ213 55 32).toInt = (σ 55 32).toInt := by rw [(show σ213 55 32 = (σ 55 32) from (by rw [f216 32 (by omega)]; exact (by rw [f195 32 (by omega)]; exact (by rw [f83 32 (by omega)]; exact (by rw [f54 32 (by omega)])))))]
    have w253 : ∀ k : Nat, k < 20 → 0 ≤ (σ213 70 k).toInt ∧ (σ213 70 k).toInt ≤ 6 := (by rw [f215 70 (by omega)]; exact (by rw [f194 70 (by omega)]; exact (by rw [f82 70 (by omega)]; exact (by rw [f53 70 (by omega)]; exact w20))))
    have w254 : ∀ k : Nat, k < 20 → 0 ≤ (σ213 71 k).toInt ∧ (σ213 71 k).toInt ≤ 8 := (by rw [f215 71 (by omega)]; exact (by rw [f194 71 (by omega)]; exact (by rw [f82 71 (by omega)]; exact (by rw [f53 71 (by omega)]; exact w21))))
    have w255 : ∀ k : Nat, k < 160 → 0 ≤ (σ213 72 k).toInt ∧ (σ213 72 k).toInt ≤ 3 := (by rw [f215 72 (by omega)]; exact (by rw [f194 72 (by omega)]; exact (by rw [f82 72 (by omega)]; exact (by rw [f53 72 (by omega)]; exact w22))))
    have I256 : jI106 σ213 := ⟨(by omega), w253, w254, w255⟩
    have I257 : jI120 σ213 := ⟨(by omega), (by omega), (by omega), (by omega), (by omega), w217⟩
    have p258 : jKept σ213 := jKept.fr (by rw [f215 75 (by omega)]) (by rw [f215 76 (by omega)]) (by rw [f215 77 (by omega)]) p184
    refine jcallV (As := [.int a1]) (rest := []) ⟨hx, hb, hml, hown, hts⟩ hK hP hA hS hZ (c_X12_meanFrom_2 l D cI cL ad zz hJ σ213 τ a1 (A1) t1 I236 I240 I242 I248 I251 I256 I257 p258 (by omega) (by omega)) cw_RX12_324 (jc_55 cI cL ad σ213 τ) rfl ⟨Nat.le_of_ble_eq_true rfl, Nat.le_of_ble_eq_true rfl⟩ rfl rfl rfl hl.1 rfl (Nat.le_of_ble_eq_true rfl) dX12_meanFrom_78 ⟨Nat.zero_le _, Nat.zero_le _⟩ (fun r260 σ259 τ259 H locs h259 hP hS => ?_)
    obtain ⟨rfl, f261, f262, p263, h259⟩ := h259
    refine lv_istore (lv' := [(8, .int r260), (6, .int r214), (7, .int r162), (5, .int x107), (4, .int r81), (3, .int x62), (2, .int r52), (0, .ref (ad 55)), (1, .int a1)]) hx hb dX12_meanFrom_81 hl (by decide) rfl (fun ls hl => ?_)
    refine lv_aload_n hx hb dX12_meanFrom_83 rfl (lv_at hl 7 rfl) ?_
    refine lv_iload_n hx hb dX12_meanFrom_84 rfl (lv_at hl 6 rfl) ?_
    refine lv_iconst (v := 0) hx hb dX12_meanFrom_85 (by decide) ?_
    refine lv_iload hx hb dX12_meanFrom_86 (lv_at hl 1 rfl) ?_
    have w264 : ∀ k : Nat, k < 4 → 0 ≤ (σ259 68 k).toInt ∧ (σ259 68 k).toInt ≤ 3 := (by rw [f261 68 (by omega)]; exact w217)
    have z265 : (σ259 55 25).toInt = (σ213 55 25).toInt := by rw [(show σ259 55 25 = (σ213 55 25) from (by rw [f262 25 (by omega)]))]
    have z266 : (σ259 55 26).toInt = (σ213 55 26).toInt := by rw [(show σ259 55 26 = (σ213 55 26) from (by rw [f262 26 (by omega)]))]
    have z267 : (σ259 55 6).toInt = (σ 55 6).toInt := by rw [(show σ259 55 6 = (σ 55 6) from (by rw [f262 6 (by omega)]; exact (by rw [f216 6 (by omega)]; exact (by rw [f195 6 (by omega)]; exact (by rw [f83 6 (by omega)]; exact (by rw [f54 6 (by omega)]))))))]
    have w268 : ∀ k : Nat, k < 4 → 0 ≤ (σ173 68 k).toInt ∧ (σ173 68 k).toInt ≤ 3 := w204
    have z270 : (σ173 55 27).toInt = (σ 55 27).toInt := by rw [(show σ173 55 27 = (σ 55 27) from (by rw [f195 27 (by omega)]; exact (by rw [f83 27 (by omega)]; exact (by rw [f54 27 (by omega)]))))]
    have k269 := jwas (by omega) (w268 0 (by decide)) (w268 1 (by decide)) (w268 2 (by decide)) (w268 3 (by decide)) k224
    rw [← (show σ259 55 6 = σ173 55 6 from (by rw [f262 6 (by omega), f216 6 (by omega)]))] at k269
    refine jcallVv (As := [.int r52, .int 0, .int r214]) (rest := []) ⟨hx, hb, hml, hown, hts⟩ hK hP hA hS hZ (c_X12_goesBack_0 l D cI cL ad zz hJ σ259 τ r52 (r52.toInt) rfl r214 (r214.toInt) rfl w264 (by omega) (by omega) (by omega) k269) cw_RX12_300 (jc_55 cI cL ad σ259 τ) rfl ⟨Nat.le_of_ble_eq_true rfl, Nat.le_of_ble_eq_true rfl⟩ rfl rfl rfl hl.1 rfl (Nat.le_of_ble_eq_true rfl) dX12_meanFrom_88 ⟨Nat.zero_le _, Nat.zero_le _⟩ (fun σ271 τ271 H locs h271 hP hS => ?_)
    obtain ⟨rfl, f273, f274, w275, w276, w277, h271⟩ := h271
    obtain ⟨k278, k279, k280, k281, h271⟩ := h271
    have p282 : jKept σ271 := jKept.fr (by rw [f273 75 (by omega)]) (by rw [f273 76 (by omega)]) (by rw [f273 77 (by omega)]) p263
    have e283 : σ259 69 = σ213 69 := (by rw [f261 69 (by omega)])
    have e284 : σ271 69 = σ173 69 := jback69 w218 e283 w276
    have e285 : σ259 68 = σ213 68 := (by rw [f261 68 (by omega)])
    have e286 : σ259 55 6 = σ173 55 6 := (by rw [f262 6 (by omega), f216 6 (by omega)])
    have w294 : ∀ k : Nat, k < 4 → 0 ≤ (σ173 68 k).toInt ∧ (σ173 68 k).toInt ≤ 3 := w204
    have w295 : ∀ k : Nat, k < 4 → 0 ≤ (σ271 68 k).toInt ∧ (σ271 68 k).toInt ≤ 3 := w275
    have k296 := k281
    rw [e286] at k296
    have D287 := jdig (w294 0 (by decide)) (w294 1 (by decide)) (w294 2 (by decide)) (w294 3 (by decide)) (w295 0 (by decide)) (w295 1 (by decide)) (w295 2 (by decide)) (w295 3 (by decide)) k224 k296
    have e288 : σ271 55 27 = σ173 55 27 := Int32.toInt_inj.mp (by have h9 := D287.1; omega)
    have z297 : (σ259 55 26).toInt = (σ213 55 26).toInt := by rw [(show σ259 55 26 = (σ213 55 26) from (by rw [f262 26 (by omega)]))]
    have z298 : (σ173 55 26).toInt = (σ 55 26).toInt := by rw [(show σ173 55 26 = (σ 55 26) from (by rw [f195 26 (by omega)]; exact (by rw [f83 26 (by omega)]; exact (by rw [f54 26 (by omega)]))))]
    have z299 : (σ259 55 25).toInt = (σ213 55 25).toInt := by rw [(show σ259 55 25 = (σ213 55 25) from (by rw [f262 25 (by omega)]))]
    have z300 : (σ173 55 25).toInt = (σ 55 25).toInt := by rw [(show σ173 55 25 = (σ 55 25) from (by rw [f195 25 (by omega)]; exact (by rw [f83 25 (by omega)]; exact (by rw [f54 25 (by omega)]))))]
    have e289 : σ271 55 26 = σ173 55 26 := Int32.toInt_inj.mp (by omega)
    have e290 : σ271 55 25 = σ173 55 25 := Int32.toInt_inj.mp (by omega)
    have z301 : (σ173 55 6).toInt = (σ 55 6).toInt := by rw [(show σ173 55 6 = (σ 55 6) from (by rw [f195 6 (by omega)]; exact (by rw [f83 6 (by omega)]; exact (by rw [f54 6 (by omega)]))))]
    have e291 : σ271 68 = σ173 68 := jback68 (nb := (σ173 55 6).toInt) (by omega) w219 e285 (fun k hk => w277 k (by rw [e286]; exact hk)) D287.2
    have f292 : (∀ i : Nat, (i < 55 ∨ 55 < i) ∧ (i < 66 ∨ 66 < i) ∧ (i < 74 ∨ 78 < i) → σ271 i = σ173 i) := fun i hi => by
      by_cases h8 : i = 68
      · rw [h8]; exact e291
      by_cases h9 : i = 69
      · rw [h9]; exact e284
      rw [f273 i (by omega), f261 i (by omega), f215 i (by omega)]
    have f293 : ∀ k : Nat, (k < 18 ∨ 18 < k) ∧ (k < 19 ∨ 19 < k) ∧ (k < 20 ∨ 20 < k) ∧ (k < 21 ∨ 21 < k) ∧ (k < 22 ∨ 22 < k) ∧ (k < 37 ∨ 37 < k) → σ271 55 k = σ173 55 k := fun k hk => by
      by_cases h25 : k = 25
      · rw [h25]; exact e290
      by_cases h26 : k = 26
      · rw [h26]; exact e289
      by_cases h27 : k = 27
      · rw [h27]; exact e288
      rw [f274 k (by omega), f262 k (by omega), f216 k (by omega)]
    clear k296 k281 k224
    refine lv_iload hx hb dX12_meanFrom_91 (lv_at hl 3 rfl) ?_
    refine lv_sipush (v := 1000) hx hb dX12_meanFrom_93 (by decide) ?_
    refine lv_aload_n hx hb dX12_meanFrom_96 rfl (lv_at hl 7 rfl) ?_
    refine va_get (D := D) hx hb hts inlX12 hown hK hP 55 (jc_55 cI cL ad σ271 τ) rfl 13 (by decide) (hts _ kw_15_14) (fun _ h9 => h9) rfl dX12_meanFrom_97 ?_
    have m302 : σ271 55 13 = (σ 55 13) := (by rw [f293 13 (by omega)]; exact (by rw [f195 13 (by omega)]; exact (by rw [f83 13 (by omega)]; exact (by rw [f54 13 (by omega)]))))
    refine jtopr m302 ?_
    have g303 := jrg (rfl : (σ 55 13).toInt = (σ 55 13).toInt)
    refine lv_isub hx hb dX12_meanFrom_100 ?_
    refine lv_topi (fun x304 ex304 => ?_)
    have tx304 : x304.toInt = -(σ 55 13).toInt + 1000 := (jsub ex304 jz_1000 rfl (by omega) (by omega)).trans (by omega)
    refine lv_i2l (v := x304.toInt64) hx hb dX12_meanFrom_101 rfl ?_
    refine lv_iload hx hb dX12_meanFrom_102 (lv_at hl 2 rfl) ?_
    refine lv_iload hx hb dX12_meanFrom_104 (lv_at hl 0 rfl) ?_
    refine lv_iload hx hb dX12_meanFrom_106 (lv_at hl 4 rfl) ?_
    refine jcallS (As := [.int r162, .int r260, .int r81]) (rest := [.long x304.toInt64, .int x107]) ⟨hx, hb, hml, hown, hts⟩ hK hP hA hS hZ (c_X12_mixed l D cI cL ad zz hJ σ271 τ r162 (r162.toInt) rfl r260 (r260.toInt) rfl r81 (r81.toInt) rfl) cw_RX12_304 ⟨Nat.le_of_ble_eq_true rfl, Nat.le_of_ble_eq_true rfl⟩ rfl rfl rfl hl.1 rfl (Nat.le_of_ble_eq_true rfl) dX12_meanFrom_108 ⟨Nat.zero_le _, Nat.zero_le _⟩ (fun r306 σ305 τ305 H locs h305 hP hS => ?_)
    obtain ⟨⟨rfl, rfl⟩, h305⟩ := h305
    refine lv_i2l (v := r306.toInt64) hx hb dX12_meanFrom_111 rfl ?_
    refine lv_lmul hx hb dX12_meanFrom_112 ?_
    refine lv_topl (fun lx307 elx307 => ?_)
    refine lv_ldc2 (v := 1000) hx hb hown (hts _ kw_34_19) dX12_meanFrom_113 ?_
    refine lv_ldiv hx hb dX12_meanFrom_116 (by decide) ?_
    refine lv_topl (fun lx308 elx308 => ?_)
    refine lv_l2i hx hb dX12_meanFrom_117 rfl ?_
    refine lv_topi (fun x309 ex309 => ?_)
    have gx309 := jrg (rfl : x309.toInt = x309.toInt)
    have g310 := jrg (rfl : x309.toInt = x309.toInt)
    refine lv_iadd hx hb dX12_meanFrom_118 ?_
    refine lv_topi (fun x311 ex311 => ?_)
    have gx311 := jrg (rfl : x311.toInt = x311.toInt)
    exact hret x311 σ271 τ _ _ _ _ rfl ⟨rfl, (fun i hi => by rw [f292 i (by omega), f194 i (by omega), f82 i (by omega), f53 i (by omega)]), (fun k hk => by rw [f293 k (by omega), f195 k (by omega), f83 k (by omega), f54 k (by omega)]), p282, trivial⟩ hP hS dX12_meanFrom_119
set_option maxHeartbeats 4000000 in
set_option maxRecDepth 100000 in
theorem c_X12_meanFrom_4 (l : Launch) (D : va_G) (cI cL : ClassId) (ad zz : Nat → Nat) (hJ : jD ad) (σ : Nat → Nat → Int32) (τ : Nat → Nat → Int64) (a1 : Int32) (A1 : Int) (t1 : a1.toInt = A1) (hI101 : jI101 σ) (hI102 : jI102 σ) (hI103 : jI103 σ) (hI104 : jI104 σ) (hI105 : jI105 σ) (hI106 : jI106 σ) (hI120 : jI120 σ) (hs_jKept : jKept σ) (hp0 : 0 ≤ A1 ∧ A1 ≤ 19) (hp1 : (σ 55 12).toInt - (σ 55 26).toInt ≤ 4) : jM l yX12_meanFrom cX12_meanFrom 9 (some .int) ({ frames := 66, cells := 0, slots := 0, locals := 1597 }) D cI cL ad zz [.ref (ad 55), .int a1] σ τ (fun r σ' τ' => τ = τ' ∧ (∀ i : Nat, (i < 55 ∨ 55 < i) ∧ (i < 66 ∨ 66 < i) ∧ (i < 74 ∨ 78 < i) → σ' i = σ i) ∧ (∀ k : Nat, (k < 18 ∨ 18 < k) ∧ (k < 19 ∨ 19 < k) ∧ (k < 20 ∨ 20 < k) ∧ (k < 21 ∨ 21 < k) ∧ (k < 22 ∨ 22 < k) ∧ (k < 37 ∨ 37 < k) → σ' 55 k = σ 55 k) ∧ (jKept σ') ∧ True) := by
  refine jM.of hJ (by decide +kernel) (nt := .int) rfl (Nat.le_of_ble_eq_true rfl) ?_
  intro p e s m args below meth c Q ls hC hret hl hP
  obtain ⟨hx, hb, hr, hml, hown, hts, hK, -, hlocks, hZ⟩ := hC
  have hown : s.vm.findClass RX12 = some m.cls := hown
  have hS : va_S (jA ad) s.heap s.heap [] := va_S.rf
  have hA : ∀ q, jA ad q → jA ad q := fun _ h => h
  have hl : lv_has ls 9 [(0, .ref (ad 55)), (1, .int a1)] := hl
  have g1 := jrg t1
  obtain ⟨i1, i2, i3, w4, w5, w6, w7⟩ : (0 ≤ (σ 55 5).toInt) ∧ ((σ 55 5).toInt ≤ (σ 55 4).toInt) ∧ ((σ 55 4).toInt ≤ 40) ∧ (∀ k : Nat, k < 68 → (-200) ≤ (σ 56 k).toInt ∧ (σ 56 k).toInt ≤ 500) ∧ (∀ k : Nat, k < 40 → 0 ≤ (σ 57 k).toInt ∧ (σ 57 k).toInt ≤ 67) ∧ (∀ k : Nat, k < 40 → (-200) ≤ (σ 58 k).toInt ∧ (σ 58 k).toInt ≤ 500) ∧ (∀ k : Nat, k < 40 → (-200) ≤ (σ 59 k).toInt ∧ (σ 59 k).toInt ≤ 500) := id hI101
  obtain ⟨i8, w9, w10⟩ : (0 ≤ (σ 55 6).toInt ∧ (σ 55 6).toInt ≤ 4) ∧ (∀ k : Nat, k < 4 → 0 ≤ (σ 60 k).toInt ∧ (σ 60 k).toInt ≤ 50) ∧ (∀ k : Nat, k < 4 → 0 ≤ (σ 61 k).toInt ∧ (σ 61 k).toInt ≤ 20) := id hI102
  have i11 : 0 ≤ (σ 55 9).toInt ∧ (σ 55 9).toInt ≤ 3 := hI103
  obtain ⟨i12, i13, i14, w15, w16⟩ : (1 ≤ (σ 55 10).toInt ∧ (σ 55 10).toInt ≤ 8) ∧ (1 ≤ (σ 55 12).toInt ∧ (σ 55 12).toInt ≤ 12) ∧ (0 ≤ (σ 55 13).toInt ∧ (σ 55 13).toInt ≤ 999) ∧ (∀ k : Nat, k < 8 → 0 ≤ (σ 62 k).toInt ∧ (σ 62 k).toInt ≤ 3) ∧ (∀ k : Nat, k < 8 → 0 ≤ (σ 67 k).toInt ∧ (σ 67 k).toInt ≤ 3) := id hI104
  obtain ⟨i17, w18⟩ : (0 ≤ (σ 55 15).toInt ∧ (σ 55 15).toInt ≤ 80) ∧ (∀ k : Nat, k < 2 → (-1) ≤ (σ 65 k).toInt ∧ (σ 65 k).toInt ≤ 80) := id hI105
  obtain ⟨i19, w20, w21, w22⟩ : (0 ≤ (σ 55 32).toInt ∧ (σ 55 32).toInt ≤ 20) ∧ (∀ k : Nat, k < 20 → 0 ≤ (σ 70 k).toInt ∧ (σ 70 k).toInt ≤ 6) ∧ (∀ k : Nat, k < 20 → 0 ≤ (σ 71 k).toInt ∧ (σ 71 k).toInt ≤ 8) ∧ (∀ k : Nat, k < 160 → 0 ≤ (σ 72 k).toInt ∧ (σ 72 k).toInt ≤ 3) := id hI106
  obtain ⟨i23, i24, i25, i26, i27, w28⟩ : (0 ≤ (σ 55 25).toInt) ∧ ((σ 55 25).toInt ≤ (σ 55 10).toInt) ∧ (0 ≤ (σ 55 26).toInt) ∧ ((σ 55 26).toInt ≤ (σ 55 12).toInt) ∧ ((-1) ≤ (σ 55 27).toInt ∧ (σ 55 27).toInt ≤ 3) ∧ (∀ k : Nat, k < 4 → 0 ≤ (σ 68 k).toInt ∧ (σ 68 k).toInt ≤ 3) := id hI120
  refine lv_aload_n hx hb dX12_meanFrom_0 rfl (lv_at hl 0 rfl) ?_
  have I29 : jI102 σ := ⟨(by omega), w9, w10⟩
  have I30 : jI104 σ := ⟨(by omega), (by omega), (by omega), w15, w16⟩
  have I31 : jI120 σ := ⟨(by omega), (by omega), (by omega), (by omega), (by omega), w28⟩
  refine jcallV (As := []) (rest := []) ⟨hx, hb, hml, hown, hts⟩ hK hP hA hS hZ (c_X12_isEnded l D cI cL ad zz hJ σ τ I29 I30 I31) cw_RX12_307 (jc_55 cI cL ad σ τ) rfl ⟨Nat.le_of_ble_eq_true rfl, Nat.le_of_ble_eq_true rfl⟩ rfl rfl rfl hl.1 rfl (Nat.le_of_ble_eq_true rfl) dX12_meanFrom_1 ⟨Nat.zero_le _, Nat.zero_le _⟩ (fun r33 σ32 τ32 H locs h32 hP hS => ?_)
  obtain ⟨⟨rfl, rfl⟩, h32⟩ := h32
  rcases h32 with h34 | h35
  · obtain ⟨q37, k36⟩ := h34
    have q37 := q37.symm
    subst q37
    refine lv_if_eq (tgt := 9) hx hb dX12_meanFrom_4 (by decide) (fun c => absurd c (by decide)) (fun _ => ?_)
    refine lv_iconst (v := 0) hx hb dX12_meanFrom_7 (by decide) ?_
    exact hret 0 σ τ _ _ _ _ rfl ⟨rfl, (fun _ _ => rfl), (fun _ _ => rfl), hs_jKept, trivial⟩ hP hS dX12_meanFrom_8
  · obtain ⟨q41, k38, k39, k40⟩ := h35
    have q41 := q41.symm
    subst q41
    obtain ⟨B42, k43, k44, w45⟩ := k40
    refine lv_if_eq (tgt := 9) hx hb dX12_meanFrom_4 (by decide) (fun _ => ?_) (fun c => absurd (by decide) c)
    refine lv_aload_n hx hb dX12_meanFrom_9 rfl (lv_at hl 0 rfl) ?_
    refine lv_iload_n hx hb dX12_meanFrom_10 rfl (lv_at hl 1 rfl) ?_
    have p46 : jmb σ B42 = 1 := (jmb_fr rfl rfl rfl rfl rfl B42).trans w45
    have I47 : jI101 σ := ⟨(by omega), (by omega), (by omega), w4, w5, w6, w7⟩
    have I48 : jI103 σ := (show 0 ≤ (σ 55 9).toInt ∧ (σ 55 9).toInt ≤ 3 by omega)
    have I49 : jI105 σ := ⟨(by omega), w18⟩
    have I50 : jI106 σ := ⟨(by omega), w20, w21, w22⟩
    refine jcallV (As := [.int a1]) (rest := []) ⟨hx, hb, hml, hown, hts⟩ hK hP hA hS hZ (c_X12_putsOn l D cI cL ad zz hJ σ τ B42 p46 a1 (A1) t1 I47 I29 I48 I30 I49 I50 I31 hs_jKept (by omega) (by omega) (by omega) (by omega) (by omega)) cw_RX12_321 (jc_55 cI cL ad σ τ) rfl ⟨Nat.le_of_ble_eq_true rfl, Nat.le_of_ble_eq_true rfl⟩ rfl rfl rfl hl.1 rfl (Nat.le_of_ble_eq_true rfl) dX12_meanFrom_11 ⟨Nat.zero_le _, Nat.zero_le _⟩ (fun r52 σ51 τ51 H locs h51 hP hS => ?_)
    obtain ⟨rfl, f53, f54, p55, h51⟩ := h51
    have h56 := h51
    obtain ⟨q58, k57⟩ := h56
    refine lv_istore_n (lv' := [(2, .int r52), (0, .ref (ad 55)), (1, .int a1)]) hx hb dX12_meanFrom_14 rfl hl (by decide) rfl (fun ls hl => ?_)
    refine lv_aload_n hx hb dX12_meanFrom_15 rfl (lv_at hl 1 rfl) ?_
    refine va_get (D := D) hx hb hts inlX12 hown hK hP 55 (jc_55 cI cL ad σ51 τ) rfl 11 (by decide) (hts _ kw_7_8) (fun _ h9 => h9) rfl dX12_meanFrom_16 ?_
    refine lv_aload_n hx hb dX12_meanFrom_19 rfl (lv_at hl 1 rfl) ?_
    refine va_get (D := D) hx hb hts inlX12 hown hK hP 55 (jc_55 cI cL ad σ51 τ) rfl 25 (by decide) (hts _ kw_23_6) (fun _ h9 => h9) rfl dX12_meanFrom_20 ?_
    have m59 : σ51 55 25 = (σ 55 25) := (by rw [f54 25 (by omega)])
    refine jtopr m59 ?_
    refine jald hx hb hK hP (jc_62 cI cL ad σ51 τ) (jin rfl (by omega) (by omega)) dX12_meanFrom_23 ?_
    have w60 : ∀ k : Nat, k < 8 → 0 ≤ (σ51 62 k).toInt ∧ (σ51 62 k).toInt ≤ 3 := (by rw [f53 62 (by omega)]; exact w15)
    have g61 := w60 _ (jnat (x := (σ 55 25)) rfl (n := 8) (by omega) (by decide))
    refine lv_topi (fun x62 ex62 => ?_)
    rw [← ex62] at g61
    refine lv_istore_n (lv' := [(3, .int x62), (2, .int r52), (0, .ref (ad 55)), (1, .int a1)]) hx hb dX12_meanFrom_24 rfl hl (by decide) rfl (fun ls hl => ?_)
    refine lv_aload_n hx hb dX12_meanFrom_25 rfl (lv_at hl 2 rfl) ?_
    refine lv_iload_n hx hb dX12_meanFrom_26 rfl (lv_at hl 1 rfl) ?_
    refine lv_iload_n hx hb dX12_meanFrom_27 rfl (lv_at hl 0 rfl) ?_
    have z63 : (σ51 55 5).toInt = (σ 55 5).toInt := by rw [(show σ51 55 5 = (σ 55 5) from (by rw [f54 5 (by omega)]))]
    have z64 : (σ51 55 4).toInt = (σ 55 4).toInt := by rw [(show σ51 55 4 = (σ 55 4) from (by rw [f54 4 (by omega)]))]
    have w65 : ∀ k : Nat, k < 68 → (-200) ≤ (σ51 56 k).toInt ∧ (σ51 56 k).toInt ≤ 500 := (by rw [f53 56 (by omega)]; exact w4)
    have w66 : ∀ k : Nat, k < 40 → 0 ≤ (σ51 57 k).toInt ∧ (σ51 57 k).toInt ≤ 67 := (by rw [f53 57 (by omega)]; exact w5)
    have w67 : ∀ k : Nat, k < 40 → (-200) ≤ (σ51 58 k).toInt ∧ (σ51 58 k).toInt ≤ 500 := (by rw [f53 58 (by omega)]; exact w6)
    have w68 : ∀ k : Nat, k < 40 → (-200) ≤ (σ51 59 k).toInt ∧ (σ51 59 k).toInt ≤ 500 := (by rw [f53 59 (by omega)]; exact w7)
    have I69 : jI101 σ51 := ⟨(by omega), (by omega), (by omega), w65, w66, w67, w68⟩
    have z70 : (σ51 55 6).toInt = (σ 55 6).toInt := by rw [(show σ51 55 6 = (σ 55 6) from (by rw [f54 6 (by omega)]))]
    have w71 : ∀ k : Nat, k < 4 → 0 ≤ (σ51 60 k).toInt ∧ (σ51 60 k).toInt ≤ 50 := (by rw [f53 60 (by omega)]; exact w9)
    have w72 : ∀ k : Nat, k < 4 → 0 ≤ (σ51 61 k).toInt ∧ (σ51 61 k).toInt ≤ 20 := (by rw [f53 61 (by omega)]; exact w10)
    have I73 : jI102 σ51 := ⟨(by omega), w71, w72⟩
    have z74 : (σ51 55 9).toInt = (σ 55 9).toInt := by rw [(show σ51 55 9 = (σ 55 9) from (by rw [f54 9 (by omega)]))]
    have I75 : jI103 σ51 := (show 0 ≤ (σ51 55 9).toInt ∧ (σ51 55 9).toInt ≤ 3 by omega)
    have z76 : (σ51 55 15).toInt = (σ 55 15).toInt := by rw [(show σ51 55 15 = (σ 55 15) from (by rw [f54 15 (by omega)]))]
    have w77 : ∀ k : Nat, k < 2 → (-1) ≤ (σ51 65 k).toInt ∧ (σ51 65 k).toInt ≤ 80 := (by rw [f53 65 (by omega)]; exact w18)
    have I78 : jI105 σ51 := ⟨(by omega), w77⟩
    have w79 : ∀ k : Nat, k < 4 → 0 ≤ (σ51 68 k).toInt ∧ (σ51 68 k).toInt ≤ 3 := (by rw [f53 68 (by omega)]; exact w28)
    refine jcallV (As := [.int r52, .int x62]) (rest := []) ⟨hx, hb, hml, hown, hts⟩ hK hP hA hS hZ (c_X12_outBy l D cI cL ad zz hJ σ51 τ r52 (r52.toInt) rfl x62 (x62.toInt) rfl I69 I73 I75 I78 w79 (by omega) (by omega)) cw_RX12_259 (jc_55 cI cL ad σ51 τ) rfl ⟨Nat.le_of_ble_eq_true rfl, Nat.le_of_ble_eq_true rfl⟩ rfl rfl rfl hl.1 rfl (Nat.le_of_ble_eq_true rfl) dX12_meanFrom_28 ⟨Nat.zero_le _, Nat.zero_le _⟩ (fun r81 σ80 τ80 H locs h80 hP hS => ?_)
    obtain ⟨rfl, f82, f83, h80⟩ := h80
    have h84 := h80
    obtain ⟨q86, k85⟩ := h84
    refine lv_istore (lv' := [(4, .int r81), (3, .int x62), (2, .int r52), (0, .ref (ad 55)), (1, .int a1)]) hx hb dX12_meanFrom_31 hl (by decide) rfl (fun ls hl => ?_)
    refine lv_sipush (v := 1000) hx hb dX12_meanFrom_33 (by decide) ?_
    refine lv_aload_n hx hb dX12_meanFrom_36 rfl (lv_at hl 3 rfl) ?_
    refine lv_iload_n hx hb dX12_meanFrom_37 rfl (lv_at hl 2 rfl) ?_
    refine lv_iload_n hx hb dX12_meanFrom_38 rfl (lv_at hl 1 rfl) ?_
    have z87 : (σ80 55 5).toInt = (σ 55 5).toInt := by rw [(show σ80 55 5 = (σ 55 5) from (by rw [f83 5 (by omega)]; exact (by rw [f54 5 (by omega)])))]
    have z88 : (σ80 55 4).toInt = (σ 55 4).toInt := by rw [(show σ80 55 4 = (σ 55 4) from (by rw [f83 4 (by omega)]; exact (by rw [f54 4 (by omega)])))]
    have w89 : ∀ k : Nat, k < 68 → (-200) ≤ (σ80 56 k).toInt ∧ (σ80 56 k).toInt ≤ 500 := (by rw [f82 56 (by omega)]; exact w65)
    have w90 : ∀ k : Nat, k < 40 → 0 ≤ (σ80 57 k).toInt ∧ (σ80 57 k).toInt ≤ 67 := (by rw [f82 57 (by omega)]; exact w66)
    have w91 : ∀ k : Nat, k < 40 → (-200) ≤ (σ80 58 k).toInt ∧ (σ80 58 k).toInt ≤ 500 := (by rw [f82 58 (by omega)]; exact w67)
    have w92 : ∀ k : Nat, k < 40 → (-200) ≤ (σ80 59 k).toInt ∧ (σ80 59 k).toInt ≤ 500 := (by rw [f82 59 (by omega)]; exact w68)
    have I93 : jI101 σ80 := ⟨(by omega), (by omega), (by omega), w89, w90, w91, w92⟩
    have z94 : (σ80 55 6).toInt = (σ 55 6).toInt := by rw [(show σ80 55 6 = (σ 55 6) from (by rw [f83 6 (by omega)]; exact (by rw [f54 6 (by omega)])))]
    have w95 : ∀ k : Nat, k < 4 → 0 ≤ (σ80 60 k).toInt ∧ (σ80 60 k).toInt ≤ 50 := (by rw [f82 60 (by omega)]; exact w71)
    have w96 : ∀ k : Nat, k < 4 → 0 ≤ (σ80 61 k).toInt ∧ (σ80 61 k).toInt ≤ 20 := (by rw [f82 61 (by omega)]; exact w72)
    have I97 : jI102 σ80 := ⟨(by omega), w95, w96⟩
    have z98 : (σ80 55 9).toInt = (σ 55 9).toInt := by rw [(show σ80 55 9 = (σ 55 9) from (by rw [f83 9 (by omega)]; exact (by rw [f54 9 (by omega)])))]
    have I99 : jI103 σ80 := (show 0 ≤ (σ80 55 9).toInt ∧ (σ80 55 9).toInt ≤ 3 by omega)
    have w100 : ∀ k : Nat, k < 4 → 0 ≤ (σ80 68 k).toInt ∧ (σ80 68 k).toInt ≤ 3 := (by rw [f82 68 (by omega)]; exact w79)
    refine jcallV (As := [.int r52, .int x62]) (rest := [.int 1000]) ⟨hx, hb, hml, hown, hts⟩ hK hP hA hS hZ (c_X12_runsBy l D cI cL ad zz hJ σ80 τ r52 (r52.toInt) rfl x62 (x62.toInt) rfl I93 I97 I99 w100 (by omega) (by omega)) cw_RX12_262 (jc_55 cI cL ad σ80 τ) rfl ⟨Nat.le_of_ble_eq_true rfl, Nat.le_of_ble_eq_true rfl⟩ rfl rfl rfl hl.1 rfl (Nat.le_of_ble_eq_true rfl) dX12_meanFrom_39 ⟨Nat.zero_le _, Nat.zero_le _⟩ (fun r102 σ101 τ101 H locs h101 hP hS => ?_)
    obtain ⟨⟨rfl, rfl⟩, h101⟩ := h101
    have h103 := h101
    obtain ⟨q105, k104⟩ := h103
    have g106 := jrg (rfl : r102.toInt = r102.toInt)
    refine lv_imul hx hb dX12_meanFrom_42 ?_
    refine lv_topi (fun x107 ex107 => ?_)
    have tx107 : x107.toInt = 1000 * r102.toInt := (jmul ex107 jz_1000 rfl (by omega) (by omega)).trans (by omega)
    refine lv_istore (lv' := [(5, .int x107), (4, .int r81), (3, .int x62), (2, .int r52), (0, .ref (ad 55)), (1, .int a1)]) hx hb dX12_meanFrom_43 hl (by decide) rfl (fun ls hl => ?_)
    refine lv_aload_n hx hb dX12_meanFrom_45 rfl (lv_at hl 4 rfl) ?_
    refine lv_iload_n hx hb dX12_meanFrom_46 rfl (lv_at hl 3 rfl) ?_
    refine lv_iconst (v := 1) hx hb dX12_meanFrom_47 (by decide) ?_
    have z108 : (σ80 55 27).toInt = (σ 55 27).toInt := by rw [(show σ80 55 27 = (σ 55 27) from (by rw [f83 27 (by omega)]; exact (by rw [f54 27 (by omega)])))]
    have z109 : (σ80 55 25).toInt = (σ 55 25).toInt := by rw [(show σ80 55 25 = (σ 55 25) from (by rw [f83 25 (by omega)]; exact m59))]
    have z110 : (σ80 55 26).toInt = (σ 55 26).toInt := by rw [(show σ80 55 26 = (σ 55 26) from (by rw [f83 26 (by omega)]; exact (by rw [f54 26 (by omega)])))]
    have z111 : (σ80 68 0).toInt = (σ 68 0).toInt := by rw [(show σ80 68 0 = (σ 68 0) from (by rw [f82 68 (by omega)]; exact (by rw [f53 68 (by omega)])))]
    have z112 : (σ80 68 1).toInt = (σ 68 1).toInt := by rw [(show σ80 68 1 = (σ 68 1) from (by rw [f82 68 (by omega)]; exact (by rw [f53 68 (by omega)])))]
    have z113 : (σ80 68 2).toInt = (σ 68 2).toInt := by rw [(show σ80 68 2 = (σ 68 2) from (by rw [f82 68 (by omega)]; exact (by rw [f53 68 (by omega)])))]
    have z114 : (σ80 68 3).toInt = (σ 68 3).toInt := by rw [(show σ80 68 3 = (σ 68 3) from (by rw [f82 68 (by omega)]; exact (by rw [f53 68 (by omega)])))]
    refine jcallV (As := [.int r52, .int 1]) (rest := []) ⟨hx, hb, hml, hown, hts⟩ hK hP hA hS hZ (c_X12_goes_1 l D cI cL ad zz hJ σ80 τ r52 (r52.toInt) rfl w100 (by omega) (by omega) (by omega) (by omega) (by omega)) cw_RX12_296 (jc_55 cI cL ad σ80 τ) rfl ⟨Nat.le_of_ble_eq_true rfl, Nat.le_of_ble_eq_true rfl⟩ rfl rfl rfl hl.1 rfl (Nat.le_of_ble_eq_true rfl) dX12_meanFrom_48 ⟨Nat.zero_le _, Nat.zero_le _⟩ (fun r116 σ115 τ115 H locs h115 hP hS => ?_)
    obtain ⟨rfl, f117, f118, w119, w120, w121, h115⟩ := h115
    obtain ⟨k122, k123, k124, h115⟩ := h115
    have h125 := h115
    obtain ⟨q131, k126, k127, k128, k129, k130⟩ := h125
    refine lv_istore (lv' := [(6, .int r116), (5, .int x107), (4, .int r81), (3, .int x62), (2, .int r52), (0, .ref (ad 55)), (1, .int a1)]) hx hb dX12_meanFrom_51 hl (by decide) rfl (fun ls hl => ?_)
    refine lv_aload_n hx hb dX12_meanFrom_53 rfl (lv_at hl 5 rfl) ?_
    refine lv_iload_n hx hb dX12_meanFrom_54 rfl (lv_at hl 6 rfl) ?_
    have z132 : (σ115 55 5).toInt = (σ 55 5).toInt := by rw [(show σ115 55 5 = (σ 55 5) from (by rw [f118 5 (by omega)]; exact (by rw [f83 5 (by omega)]; exact (by rw [f54 5 (by omega)]))))]
    have z133 : (σ115 55 4).toInt = (σ 55 4).toInt := by rw [(show σ115 55 4 = (σ 55 4) from (by rw [f118 4 (by omega)]; exact (by rw [f83 4 (by omega)]; exact (by rw [f54 4 (by omega)]))))]
    have w134 : ∀ k : Nat, k < 68 → (-200) ≤ (σ115 56 k).toInt ∧ (σ115 56 k).toInt ≤ 500 := (by rw [f117 56 (by omega)]; exact w89)
    have w135 : ∀ k : Nat, k < 40 → 0 ≤ (σ115 57 k).toInt ∧ (σ115 57 k).toInt ≤ 67 := (by rw [f117 57 (by omega)]; exact w90)
    have w136 : ∀ k : Nat, k < 40 → (-200) ≤ (σ115 58 k).toInt ∧ (σ115 58 k).toInt ≤ 500 := (by rw [f117 58 (by omega)]; exact w91)
    have w137 : ∀ k : Nat, k < 40 → (-200) ≤ (σ115 59 k).toInt ∧ (σ115 59 k).toInt ≤ 500 := (by rw [f117 59 (by omega)]; exact w92)
    have I138 : jI101 σ115 := ⟨(by omega), (by omega), (by omega), w134, w135, w136, w137⟩
    have z139 : (σ115 55 6).toInt = (σ 55 6).toInt := by rw [(show σ115 55 6 = (σ 55 6) from (by rw [f118 6 (by omega)]; exact (by rw [f83 6 (by omega)]; exact (by rw [f54 6 (by omega)]))))]
    have w140 : ∀ k : Nat, k < 4 → 0 ≤ (σ115 60 k).toInt ∧ (σ115 60 k).toInt ≤ 50 := (by rw [f117 60 (by omega)]; exact w95)
    have w141 : ∀ k : Nat, k < 4 → 0 ≤ (σ115 61 k).toInt ∧ (σ115 61 k).toInt ≤ 20 := (by rw [f117 61 (by omega)]; exact w96)
    have I142 : jI102 σ115 := ⟨(by omega), w140, w141⟩
    have z143 : (σ115 55 9).toInt = (σ 55 9).toInt := by rw [(show σ115 55 9 = (σ 55 9) from (by rw [f118 9 (by omega)]; exact (by rw [f83 9 (by omega)]; exact (by rw [f54 9 (by omega)]))))]
    have I144 : jI103 σ115 := (show 0 ≤ (σ115 55 9).toInt ∧ (σ115 55 9).toInt ≤ 3 by omega)
    have z145 : (σ115 55 10).toInt = (σ 55 10).toInt := by rw [(show σ115 55 10 = (σ 55 10) from (by rw [f118 10 (by omega)]; exact (by rw [f83 10 (by omega)]; exact (by rw [f54 10 (by omega)]))))]
    have z146 : (σ115 55 12).toInt = (σ 55 12).toInt := by rw [(show σ115 55 12 = (σ 55 12) from (by rw [f118 12 (by omega)]; exact (by rw [f83 12 (by omega)]; exact (by rw [f54 12 (by omega)]))))]
    have z147 : (σ115 55 13).toInt = (σ 55 13).toInt := by rw [(show σ115 55 13 = (σ 55 13) from (by rw [f118 13 (by omega)]; exact (by rw [f83 13 (by omega)]; exact (by rw [f54 13 (by omega)]))))]
    have w148 : ∀ k : Nat, k < 8 → 0 ≤ (σ115 62 k).toInt ∧ (σ115 62 k).toInt ≤ 3 := (by rw [f117 62 (by omega)]; exact (by rw [f82 62 (by omega)]; exact w60))
    have w149 : ∀ k : Nat, k < 8 → 0 ≤ (σ115 67 k).toInt ∧ (σ115 67 k).toInt ≤ 3 := (by rw [f117 67 (by omega)]; exact (by rw [f82 67 (by omega)]; exact (by rw [f53 67 (by omega)]; exact w16)))
    have I150 : jI104 σ115 := ⟨(by omega), (by omega), (by omega), w148, w149⟩
    have z151 : (σ115 55 15).toInt = (σ 55 15).toInt := by rw [(show σ115 55 15 = (σ 55 15) from (by rw [f118 15 (by omega)]; exact (by rw [f83 15 (by omega)]; exact (by rw [f54 15 (by omega)]))))]
    have w152 : ∀ k : Nat, k < 2 → (-1) ≤ (σ115 65 k).toInt ∧ (σ115 65 k).toInt ≤ 80 := (by rw [f117 65 (by omega)]; exact (by rw [f82 65 (by omega)]; exact w77))
    have I153 : jI105 σ115 := ⟨(by omega), w152⟩
    have z154 : (σ115 55 32).toInt = (σ 55 32).toInt := by rw [(show σ115 55 32 = (σ 55 32) from (by rw [f118 32 (by omega)]; exact (by rw [f83 32 (by omega)]; exact (by rw [f54 32 (by omega)]))))]
    have w155 : ∀ k : Nat, k < 20 → 0 ≤ (σ115 70 k).toInt ∧ (σ115 70 k).toInt ≤ 6 := (by rw [f117 70 (by omega)]; exact (by rw [f82 70 (by omega)]; exact (by rw [f53 70 (by omega)]; exact w20)))
    have w156 : ∀ k : Nat, k < 20 → 0 ≤ (σ115 71 k).toInt ∧ (σ115 71 k).toInt ≤ 8 := (by rw [f117 71 (by omega)]; exact (by rw [f82 71 (by omega)]; exact (by rw [f53 71 (by omega)]; exact w21)))
    have w157 : ∀ k : Nat, k < 160 → 0 ≤ (σ115 72 k).toInt ∧ (σ115 72 k).toInt ≤ 3 := (by rw [f117 72 (by omega)]; exact (by rw [f82 72 (by omega)]; exact (by rw [f53 72 (by omega)]; exact w22)))
    have I158 : jI106 σ115 := ⟨(by omega), w155, w156, w157⟩
    have I159 : jI120 σ115 := ⟨(by omega), (by omega), (by omega), (by omega), (by omega), w119⟩
    have p160 : jKept σ115 := jKept.fr (by rw [f117 75 (by omega), f82 75 (by omega)]) (by rw [f117 76 (by omega), f82 76 (by omega)]) (by rw [f117 77 (by omega), f82 77 (by omega)]) p55
    refine jcallV (As := [.int a1]) (rest := []) ⟨hx, hb, hml, hown, hts⟩ hK hP hA hS hZ (c_X12_meanFrom_3 l D cI cL ad zz hJ σ115 τ a1 (A1) t1 I138 I142 I144 I150 I153 I158 I159 p160 (by omega) (by omega)) cw_RX12_324 (jc_55 cI cL ad σ115 τ) rfl ⟨Nat.le_of_ble_eq_true rfl, Nat.le_of_ble_eq_true rfl⟩ rfl rfl rfl hl.1 rfl (Nat.le_of_ble_eq_true rfl) dX12_meanFrom_55 ⟨Nat.zero_le _, Nat.zero_le _⟩ (fun r162 σ161 τ161 H locs h161 hP hS => ?_)
    obtain ⟨rfl, f163, f164, p165, h161⟩ := h161
    refine lv_istore (lv' := [(7, .int r162), (6, .int r116), (5, .int x107), (4, .int r81), (3, .int x62), (2, .int r52), (0, .ref (ad 55)), (1, .int a1)]) hx hb dX12_meanFrom_58 hl (by decide) rfl (fun ls hl => ?_)
    refine lv_aload_n hx hb dX12_meanFrom_60 rfl (lv_at hl 6 rfl) ?_
    refine lv_iload_n hx hb dX12_meanFrom_61 rfl (lv_at hl 5 rfl) ?_
    refine lv_iconst (v := 1) hx hb dX12_meanFrom_62 (by decide) ?_
    refine lv_iload hx hb dX12_meanFrom_63 (lv_at hl 1 rfl) ?_
    have w166 : ∀ k : Nat, k < 4 → 0 ≤ (σ161 68 k).toInt ∧ (σ161 68 k).toInt ≤ 3 := (by rw [f163 68 (by omega)]; exact w119)
    have z167 : (σ161 55 25).toInt = (σ115 55 25).toInt := by rw [(show σ161 55 25 = (σ115 55 25) from (by rw [f164 25 (by omega)]))]
    have z168 : (σ161 55 26).toInt = (σ115 55 26).toInt := by rw [(show σ161 55 26 = (σ115 55 26) from (by rw [f164 26 (by omega)]))]
    have z169 : (σ161 55 6).toInt = (σ 55 6).toInt := by rw [(show σ161 55 6 = (σ 55 6) from (by rw [f164 6 (by omega)]; exact (by rw [f118 6 (by omega)]; exact (by rw [f83 6 (by omega)]; exact (by rw [f54 6 (by omega)])))))]
    have w170 : ∀ k : Nat, k < 4 → 0 ≤ (σ80 68 k).toInt ∧ (σ80 68 k).toInt ≤ 3 := w100
    have z172 : (σ80 55 27).toInt = (σ 55 27).toInt := by rw [(show σ80 55 27 = (σ 55 27) from (by rw [f83 27 (by omega)]; exact (by rw [f54 27 (by omega)])))]
    have k171 := jwas (by omega) (w170 0 (by decide)) (w170 1 (by decide)) (w170 2 (by decide)) (w170 3 (by decide)) k126
    rw [← (show σ161 55 6 = σ80 55 6 from (by rw [f164 6 (by omega), f118 6 (by omega)]))] at k171
    refine jcallVv (As := [.int r52, .int 1, .int r116]) (rest := []) ⟨hx, hb, hml, hown, hts⟩ hK hP hA hS hZ (c_X12_goesBack_1 l D cI cL ad zz hJ σ161 τ r52 (r52.toInt) rfl r116 (r116.toInt) rfl w166 (by omega) (by omega) (by omega) k171) cw_RX12_300 (jc_55 cI cL ad σ161 τ) rfl ⟨Nat.le_of_ble_eq_true rfl, Nat.le_of_ble_eq_true rfl⟩ rfl rfl rfl hl.1 rfl (Nat.le_of_ble_eq_true rfl) dX12_meanFrom_65 ⟨Nat.zero_le _, Nat.zero_le _⟩ (fun σ173 τ173 H locs h173 hP hS => ?_)
    obtain ⟨rfl, f175, f176, w177, w178, w179, h173⟩ := h173
    obtain ⟨k180, k181, k182, k183, h173⟩ := h173
    have p184 : jKept σ173 := jKept.fr (by rw [f175 75 (by omega)]) (by rw [f175 76 (by omega)]) (by rw [f175 77 (by omega)]) p165
    have e185 : σ161 69 = σ115 69 := (by rw [f163 69 (by omega)])
    have e186 : σ173 69 = σ80 69 := jback69 w120 e185 w178
    have e187 : σ161 68 = σ115 68 := (by rw [f163 68 (by omega)])
    have e188 : σ161 55 6 = σ80 55 6 := (by rw [f164 6 (by omega), f118 6 (by omega)])
    have w196 : ∀ k : Nat, k < 4 → 0 ≤ (σ80 68 k).toInt ∧ (σ80 68 k).toInt ≤ 3 := w100
    have w197 : ∀ k : Nat, k < 4 → 0 ≤ (σ173 68 k).toInt ∧ (σ173 68 k).toInt ≤ 3 := w177
    have k198 := k183
    rw [e188] at k198
    have D189 := jdig (w196 0 (by decide)) (w196 1 (by decide)) (w196 2 (by decide)) (w196 3 (by decide)) (w197 0 (by decide)) (w197 1 (by decide)) (w197 2 (by decide)) (w197 3 (by decide)) k126 k198
    have e190 : σ173 55 27 = σ80 55 27 := Int32.toInt_inj.mp (by have h9 := D189.1; omega)
    have z199 : (σ161 55 26).toInt = (σ115 55 26).toInt := by rw [(show σ161 55 26 = (σ115 55 26) from (by rw [f164 26 (by omega)]))]
    have z200 : (σ80 55 26).toInt = (σ 55 26).toInt := by rw [(show σ80 55 26 = (σ 55 26) from (by rw [f83 26 (by omega)]; exact (by rw [f54 26 (by omega)])))]
    have z201 : (σ161 55 25).toInt = (σ115 55 25).toInt := by rw [(show σ161 55 25 = (σ115 55 25) from (by rw [f164 25 (by omega)]))]
    have z202 : (σ80 55 25).toInt = (σ 55 25).toInt := by rw [(show σ80 55 25 = (σ 55 25) from (by rw [f83 25 (by omega)]; exact (by rw [f54 25 (by omega)])))]
    have e191 : σ173 55 26 = σ80 55 26 := Int32.toInt_inj.mp (by omega)
    have e192 : σ173 55 25 = σ80 55 25 := Int32.toInt_inj.mp (by omega)
    have z203 : (σ80 55 6).toInt = (σ 55 6).toInt := by rw [(show σ80 55 6 = (σ 55 6) from (by rw [f83 6 (by omega)]; exact (by rw [f54 6 (by omega)])))]
    have e193 : σ173 68 = σ80 68 := jback68 (nb := (σ80 55 6).toInt) (by omega) w121 e187 (fun k hk => w179 k (by rw [e188]; exact hk)) D189.2
    have f194 : (∀ i : Nat, (i < 55 ∨ 55 < i) ∧ (i < 66 ∨ 66 < i) ∧ (i < 74 ∨ 78 < i) → σ173 i = σ80 i) := fun i hi => by
      by_cases h8 : i = 68
      · rw [h8]; exact e193
      by_cases h9 : i = 69
      · rw [h9]; exact e186
      rw [f175 i (by omega), f163 i (by omega), f117 i (by omega)]
    have f195 : ∀ k : Nat, (k < 18 ∨ 18 < k) ∧ (k < 19 ∨ 19 < k) ∧ (k < 20 ∨ 20 < k) ∧ (k < 21 ∨ 21 < k) ∧ (k < 22 ∨ 22 < k) ∧ (k < 37 ∨ 37 < k) → σ173 55 k = σ80 55 k := fun k hk => by
      by_cases h25 : k = 25
      · rw [h25]; exact e192
      by_cases h26 : k = 26
      · rw [h26]; exact e191
      by_cases h27 : k = 27
      · rw [h27]; exact e190
      rw [f176 k (by omega), f164 k (by omega), f118 k (by omega)]
    clear k198 k183 k126
    refine lv_aload_n hx hb dX12_meanFrom_68 rfl (lv_at hl 6 rfl) ?_
    refine lv_iload_n hx hb dX12_meanFrom_69 rfl (lv_at hl 5 rfl) ?_
    refine lv_iconst (v := 0) hx hb dX12_meanFrom_70 (by decide) ?_
    have w204 : ∀ k : Nat, k < 4 → 0 ≤ (σ173 68 k).toInt ∧ (σ173 68 k).toInt ≤ 3 := (by rw [f194 68 (by omega)]; exact w100)
    have z205 : (σ173 55 6).toInt = (σ 55 6).toInt := by rw [(show σ173 55 6 = (σ 55 6) from (by rw [f195 6 (by omega)]; exact (by rw [f83 6 (by omega)]; exact (by rw [f54 6 (by omega)]))))]
    have z206 : (σ173 55 27).toInt = (σ 55 27).toInt := by rw [(show σ173 55 27 = (σ 55 27) from (by rw [f195 27 (by omega)]; exact (by rw [f83 27 (by omega)]; exact (by rw [f54 27 (by omega)]))))]
    have z207 : (σ173 55 25).toInt = (σ 55 25).toInt := by rw [(show σ173 55 25 = (σ 55 25) from (by rw [f195 25 (by omega)]; exact (by rw [f83 25 (by omega)]; exact m59)))]
    have z208 : (σ173 55 26).toInt = (σ 55 26).toInt := by rw [(show σ173 55 26 = (σ 55 26) from (by rw [f195 26 (by omega)]; exact (by rw [f83 26 (by omega)]; exact (by rw [f54 26 (by omega)]))))]
    have z209 : (σ173 68 0).toInt = (σ 68 0).toInt := by rw [(show σ173 68 0 = (σ 68 0) from (by rw [f194 68 (by omega)]; exact (by rw [f82 68 (by omega)]; exact (by rw [f53 68 (by omega)]))))]
    have z210 : (σ173 68 1).toInt = (σ 68 1).toInt := by rw [(show σ173 68 1 = (σ 68 1) from (by rw [f194 68 (by omega)]; exact (by rw [f82 68 (by omega)]; exact (by rw [f53 68 (by omega)]))))]
    have z211 : (σ173 68 2).toInt = (σ 68 2).toInt := by rw [(show σ173 68 2 = (σ 68 2) from (by rw [f194 68 (by omega)]; exact (by rw [f82 68 (by omega)]; exact (by rw [f53 68 (by omega)]))))]
    have z212 : (σ173 68 3).toInt = (σ 68 3).toInt := by rw [(show σ173 68 3 = (σ 68 3) from (by rw [f194 68 (by omega)]; exact (by rw [f82 68 (by omega)]; exact (by rw [f53 68 (by omega)]))))]
    refine jcallV (As := [.int r52, .int 0]) (rest := []) ⟨hx, hb, hml, hown, hts⟩ hK hP hA hS hZ (c_X12_goes_0 l D cI cL ad zz hJ σ173 τ r52 (r52.toInt) rfl w204 (by omega) (by omega) (by omega) (by omega) (by omega)) cw_RX12_296 (jc_55 cI cL ad σ173 τ) rfl ⟨Nat.le_of_ble_eq_true rfl, Nat.le_of_ble_eq_true rfl⟩ rfl rfl rfl hl.1 rfl (Nat.le_of_ble_eq_true rfl) dX12_meanFrom_71 ⟨Nat.zero_le _, Nat.zero_le _⟩ (fun r214 σ213 τ213 H locs h213 hP hS => ?_)
    obtain ⟨rfl, f215, f216, w217, w218, w219, h213⟩ := h213
    obtain ⟨k220, k221, k222, h213⟩ := h213
    have h223 := h213
    obtain ⟨q229, k224, k225, k226, k227, k228⟩ := h223
    refine lv_istore (lv' := [(6, .int r214), (7, .int r162), (5, .int x107), (4, .int r81), (3, .int x62), (2, .int r52), (0, .ref (ad 55)), (1, .int a1)]) hx hb dX12_meanFrom_74 hl (by decide) rfl (fun ls hl => ?_)
    refine lv_aload_n hx hb dX12_meanFrom_76 rfl (lv_at hl 6 rfl) ?_
    refine lv_iload_n hx hb dX12_meanFrom_77 rfl (lv_at hl 7 rfl) ?_
    have z230 : (σ213 55 5).toInt = (σ 55 5).toInt := by rw [(show σ213 55 5 = (σ 55 5) from (by rw [f216 5 (by omega)]; exact (by rw [f195 5 (by omega)]; exact (by rw [f83 5 (by omega)]; exact (by rw [f54 5 (by omega)])))))]
    have z231 : (σ213 55 4).toInt = (σ 55 4).toInt := by rw [(show σ213 55 4 = (σ 55 4) from (by rw [f216 4 (by omega)]; exact (by rw [f195 4 (by omega)]; exact (by rw [f83 4 (by omega)]; exact (by rw [f54 4 (by omega)])))))]
    have w232 : ∀ k : Nat, k < 68 → (-200) ≤ (σ213 56 k).toInt ∧ (σ213 56 k).toInt ≤ 500 := (by rw [f215 56 (by omega)]; exact (by rw [f194 56 (by omega)]; exact w89))
    have w233 : ∀ k : Nat, k < 40 → 0 ≤ (σ213 57 k).toInt ∧ (σ213 57 k).toInt ≤ 67 := (by rw [f215 57 (by omega)]; exact (by rw [f194 57 (by omega)]; exact w90))
    have w234 : ∀ k : Nat, k < 40 → (-200) ≤ (σ213 58 k).toInt ∧ (σ213 58 k).toInt ≤ 500 := (by rw [f215 58 (by omega)]; exact (by rw [f194 58 (by omega)]; exact w91))
    have w235 : ∀ k : Nat, k < 40 → (-200) ≤ (σ213 59 k).toInt ∧ (σ213 59 k).toInt ≤ 500 := (by rw [f215 59 (by omega)]; exact (by rw [f194 59 (by omega)]; exact w92))
    have I236 : jI101 σ213 := ⟨(by omega), (by omega), (by omega), w232, w233, w234, w235⟩
    have z237 : (σ213 55 6).toInt = (σ 55 6).toInt := by rw [(show σ213 55 6 = (σ 55 6) from (by rw [f216 6 (by omega)]; exact (by rw [f195 6 (by omega)]; exact (by rw [f83 6 (by omega)]; exact (by rw [f54 6 (by omega)])))))]
    have w238 : ∀ k : Nat, k < 4 → 0 ≤ (σ213 60 k).toInt ∧ (σ213 60 k).toInt ≤ 50 := (by rw [f215 60 (by omega)]; exact (by rw [f194 60 (by omega)]; exact w95))
    have w239 : ∀ k : Nat, k < 4 → 0 ≤ (σ213 61 k).toInt ∧ (σ213 61 k).toInt ≤ 20 := (by rw [f215 61 (by omega)]; exact (by rw [f194 61 (by omega)]; exact w96))
    have I240 : jI102 σ213 := ⟨(by omega), w238, w239⟩
    have z241 : (σ213 55 9).toInt = (σ 55 9).toInt := by rw [(show σ213 55 9 = (σ 55 9) from (by rw [f216 9 (by omega)]; exact (by rw [f195 9 (by omega)]; exact (by rw [f83 9 (by omega)]; exact (by rw [f54 9 (by omega)])))))]
    have I242 : jI103 σ213 := (show 0 ≤ (σ213 55 9).toInt ∧ (σ213 55 9).toInt ≤ 3 by omega)
    have z243 : (σ213 55 10).toInt = (σ 55 10).toInt := by rw [(show σ213 55 10 = (σ 55 10) from (by rw [f216 10 (by omega)]; exact (by rw [f195 10 (by omega)]; exact (by rw [f83 10 (by omega)]; exact (by rw [f54 10 (by omega)])))))]
    have z244 : (σ213 55 12).toInt = (σ 55 12).toInt := by rw [(show σ213 55 12 = (σ 55 12) from (by rw [f216 12 (by omega)]; exact (by rw [f195 12 (by omega)]; exact (by rw [f83 12 (by omega)]; exact (by rw [f54 12 (by omega)])))))]
    have z245 : (σ213 55 13).toInt = (σ 55 13).toInt := by rw [(show σ213 55 13 = (σ 55 13) from (by rw [f216 13 (by omega)]; exact (by rw [f195 13 (by omega)]; exact (by rw [f83 13 (by omega)]; exact (by rw [f54 13 (by omega)])))))]
    have w246 : ∀ k : Nat, k < 8 → 0 ≤ (σ213 62 k).toInt ∧ (σ213 62 k).toInt ≤ 3 := (by rw [f215 62 (by omega)]; exact (by rw [f194 62 (by omega)]; exact (by rw [f82 62 (by omega)]; exact w60)))
    have w247 : ∀ k : Nat, k < 8 → 0 ≤ (σ213 67 k).toInt ∧ (σ213 67 k).toInt ≤ 3 := (by rw [f215 67 (by omega)]; exact (by rw [f194 67 (by omega)]; exact (by rw [f82 67 (by omega)]; exact (by rw [f53 67 (by omega)]; exact w16))))
    have I248 : jI104 σ213 := ⟨(by omega), (by omega), (by omega), w246, w247⟩
    have z249 : (σ213 55 15).toInt = (σ 55 15).toInt := by rw [(show σ213 55 15 = (σ 55 15) from (by rw [f216 15 (by omega)]; exact (by rw [f195 15 (by omega)]; exact (by rw [f83 15 (by omega)]; exact (by rw [f54 15 (by omega)])))))]
    have w250 : ∀ k : Nat, k < 2 → (-1) ≤ (σ213 65 k).toInt ∧ (σ213 65 k).toInt ≤ 80 := (by rw [f215 65 (by omega)]; exact (by rw [f194 65 (by omega)]; exact (by rw [f82 65 (by omega)]; exact w77)))
    have I251 : jI105 σ213 := ⟨(by omega), w250⟩
    have z252 : (σ213 55 32).toInt = (σ 55 32).toInt := by rw [(show σ213 55 32 = (σ 55 32) from (by rw [f216 32 (by omega)]; exact (by rw [f195 32 (by omega)]; exact (by rw [f83 32 (by omega)]; exact (by rw [f54 32 (by omega)])))))]
    have w253 : ∀ k : Nat, k < 20 → 0 ≤ (σ213 70 k).toInt ∧ (σ213 70 k).toInt ≤ 6 := (by rw [f215 70 (by omega)]; exact (by rw [f194 70 (by omega)]; exact (by rw [f82 70 (by omega)]; exact (by rw [f53 70 (by omega)]; exact w20))))
    have w254 : ∀ k : Nat, k < 20 → 0 ≤ (σ213 71 k).toInt ∧ (σ213 71 k).toInt ≤ 8 := (by rw [f215 71 (by omega)]; exact (by rw [f194 71 (by omega)]; exact (by rw [f82 71 (by omega)]; exact (by rw [f53 71 (by omega)]; exact w21))))
    have w255 : ∀ k : Nat, k < 160 → 0 ≤ (σ213 72 k).toInt ∧ (σ213 72 k).toInt ≤ 3 := (by rw [f215 72 (by omega)]; exact (by rw [f194 72 (by omega)]; exact (by rw [f82 72 (by omega)]; exact (by rw [f53 72 (by omega)]; exact w22))))
    have I256 : jI106 σ213 := ⟨(by omega), w253, w254, w255⟩
    have I257 : jI120 σ213 := ⟨(by omega), (by omega), (by omega), (by omega), (by omega), w217⟩
    have p258 : jKept σ213 := jKept.fr (by rw [f215 75 (by omega)]) (by rw [f215 76 (by omega)]) (by rw [f215 77 (by omega)]) p184
    refine jcallV (As := [.int a1]) (rest := []) ⟨hx, hb, hml, hown, hts⟩ hK hP hA hS hZ (c_X12_meanFrom_3 l D cI cL ad zz hJ σ213 τ a1 (A1) t1 I236 I240 I242 I248 I251 I256 I257 p258 (by omega) (by omega)) cw_RX12_324 (jc_55 cI cL ad σ213 τ) rfl ⟨Nat.le_of_ble_eq_true rfl, Nat.le_of_ble_eq_true rfl⟩ rfl rfl rfl hl.1 rfl (Nat.le_of_ble_eq_true rfl) dX12_meanFrom_78 ⟨Nat.zero_le _, Nat.zero_le _⟩ (fun r260 σ259 τ259 H locs h259 hP hS => ?_)
    obtain ⟨rfl, f261, f262, p263, h259⟩ := h259
    refine lv_istore (lv' := [(8, .int r260), (6, .int r214), (7, .int r162), (5, .int x107), (4, .int r81), (3, .int x62), (2, .int r52), (0, .ref (ad 55)), (1, .int a1)]) hx hb dX12_meanFrom_81 hl (by decide) rfl (fun ls hl => ?_)
    refine lv_aload_n hx hb dX12_meanFrom_83 rfl (lv_at hl 7 rfl) ?_
    refine lv_iload_n hx hb dX12_meanFrom_84 rfl (lv_at hl 6 rfl) ?_
    refine lv_iconst (v := 0) hx hb dX12_meanFrom_85 (by decide) ?_
    refine lv_iload hx hb dX12_meanFrom_86 (lv_at hl 1 rfl) ?_
    have w264 : ∀ k : Nat, k < 4 → 0 ≤ (σ259 68 k).toInt ∧ (σ259 68 k).toInt ≤ 3 := (by rw [f261 68 (by omega)]; exact w217)
    have z265 : (σ259 55 25).toInt = (σ213 55 25).toInt := by rw [(show σ259 55 25 = (σ213 55 25) from (by rw [f262 25 (by omega)]))]
    have z266 : (σ259 55 26).toInt = (σ213 55 26).toInt := by rw [(show σ259 55 26 = (σ213 55 26) from (by rw [f262 26 (by omega)]))]
    have z267 : (σ259 55 6).toInt = (σ 55 6).toInt := by rw [(show σ259 55 6 = (σ 55 6) from (by rw [f262 6 (by omega)]; exact (by rw [f216 6 (by omega)]; exact (by rw [f195 6 (by omega)]; exact (by rw [f83 6 (by omega)]; exact (by rw [f54 6 (by omega)]))))))]
    have w268 : ∀ k : Nat, k < 4 → 0 ≤ (σ173 68 k).toInt ∧ (σ173 68 k).toInt ≤ 3 := w204
    have z270 : (σ173 55 27).toInt = (σ 55 27).toInt := by rw [(show σ173 55 27 = (σ 55 27) from (by rw [f195 27 (by omega)]; exact (by rw [f83 27 (by omega)]; exact (by rw [f54 27 (by omega)]))))]
    have k269 := jwas (by omega) (w268 0 (by decide)) (w268 1 (by decide)) (w268 2 (by decide)) (w268 3 (by decide)) k224
    rw [← (show σ259 55 6 = σ173 55 6 from (by rw [f262 6 (by omega), f216 6 (by omega)]))] at k269
    refine jcallVv (As := [.int r52, .int 0, .int r214]) (rest := []) ⟨hx, hb, hml, hown, hts⟩ hK hP hA hS hZ (c_X12_goesBack_0 l D cI cL ad zz hJ σ259 τ r52 (r52.toInt) rfl r214 (r214.toInt) rfl w264 (by omega) (by omega) (by omega) k269) cw_RX12_300 (jc_55 cI cL ad σ259 τ) rfl ⟨Nat.le_of_ble_eq_true rfl, Nat.le_of_ble_eq_true rfl⟩ rfl rfl rfl hl.1 rfl (Nat.le_of_ble_eq_true rfl) dX12_meanFrom_88 ⟨Nat.zero_le _, Nat.zero_le _⟩ (fun σ271 τ271 H locs h271 hP hS => ?_)
    obtain ⟨rfl, f273, f274, w275, w276, w277, h271⟩ := h271
    obtain ⟨k278, k279, k280, k281, h271⟩ := h271
    have p282 : jKept σ271 := jKept.fr (by rw [f273 75 (by omega)]) (by rw [f273 76 (by omega)]) (by rw [f273 77 (by omega)]) p263
    have e283 : σ259 69 = σ213 69 := (by rw [f261 69 (by omega)])
    have e284 : σ271 69 = σ173 69 := jback69 w218 e283 w276
    have e285 : σ259 68 = σ213 68 := (by rw [f261 68 (by omega)])
    have e286 : σ259 55 6 = σ173 55 6 := (by rw [f262 6 (by omega), f216 6 (by omega)])
    have w294 : ∀ k : Nat, k < 4 → 0 ≤ (σ173 68 k).toInt ∧ (σ173 68 k).toInt ≤ 3 := w204
    have w295 : ∀ k : Nat, k < 4 → 0 ≤ (σ271 68 k).toInt ∧ (σ271 68 k).toInt ≤ 3 := w275
    have k296 := k281
    rw [e286] at k296
    have D287 := jdig (w294 0 (by decide)) (w294 1 (by decide)) (w294 2 (by decide)) (w294 3 (by decide)) (w295 0 (by decide)) (w295 1 (by decide)) (w295 2 (by decide)) (w295 3 (by decide)) k224 k296
    have e288 : σ271 55 27 = σ173 55 27 := Int32.toInt_inj.mp (by have h9 := D287.1; omega)
    have z297 : (σ259 55 26).toInt = (σ213 55 26).toInt := by rw [(show σ259 55 26 = (σ213 55 26) from (by rw [f262 26 (by omega)]))]
    have z298 : (σ173 55 26).toInt = (σ 55 26).toInt := by rw [(show σ173 55 26 = (σ 55 26) from (by rw [f195 26 (by omega)]; exact (by rw [f83 26 (by omega)]; exact (by rw [f54 26 (by omega)]))))]
    have z299 : (σ259 55 25).toInt = (σ213 55 25).toInt := by rw [(show σ259 55 25 = (σ213 55 25) from (by rw [f262 25 (by omega)]))]
    have z300 : (σ173 55 25).toInt = (σ 55 25).toInt := by rw [(show σ173 55 25 = (σ 55 25) from (by rw [f195 25 (by omega)]; exact (by rw [f83 25 (by omega)]; exact (by rw [f54 25 (by omega)]))))]
    have e289 : σ271 55 26 = σ173 55 26 := Int32.toInt_inj.mp (by omega)
    have e290 : σ271 55 25 = σ173 55 25 := Int32.toInt_inj.mp (by omega)
    have z301 : (σ173 55 6).toInt = (σ 55 6).toInt := by rw [(show σ173 55 6 = (σ 55 6) from (by rw [f195 6 (by omega)]; exact (by rw [f83 6 (by omega)]; exact (by rw [f54 6 (by omega)]))))]
    have e291 : σ271 68 = σ173 68 := jback68 (nb := (σ173 55 6).toInt) (by omega) w219 e285 (fun k hk => w277 k (by rw [e286]; exact hk)) D287.2
    have f292 : (∀ i : Nat, (i < 55 ∨ 55 < i) ∧ (i < 66 ∨ 66 < i) ∧ (i < 74 ∨ 78 < i) → σ271 i = σ173 i) := fun i hi => by
      by_cases h8 : i = 68
      · rw [h8]; exact e291
      by_cases h9 : i = 69
      · rw [h9]; exact e284
      rw [f273 i (by omega), f261 i (by omega), f215 i (by omega)]
    have f293 : ∀ k : Nat, (k < 18 ∨ 18 < k) ∧ (k < 19 ∨ 19 < k) ∧ (k < 20 ∨ 20 < k) ∧ (k < 21 ∨ 21 < k) ∧ (k < 22 ∨ 22 < k) ∧ (k < 37 ∨ 37 < k) → σ271 55 k = σ173 55 k := fun k hk => by
      by_cases h25 : k = 25
      · rw [h25]; exact e290
      by_cases h26 : k = 26
      · rw [h26]; exact e289
      by_cases h27 : k = 27
      · rw [h27]; exact e288
      rw [f274 k (by omega), f262 k (by omega), f216 k (by omega)]
    clear k296 k281 k224
    refine lv_iload hx hb dX12_meanFrom_91 (lv_at hl 3 rfl) ?_
    refine lv_sipush (v := 1000) hx hb dX12_meanFrom_93 (by decide) ?_
    refine lv_aload_n hx hb dX12_meanFrom_96 rfl (lv_at hl 7 rfl) ?_
    refine va_get (D := D) hx hb hts inlX12 hown hK hP 55 (jc_55 cI cL ad σ271 τ) rfl 13 (by decide) (hts _ kw_15_14) (fun _ h9 => h9) rfl dX12_meanFrom_97 ?_
    have m302 : σ271 55 13 = (σ 55 13) := (by rw [f293 13 (by omega)]; exact (by rw [f195 13 (by omega)]; exact (by rw [f83 13 (by omega)]; exact (by rw [f54 13 (by omega)]))))
    refine jtopr m302 ?_
    have g303 := jrg (rfl : (σ 55 13).toInt = (σ 55 13).toInt)
    refine lv_isub hx hb dX12_meanFrom_100 ?_
    refine lv_topi (fun x304 ex304 => ?_)
    have tx304 : x304.toInt = -(σ 55 13).toInt + 1000 := (jsub ex304 jz_1000 rfl (by omega) (by omega)).trans (by omega)
    refine lv_i2l (v := x304.toInt64) hx hb dX12_meanFrom_101 rfl ?_
    refine lv_iload hx hb dX12_meanFrom_102 (lv_at hl 2 rfl) ?_
    refine lv_iload hx hb dX12_meanFrom_104 (lv_at hl 0 rfl) ?_
    refine lv_iload hx hb dX12_meanFrom_106 (lv_at hl 4 rfl) ?_
    refine jcallS (As := [.int r162, .int r260, .int r81]) (rest := [.long x304.toInt64, .int x107]) ⟨hx, hb, hml, hown, hts⟩ hK hP hA hS hZ (c_X12_mixed l D cI cL ad zz hJ σ271 τ r162 (r162.toInt) rfl r260 (r260.toInt) rfl r81 (r81.toInt) rfl) cw_RX12_304 ⟨Nat.le_of_ble_eq_true rfl, Nat.le_of_ble_eq_true rfl⟩ rfl rfl rfl hl.1 rfl (Nat.le_of_ble_eq_true rfl) dX12_meanFrom_108 ⟨Nat.zero_le _, Nat.zero_le _⟩ (fun r306 σ305 τ305 H locs h305 hP hS => ?_)
    obtain ⟨⟨rfl, rfl⟩, h305⟩ := h305
    refine lv_i2l (v := r306.toInt64) hx hb dX12_meanFrom_111 rfl ?_
    refine lv_lmul hx hb dX12_meanFrom_112 ?_
    refine lv_topl (fun lx307 elx307 => ?_)
    refine lv_ldc2 (v := 1000) hx hb hown (hts _ kw_34_19) dX12_meanFrom_113 ?_
    refine lv_ldiv hx hb dX12_meanFrom_116 (by decide) ?_
    refine lv_topl (fun lx308 elx308 => ?_)
    refine lv_l2i hx hb dX12_meanFrom_117 rfl ?_
    refine lv_topi (fun x309 ex309 => ?_)
    have gx309 := jrg (rfl : x309.toInt = x309.toInt)
    have g310 := jrg (rfl : x309.toInt = x309.toInt)
    refine lv_iadd hx hb dX12_meanFrom_118 ?_
    refine lv_topi (fun x311 ex311 => ?_)
    have gx311 := jrg (rfl : x311.toInt = x311.toInt)
    exact hret x311 σ271 τ _ _ _ _ rfl ⟨rfl, (fun i hi => by rw [f292 i (by omega), f194 i (by omega), f82 i (by omega), f53 i (by omega)]), (fun k hk => by rw [f293 k (by omega), f195 k (by omega), f83 k (by omega), f54 k (by omega)]), p282, trivial⟩ hP hS dX12_meanFrom_119
set_option maxHeartbeats 4000000 in
set_option maxRecDepth 100000 in
theorem c_X12_meanFrom_5 (l : Launch) (D : va_G) (cI cL : ClassId) (ad zz : Nat → Nat) (hJ : jD ad) (σ : Nat → Nat → Int32) (τ : Nat → Nat → Int64) (a1 : Int32) (A1 : Int) (t1 : a1.toInt = A1) (hI101 : jI101 σ) (hI102 : jI102 σ) (hI103 : jI103 σ) (hI104 : jI104 σ) (hI105 : jI105 σ) (hI106 : jI106 σ) (hI120 : jI120 σ) (hs_jKept : jKept σ) (hp0 : 0 ≤ A1 ∧ A1 ≤ 19) (hp1 : (σ 55 12).toInt - (σ 55 26).toInt ≤ 5) : jM l yX12_meanFrom cX12_meanFrom 9 (some .int) ({ frames := 67, cells := 0, slots := 0, locals := 1625 }) D cI cL ad zz [.ref (ad 55), .int a1] σ τ (fun r σ' τ' => τ = τ' ∧ (∀ i : Nat, (i < 55 ∨ 55 < i) ∧ (i < 66 ∨ 66 < i) ∧ (i < 74 ∨ 78 < i) → σ' i = σ i) ∧ (∀ k : Nat, (k < 18 ∨ 18 < k) ∧ (k < 19 ∨ 19 < k) ∧ (k < 20 ∨ 20 < k) ∧ (k < 21 ∨ 21 < k) ∧ (k < 22 ∨ 22 < k) ∧ (k < 37 ∨ 37 < k) → σ' 55 k = σ 55 k) ∧ (jKept σ') ∧ True) := by
  refine jM.of hJ (by decide +kernel) (nt := .int) rfl (Nat.le_of_ble_eq_true rfl) ?_
  intro p e s m args below meth c Q ls hC hret hl hP
  obtain ⟨hx, hb, hr, hml, hown, hts, hK, -, hlocks, hZ⟩ := hC
  have hown : s.vm.findClass RX12 = some m.cls := hown
  have hS : va_S (jA ad) s.heap s.heap [] := va_S.rf
  have hA : ∀ q, jA ad q → jA ad q := fun _ h => h
  have hl : lv_has ls 9 [(0, .ref (ad 55)), (1, .int a1)] := hl
  have g1 := jrg t1
  obtain ⟨i1, i2, i3, w4, w5, w6, w7⟩ : (0 ≤ (σ 55 5).toInt) ∧ ((σ 55 5).toInt ≤ (σ 55 4).toInt) ∧ ((σ 55 4).toInt ≤ 40) ∧ (∀ k : Nat, k < 68 → (-200) ≤ (σ 56 k).toInt ∧ (σ 56 k).toInt ≤ 500) ∧ (∀ k : Nat, k < 40 → 0 ≤ (σ 57 k).toInt ∧ (σ 57 k).toInt ≤ 67) ∧ (∀ k : Nat, k < 40 → (-200) ≤ (σ 58 k).toInt ∧ (σ 58 k).toInt ≤ 500) ∧ (∀ k : Nat, k < 40 → (-200) ≤ (σ 59 k).toInt ∧ (σ 59 k).toInt ≤ 500) := id hI101
  obtain ⟨i8, w9, w10⟩ : (0 ≤ (σ 55 6).toInt ∧ (σ 55 6).toInt ≤ 4) ∧ (∀ k : Nat, k < 4 → 0 ≤ (σ 60 k).toInt ∧ (σ 60 k).toInt ≤ 50) ∧ (∀ k : Nat, k < 4 → 0 ≤ (σ 61 k).toInt ∧ (σ 61 k).toInt ≤ 20) := id hI102
  have i11 : 0 ≤ (σ 55 9).toInt ∧ (σ 55 9).toInt ≤ 3 := hI103
  obtain ⟨i12, i13, i14, w15, w16⟩ : (1 ≤ (σ 55 10).toInt ∧ (σ 55 10).toInt ≤ 8) ∧ (1 ≤ (σ 55 12).toInt ∧ (σ 55 12).toInt ≤ 12) ∧ (0 ≤ (σ 55 13).toInt ∧ (σ 55 13).toInt ≤ 999) ∧ (∀ k : Nat, k < 8 → 0 ≤ (σ 62 k).toInt ∧ (σ 62 k).toInt ≤ 3) ∧ (∀ k : Nat, k < 8 → 0 ≤ (σ 67 k).toInt ∧ (σ 67 k).toInt ≤ 3) := id hI104
  obtain ⟨i17, w18⟩ : (0 ≤ (σ 55 15).toInt ∧ (σ 55 15).toInt ≤ 80) ∧ (∀ k : Nat, k < 2 → (-1) ≤ (σ 65 k).toInt ∧ (σ 65 k).toInt ≤ 80) := id hI105
  obtain ⟨i19, w20, w21, w22⟩ : (0 ≤ (σ 55 32).toInt ∧ (σ 55 32).toInt ≤ 20) ∧ (∀ k : Nat, k < 20 → 0 ≤ (σ 70 k).toInt ∧ (σ 70 k).toInt ≤ 6) ∧ (∀ k : Nat, k < 20 → 0 ≤ (σ 71 k).toInt ∧ (σ 71 k).toInt ≤ 8) ∧ (∀ k : Nat, k < 160 → 0 ≤ (σ 72 k).toInt ∧ (σ 72 k).toInt ≤ 3) := id hI106
  obtain ⟨i23, i24, i25, i26, i27, w28⟩ : (0 ≤ (σ 55 25).toInt) ∧ ((σ 55 25).toInt ≤ (σ 55 10).toInt) ∧ (0 ≤ (σ 55 26).toInt) ∧ ((σ 55 26).toInt ≤ (σ 55 12).toInt) ∧ ((-1) ≤ (σ 55 27).toInt ∧ (σ 55 27).toInt ≤ 3) ∧ (∀ k : Nat, k < 4 → 0 ≤ (σ 68 k).toInt ∧ (σ 68 k).toInt ≤ 3) := id hI120
  refine lv_aload_n hx hb dX12_meanFrom_0 rfl (lv_at hl 0 rfl) ?_
  have I29 : jI102 σ := ⟨(by omega), w9, w10⟩
  have I30 : jI104 σ := ⟨(by omega), (by omega), (by omega), w15, w16⟩
  have I31 : jI120 σ := ⟨(by omega), (by omega), (by omega), (by omega), (by omega), w28⟩
  refine jcallV (As := []) (rest := []) ⟨hx, hb, hml, hown, hts⟩ hK hP hA hS hZ (c_X12_isEnded l D cI cL ad zz hJ σ τ I29 I30 I31) cw_RX12_307 (jc_55 cI cL ad σ τ) rfl ⟨Nat.le_of_ble_eq_true rfl, Nat.le_of_ble_eq_true rfl⟩ rfl rfl rfl hl.1 rfl (Nat.le_of_ble_eq_true rfl) dX12_meanFrom_1 ⟨Nat.zero_le _, Nat.zero_le _⟩ (fun r33 σ32 τ32 H locs h32 hP hS => ?_)
  obtain ⟨⟨rfl, rfl⟩, h32⟩ := h32
  rcases h32 with h34 | h35
  · obtain ⟨q37, k36⟩ := h34
    have q37 := q37.symm
    subst q37
    refine lv_if_eq (tgt := 9) hx hb dX12_meanFrom_4 (by decide) (fun c => absurd c (by decide)) (fun _ => ?_)
    refine lv_iconst (v := 0) hx hb dX12_meanFrom_7 (by decide) ?_
    exact hret 0 σ τ _ _ _ _ rfl ⟨rfl, (fun _ _ => rfl), (fun _ _ => rfl), hs_jKept, trivial⟩ hP hS dX12_meanFrom_8
  · obtain ⟨q41, k38, k39, k40⟩ := h35
    have q41 := q41.symm
    subst q41
    obtain ⟨B42, k43, k44, w45⟩ := k40
    refine lv_if_eq (tgt := 9) hx hb dX12_meanFrom_4 (by decide) (fun _ => ?_) (fun c => absurd (by decide) c)
    refine lv_aload_n hx hb dX12_meanFrom_9 rfl (lv_at hl 0 rfl) ?_
    refine lv_iload_n hx hb dX12_meanFrom_10 rfl (lv_at hl 1 rfl) ?_
    have p46 : jmb σ B42 = 1 := (jmb_fr rfl rfl rfl rfl rfl B42).trans w45
    have I47 : jI101 σ := ⟨(by omega), (by omega), (by omega), w4, w5, w6, w7⟩
    have I48 : jI103 σ := (show 0 ≤ (σ 55 9).toInt ∧ (σ 55 9).toInt ≤ 3 by omega)
    have I49 : jI105 σ := ⟨(by omega), w18⟩
    have I50 : jI106 σ := ⟨(by omega), w20, w21, w22⟩
    refine jcallV (As := [.int a1]) (rest := []) ⟨hx, hb, hml, hown, hts⟩ hK hP hA hS hZ (c_X12_putsOn l D cI cL ad zz hJ σ τ B42 p46 a1 (A1) t1 I47 I29 I48 I30 I49 I50 I31 hs_jKept (by omega) (by omega) (by omega) (by omega) (by omega)) cw_RX12_321 (jc_55 cI cL ad σ τ) rfl ⟨Nat.le_of_ble_eq_true rfl, Nat.le_of_ble_eq_true rfl⟩ rfl rfl rfl hl.1 rfl (Nat.le_of_ble_eq_true rfl) dX12_meanFrom_11 ⟨Nat.zero_le _, Nat.zero_le _⟩ (fun r52 σ51 τ51 H locs h51 hP hS => ?_)
    obtain ⟨rfl, f53, f54, p55, h51⟩ := h51
    have h56 := h51
    obtain ⟨q58, k57⟩ := h56
    refine lv_istore_n (lv' := [(2, .int r52), (0, .ref (ad 55)), (1, .int a1)]) hx hb dX12_meanFrom_14 rfl hl (by decide) rfl (fun ls hl => ?_)
    refine lv_aload_n hx hb dX12_meanFrom_15 rfl (lv_at hl 1 rfl) ?_
    refine va_get (D := D) hx hb hts inlX12 hown hK hP 55 (jc_55 cI cL ad σ51 τ) rfl 11 (by decide) (hts _ kw_7_8) (fun _ h9 => h9) rfl dX12_meanFrom_16 ?_
    refine lv_aload_n hx hb dX12_meanFrom_19 rfl (lv_at hl 1 rfl) ?_
    refine va_get (D := D) hx hb hts inlX12 hown hK hP 55 (jc_55 cI cL ad σ51 τ) rfl 25 (by decide) (hts _ kw_23_6) (fun _ h9 => h9) rfl dX12_meanFrom_20 ?_
    have m59 : σ51 55 25 = (σ 55 25) := (by rw [f54 25 (by omega)])
    refine jtopr m59 ?_
    refine jald hx hb hK hP (jc_62 cI cL ad σ51 τ) (jin rfl (by omega) (by omega)) dX12_meanFrom_23 ?_
    have w60 : ∀ k : Nat, k < 8 → 0 ≤ (σ51 62 k).toInt ∧ (σ51 62 k).toInt ≤ 3 := (by rw [f53 62 (by omega)]; exact w15)
    have g61 := w60 _ (jnat (x := (σ 55 25)) rfl (n := 8) (by omega) (by decide))
    refine lv_topi (fun x62 ex62 => ?_)
    rw [← ex62] at g61
    refine lv_istore_n (lv' := [(3, .int x62), (2, .int r52), (0, .ref (ad 55)), (1, .int a1)]) hx hb dX12_meanFrom_24 rfl hl (by decide) rfl (fun ls hl => ?_)
    refine lv_aload_n hx hb dX12_meanFrom_25 rfl (lv_at hl 2 rfl) ?_
    refine lv_iload_n hx hb dX12_meanFrom_26 rfl (lv_at hl 1 rfl) ?_
    refine lv_iload_n hx hb dX12_meanFrom_27 rfl (lv_at hl 0 rfl) ?_
    have z63 : (σ51 55 5).toInt = (σ 55 5).toInt := by rw [(show σ51 55 5 = (σ 55 5) from (by rw [f54 5 (by omega)]))]
    have z64 : (σ51 55 4).toInt = (σ 55 4).toInt := by rw [(show σ51 55 4 = (σ 55 4) from (by rw [f54 4 (by omega)]))]
    have w65 : ∀ k : Nat, k < 68 → (-200) ≤ (σ51 56 k).toInt ∧ (σ51 56 k).toInt ≤ 500 := (by rw [f53 56 (by omega)]; exact w4)
    have w66 : ∀ k : Nat, k < 40 → 0 ≤ (σ51 57 k).toInt ∧ (σ51 57 k).toInt ≤ 67 := (by rw [f53 57 (by omega)]; exact w5)
    have w67 : ∀ k : Nat, k < 40 → (-200) ≤ (σ51 58 k).toInt ∧ (σ51 58 k).toInt ≤ 500 := (by rw [f53 58 (by omega)]; exact w6)
    have w68 : ∀ k : Nat, k < 40 → (-200) ≤ (σ51 59 k).toInt ∧ (σ51 59 k).toInt ≤ 500 := (by rw [f53 59 (by omega)]; exact w7)
    have I69 : jI101 σ51 := ⟨(by omega), (by omega), (by omega), w65, w66, w67, w68⟩
    have z70 : (σ51 55 6).toInt = (σ 55 6).toInt := by rw [(show σ51 55 6 = (σ 55 6) from (by rw [f54 6 (by omega)]))]
    have w71 : ∀ k : Nat, k < 4 → 0 ≤ (σ51 60 k).toInt ∧ (σ51 60 k).toInt ≤ 50 := (by rw [f53 60 (by omega)]; exact w9)
    have w72 : ∀ k : Nat, k < 4 → 0 ≤ (σ51 61 k).toInt ∧ (σ51 61 k).toInt ≤ 20 := (by rw [f53 61 (by omega)]; exact w10)
    have I73 : jI102 σ51 := ⟨(by omega), w71, w72⟩
    have z74 : (σ51 55 9).toInt = (σ 55 9).toInt := by rw [(show σ51 55 9 = (σ 55 9) from (by rw [f54 9 (by omega)]))]
    have I75 : jI103 σ51 := (show 0 ≤ (σ51 55 9).toInt ∧ (σ51 55 9).toInt ≤ 3 by omega)
    have z76 : (σ51 55 15).toInt = (σ 55 15).toInt := by rw [(show σ51 55 15 = (σ 55 15) from (by rw [f54 15 (by omega)]))]
    have w77 : ∀ k : Nat, k < 2 → (-1) ≤ (σ51 65 k).toInt ∧ (σ51 65 k).toInt ≤ 80 := (by rw [f53 65 (by omega)]; exact w18)
    have I78 : jI105 σ51 := ⟨(by omega), w77⟩
    have w79 : ∀ k : Nat, k < 4 → 0 ≤ (σ51 68 k).toInt ∧ (σ51 68 k).toInt ≤ 3 := (by rw [f53 68 (by omega)]; exact w28)
    refine jcallV (As := [.int r52, .int x62]) (rest := []) ⟨hx, hb, hml, hown, hts⟩ hK hP hA hS hZ (c_X12_outBy l D cI cL ad zz hJ σ51 τ r52 (r52.toInt) rfl x62 (x62.toInt) rfl I69 I73 I75 I78 w79 (by omega) (by omega)) cw_RX12_259 (jc_55 cI cL ad σ51 τ) rfl ⟨Nat.le_of_ble_eq_true rfl, Nat.le_of_ble_eq_true rfl⟩ rfl rfl rfl hl.1 rfl (Nat.le_of_ble_eq_true rfl) dX12_meanFrom_28 ⟨Nat.zero_le _, Nat.zero_le _⟩ (fun r81 σ80 τ80 H locs h80 hP hS => ?_)
    obtain ⟨rfl, f82, f83, h80⟩ := h80
    have h84 := h80
    obtain ⟨q86, k85⟩ := h84
    refine lv_istore (lv' := [(4, .int r81), (3, .int x62), (2, .int r52), (0, .ref (ad 55)), (1, .int a1)]) hx hb dX12_meanFrom_31 hl (by decide) rfl (fun ls hl => ?_)
    refine lv_sipush (v := 1000) hx hb dX12_meanFrom_33 (by decide) ?_
    refine lv_aload_n hx hb dX12_meanFrom_36 rfl (lv_at hl 3 rfl) ?_
    refine lv_iload_n hx hb dX12_meanFrom_37 rfl (lv_at hl 2 rfl) ?_
    refine lv_iload_n hx hb dX12_meanFrom_38 rfl (lv_at hl 1 rfl) ?_
    have z87 : (σ80 55 5).toInt = (σ 55 5).toInt := by rw [(show σ80 55 5 = (σ 55 5) from (by rw [f83 5 (by omega)]; exact (by rw [f54 5 (by omega)])))]
    have z88 : (σ80 55 4).toInt = (σ 55 4).toInt := by rw [(show σ80 55 4 = (σ 55 4) from (by rw [f83 4 (by omega)]; exact (by rw [f54 4 (by omega)])))]
    have w89 : ∀ k : Nat, k < 68 → (-200) ≤ (σ80 56 k).toInt ∧ (σ80 56 k).toInt ≤ 500 := (by rw [f82 56 (by omega)]; exact w65)
    have w90 : ∀ k : Nat, k < 40 → 0 ≤ (σ80 57 k).toInt ∧ (σ80 57 k).toInt ≤ 67 := (by rw [f82 57 (by omega)]; exact w66)
    have w91 : ∀ k : Nat, k < 40 → (-200) ≤ (σ80 58 k).toInt ∧ (σ80 58 k).toInt ≤ 500 := (by rw [f82 58 (by omega)]; exact w67)
    have w92 : ∀ k : Nat, k < 40 → (-200) ≤ (σ80 59 k).toInt ∧ (σ80 59 k).toInt ≤ 500 := (by rw [f82 59 (by omega)]; exact w68)
    have I93 : jI101 σ80 := ⟨(by omega), (by omega), (by omega), w89, w90, w91, w92⟩
    have z94 : (σ80 55 6).toInt = (σ 55 6).toInt := by rw [(show σ80 55 6 = (σ 55 6) from (by rw [f83 6 (by omega)]; exact (by rw [f54 6 (by omega)])))]
    have w95 : ∀ k : Nat, k < 4 → 0 ≤ (σ80 60 k).toInt ∧ (σ80 60 k).toInt ≤ 50 := (by rw [f82 60 (by omega)]; exact w71)
    have w96 : ∀ k : Nat, k < 4 → 0 ≤ (σ80 61 k).toInt ∧ (σ80 61 k).toInt ≤ 20 := (by rw [f82 61 (by omega)]; exact w72)
    have I97 : jI102 σ80 := ⟨(by omega), w95, w96⟩
    have z98 : (σ80 55 9).toInt = (σ 55 9).toInt := by rw [(show σ80 55 9 = (σ 55 9) from (by rw [f83 9 (by omega)]; exact (by rw [f54 9 (by omega)])))]
    have I99 : jI103 σ80 := (show 0 ≤ (σ80 55 9).toInt ∧ (σ80 55 9).toInt ≤ 3 by omega)
    have w100 : ∀ k : Nat, k < 4 → 0 ≤ (σ80 68 k).toInt ∧ (σ80 68 k).toInt ≤ 3 := (by rw [f82 68 (by omega)]; exact w79)
    refine jcallV (As := [.int r52, .int x62]) (rest := [.int 1000]) ⟨hx, hb, hml, hown, hts⟩ hK hP hA hS hZ (c_X12_runsBy l D cI cL ad zz hJ σ80 τ r52 (r52.toInt) rfl x62 (x62.toInt) rfl I93 I97 I99 w100 (by omega) (by omega)) cw_RX12_262 (jc_55 cI cL ad σ80 τ) rfl ⟨Nat.le_of_ble_eq_true rfl, Nat.le_of_ble_eq_true rfl⟩ rfl rfl rfl hl.1 rfl (Nat.le_of_ble_eq_true rfl) dX12_meanFrom_39 ⟨Nat.zero_le _, Nat.zero_le _⟩ (fun r102 σ101 τ101 H locs h101 hP hS => ?_)
    obtain ⟨⟨rfl, rfl⟩, h101⟩ := h101
    have h103 := h101
    obtain ⟨q105, k104⟩ := h103
    have g106 := jrg (rfl : r102.toInt = r102.toInt)
    refine lv_imul hx hb dX12_meanFrom_42 ?_
    refine lv_topi (fun x107 ex107 => ?_)
    have tx107 : x107.toInt = 1000 * r102.toInt := (jmul ex107 jz_1000 rfl (by omega) (by omega)).trans (by omega)
    refine lv_istore (lv' := [(5, .int x107), (4, .int r81), (3, .int x62), (2, .int r52), (0, .ref (ad 55)), (1, .int a1)]) hx hb dX12_meanFrom_43 hl (by decide) rfl (fun ls hl => ?_)
    refine lv_aload_n hx hb dX12_meanFrom_45 rfl (lv_at hl 4 rfl) ?_
    refine lv_iload_n hx hb dX12_meanFrom_46 rfl (lv_at hl 3 rfl) ?_
    refine lv_iconst (v := 1) hx hb dX12_meanFrom_47 (by decide) ?_
    have z108 : (σ80 55 27).toInt = (σ 55 27).toInt := by rw [(show σ80 55 27 = (σ 55 27) from (by rw [f83 27 (by omega)]; exact (by rw [f54 27 (by omega)])))]
    have z109 : (σ80 55 25).toInt = (σ 55 25).toInt := by rw [(show σ80 55 25 = (σ 55 25) from (by rw [f83 25 (by omega)]; exact m59))]
    have z110 : (σ80 55 26).toInt = (σ 55 26).toInt := by rw [(show σ80 55 26 = (σ 55 26) from (by rw [f83 26 (by omega)]; exact (by rw [f54 26 (by omega)])))]
    have z111 : (σ80 68 0).toInt = (σ 68 0).toInt := by rw [(show σ80 68 0 = (σ 68 0) from (by rw [f82 68 (by omega)]; exact (by rw [f53 68 (by omega)])))]
    have z112 : (σ80 68 1).toInt = (σ 68 1).toInt := by rw [(show σ80 68 1 = (σ 68 1) from (by rw [f82 68 (by omega)]; exact (by rw [f53 68 (by omega)])))]
    have z113 : (σ80 68 2).toInt = (σ 68 2).toInt := by rw [(show σ80 68 2 = (σ 68 2) from (by rw [f82 68 (by omega)]; exact (by rw [f53 68 (by omega)])))]
    have z114 : (σ80 68 3).toInt = (σ 68 3).toInt := by rw [(show σ80 68 3 = (σ 68 3) from (by rw [f82 68 (by omega)]; exact (by rw [f53 68 (by omega)])))]
    refine jcallV (As := [.int r52, .int 1]) (rest := []) ⟨hx, hb, hml, hown, hts⟩ hK hP hA hS hZ (c_X12_goes_1 l D cI cL ad zz hJ σ80 τ r52 (r52.toInt) rfl w100 (by omega) (by omega) (by omega) (by omega) (by omega)) cw_RX12_296 (jc_55 cI cL ad σ80 τ) rfl ⟨Nat.le_of_ble_eq_true rfl, Nat.le_of_ble_eq_true rfl⟩ rfl rfl rfl hl.1 rfl (Nat.le_of_ble_eq_true rfl) dX12_meanFrom_48 ⟨Nat.zero_le _, Nat.zero_le _⟩ (fun r116 σ115 τ115 H locs h115 hP hS => ?_)
    obtain ⟨rfl, f117, f118, w119, w120, w121, h115⟩ := h115
    obtain ⟨k122, k123, k124, h115⟩ := h115
    have h125 := h115
    obtain ⟨q131, k126, k127, k128, k129, k130⟩ := h125
    refine lv_istore (lv' := [(6, .int r116), (5, .int x107), (4, .int r81), (3, .int x62), (2, .int r52), (0, .ref (ad 55)), (1, .int a1)]) hx hb dX12_meanFrom_51 hl (by decide) rfl (fun ls hl => ?_)
    refine lv_aload_n hx hb dX12_meanFrom_53 rfl (lv_at hl 5 rfl) ?_
    refine lv_iload_n hx hb dX12_meanFrom_54 rfl (lv_at hl 6 rfl) ?_
    have z132 : (σ115 55 5).toInt = (σ 55 5).toInt := by rw [(show σ115 55 5 = (σ 55 5) from (by rw [f118 5 (by omega)]; exact (by rw [f83 5 (by omega)]; exact (by rw [f54 5 (by omega)]))))]
    have z133 : (σ115 55 4).toInt = (σ 55 4).toInt := by rw [(show σ115 55 4 = (σ 55 4) from (by rw [f118 4 (by omega)]; exact (by rw [f83 4 (by omega)]; exact (by rw [f54 4 (by omega)]))))]
    have w134 : ∀ k : Nat, k < 68 → (-200) ≤ (σ115 56 k).toInt ∧ (σ115 56 k).toInt ≤ 500 := (by rw [f117 56 (by omega)]; exact w89)
    have w135 : ∀ k : Nat, k < 40 → 0 ≤ (σ115 57 k).toInt ∧ (σ115 57 k).toInt ≤ 67 := (by rw [f117 57 (by omega)]; exact w90)
    have w136 : ∀ k : Nat, k < 40 → (-200) ≤ (σ115 58 k).toInt ∧ (σ115 58 k).toInt ≤ 500 := (by rw [f117 58 (by omega)]; exact w91)
    have w137 : ∀ k : Nat, k < 40 → (-200) ≤ (σ115 59 k).toInt ∧ (σ115 59 k).toInt ≤ 500 := (by rw [f117 59 (by omega)]; exact w92)
    have I138 : jI101 σ115 := ⟨(by omega), (by omega), (by omega), w134, w135, w136, w137⟩
    have z139 : (σ115 55 6).toInt = (σ 55 6).toInt := by rw [(show σ115 55 6 = (σ 55 6) from (by rw [f118 6 (by omega)]; exact (by rw [f83 6 (by omega)]; exact (by rw [f54 6 (by omega)]))))]
    have w140 : ∀ k : Nat, k < 4 → 0 ≤ (σ115 60 k).toInt ∧ (σ115 60 k).toInt ≤ 50 := (by rw [f117 60 (by omega)]; exact w95)
    have w141 : ∀ k : Nat, k < 4 → 0 ≤ (σ115 61 k).toInt ∧ (σ115 61 k).toInt ≤ 20 := (by rw [f117 61 (by omega)]; exact w96)
    have I142 : jI102 σ115 := ⟨(by omega), w140, w141⟩
    have z143 : (σ115 55 9).toInt = (σ 55 9).toInt := by rw [(show σ115 55 9 = (σ 55 9) from (by rw [f118 9 (by omega)]; exact (by rw [f83 9 (by omega)]; exact (by rw [f54 9 (by omega)]))))]
    have I144 : jI103 σ115 := (show 0 ≤ (σ115 55 9).toInt ∧ (σ115 55 9).toInt ≤ 3 by omega)
    have z145 : (σ115 55 10).toInt = (σ 55 10).toInt := by rw [(show σ115 55 10 = (σ 55 10) from (by rw [f118 10 (by omega)]; exact (by rw [f83 10 (by omega)]; exact (by rw [f54 10 (by omega)]))))]
    have z146 : (σ115 55 12).toInt = (σ 55 12).toInt := by rw [(show σ115 55 12 = (σ 55 12) from (by rw [f118 12 (by omega)]; exact (by rw [f83 12 (by omega)]; exact (by rw [f54 12 (by omega)]))))]
    have z147 : (σ115 55 13).toInt = (σ 55 13).toInt := by rw [(show σ115 55 13 = (σ 55 13) from (by rw [f118 13 (by omega)]; exact (by rw [f83 13 (by omega)]; exact (by rw [f54 13 (by omega)]))))]
    have w148 : ∀ k : Nat, k < 8 → 0 ≤ (σ115 62 k).toInt ∧ (σ115 62 k).toInt ≤ 3 := (by rw [f117 62 (by omega)]; exact (by rw [f82 62 (by omega)]; exact w60))
    have w149 : ∀ k : Nat, k < 8 → 0 ≤ (σ115 67 k).toInt ∧ (σ115 67 k).toInt ≤ 3 := (by rw [f117 67 (by omega)]; exact (by rw [f82 67 (by omega)]; exact (by rw [f53 67 (by omega)]; exact w16)))
    have I150 : jI104 σ115 := ⟨(by omega), (by omega), (by omega), w148, w149⟩
    have z151 : (σ115 55 15).toInt = (σ 55 15).toInt := by rw [(show σ115 55 15 = (σ 55 15) from (by rw [f118 15 (by omega)]; exact (by rw [f83 15 (by omega)]; exact (by rw [f54 15 (by omega)]))))]
    have w152 : ∀ k : Nat, k < 2 → (-1) ≤ (σ115 65 k).toInt ∧ (σ115 65 k).toInt ≤ 80 := (by rw [f117 65 (by omega)]; exact (by rw [f82 65 (by omega)]; exact w77))
    have I153 : jI105 σ115 := ⟨(by omega), w152⟩
    have z154 : (σ115 55 32).toInt = (σ 55 32).toInt := by rw [(show σ115 55 32 = (σ 55 32) from (by rw [f118 32 (by omega)]; exact (by rw [f83 32 (by omega)]; exact (by rw [f54 32 (by omega)]))))]
    have w155 : ∀ k : Nat, k < 20 → 0 ≤ (σ115 70 k).toInt ∧ (σ115 70 k).toInt ≤ 6 := (by rw [f117 70 (by omega)]; exact (by rw [f82 70 (by omega)]; exact (by rw [f53 70 (by omega)]; exact w20)))
    have w156 : ∀ k : Nat, k < 20 → 0 ≤ (σ115 71 k).toInt ∧ (σ115 71 k).toInt ≤ 8 := (by rw [f117 71 (by omega)]; exact (by rw [f82 71 (by omega)]; exact (by rw [f53 71 (by omega)]; exact w21)))
    have w157 : ∀ k : Nat, k < 160 → 0 ≤ (σ115 72 k).toInt ∧ (σ115 72 k).toInt ≤ 3 := (by rw [f117 72 (by omega)]; exact (by rw [f82 72 (by omega)]; exact (by rw [f53 72 (by omega)]; exact w22)))
    have I158 : jI106 σ115 := ⟨(by omega), w155, w156, w157⟩
    have I159 : jI120 σ115 := ⟨(by omega), (by omega), (by omega), (by omega), (by omega), w119⟩
    have p160 : jKept σ115 := jKept.fr (by rw [f117 75 (by omega), f82 75 (by omega)]) (by rw [f117 76 (by omega), f82 76 (by omega)]) (by rw [f117 77 (by omega), f82 77 (by omega)]) p55
    refine jcallV (As := [.int a1]) (rest := []) ⟨hx, hb, hml, hown, hts⟩ hK hP hA hS hZ (c_X12_meanFrom_4 l D cI cL ad zz hJ σ115 τ a1 (A1) t1 I138 I142 I144 I150 I153 I158 I159 p160 (by omega) (by omega)) cw_RX12_324 (jc_55 cI cL ad σ115 τ) rfl ⟨Nat.le_of_ble_eq_true rfl, Nat.le_of_ble_eq_true rfl⟩ rfl rfl rfl hl.1 rfl (Nat.le_of_ble_eq_true rfl) dX12_meanFrom_55 ⟨Nat.zero_le _, Nat.zero_le _⟩ (fun r162 σ161 τ161 H locs h161 hP hS => ?_)
    obtain ⟨rfl, f163, f164, p165, h161⟩ := h161
    refine lv_istore (lv' := [(7, .int r162), (6, .int r116), (5, .int x107), (4, .int r81), (3, .int x62), (2, .int r52), (0, .ref (ad 55)), (1, .int a1)]) hx hb dX12_meanFrom_58 hl (by decide) rfl (fun ls hl => ?_)
    refine lv_aload_n hx hb dX12_meanFrom_60 rfl (lv_at hl 6 rfl) ?_
    refine lv_iload_n hx hb dX12_meanFrom_61 rfl (lv_at hl 5 rfl) ?_
    refine lv_iconst (v := 1) hx hb dX12_meanFrom_62 (by decide) ?_
    refine lv_iload hx hb dX12_meanFrom_63 (lv_at hl 1 rfl) ?_
    have w166 : ∀ k : Nat, k < 4 → 0 ≤ (σ161 68 k).toInt ∧ (σ161 68 k).toInt ≤ 3 := (by rw [f163 68 (by omega)]; exact w119)
    have z167 : (σ161 55 25).toInt = (σ115 55 25).toInt := by rw [(show σ161 55 25 = (σ115 55 25) from (by rw [f164 25 (by omega)]))]
    have z168 : (σ161 55 26).toInt = (σ115 55 26).toInt := by rw [(show σ161 55 26 = (σ115 55 26) from (by rw [f164 26 (by omega)]))]
    have z169 : (σ161 55 6).toInt = (σ 55 6).toInt := by rw [(show σ161 55 6 = (σ 55 6) from (by rw [f164 6 (by omega)]; exact (by rw [f118 6 (by omega)]; exact (by rw [f83 6 (by omega)]; exact (by rw [f54 6 (by omega)])))))]
    have w170 : ∀ k : Nat, k < 4 → 0 ≤ (σ80 68 k).toInt ∧ (σ80 68 k).toInt ≤ 3 := w100
    have z172 : (σ80 55 27).toInt = (σ 55 27).toInt := by rw [(show σ80 55 27 = (σ 55 27) from (by rw [f83 27 (by omega)]; exact (by rw [f54 27 (by omega)])))]
    have k171 := jwas (by omega) (w170 0 (by decide)) (w170 1 (by decide)) (w170 2 (by decide)) (w170 3 (by decide)) k126
    rw [← (show σ161 55 6 = σ80 55 6 from (by rw [f164 6 (by omega), f118 6 (by omega)]))] at k171
    refine jcallVv (As := [.int r52, .int 1, .int r116]) (rest := []) ⟨hx, hb, hml, hown, hts⟩ hK hP hA hS hZ (c_X12_goesBack_1 l D cI cL ad zz hJ σ161 τ r52 (r52.toInt) rfl r116 (r116.toInt) rfl w166 (by omega) (by omega) (by omega) k171) cw_RX12_300 (jc_55 cI cL ad σ161 τ) rfl ⟨Nat.le_of_ble_eq_true rfl, Nat.le_of_ble_eq_true rfl⟩ rfl rfl rfl hl.1 rfl (Nat.le_of_ble_eq_true rfl) dX12_meanFrom_65 ⟨Nat.zero_le _, Nat.zero_le _⟩ (fun σ173 τ173 H locs h173 hP hS => ?_)
    obtain ⟨rfl, f175, f176, w177, w178, w179, h173⟩ := h173
    obtain ⟨k180, k181, k182, k183, h173⟩ := h173
    have p184 : jKept σ173 := jKept.fr (by rw [f175 75 (by omega)]) (by rw [f175 76 (by omega)]) (by rw [f175 77 (by omega)]) p165
    have e185 : σ161 69 = σ115 69 := (by rw [f163 69 (by omega)])
    have e186 : σ173 69 = σ80 69 := jback69 w120 e185 w178
    have e187 : σ161 68 = σ115 68 := (by rw [f163 68 (by omega)])
    have e188 : σ161 55 6 = σ80 55 6 := (by rw [f164 6 (by omega), f118 6 (by omega)])
    have w196 : ∀ k : Nat, k < 4 → 0 ≤ (σ80 68 k).toInt ∧ (σ80 68 k).toInt ≤ 3 := w100
    have w197 : ∀ k : Nat, k < 4 → 0 ≤ (σ173 68 k).toInt ∧ (σ173 68 k).toInt ≤ 3 := w177
    have k198 := k183
    rw [e188] at k198
    have D189 := jdig (w196 0 (by decide)) (w196 1 (by decide)) (w196 2 (by decide)) (w196 3 (by decide)) (w197 0 (by decide)) (w197 1 (by decide)) (w197 2 (by decide)) (w197 3 (by decide)) k126 k198
    have e190 : σ173 55 27 = σ80 55 27 := Int32.toInt_inj.mp (by have h9 := D189.1; omega)
    have z199 : (σ161 55 26).toInt = (σ115 55 26).toInt := by rw [(show σ161 55 26 = (σ115 55 26) from (by rw [f164 26 (by omega)]))]
    have z200 : (σ80 55 26).toInt = (σ 55 26).toInt := by rw [(show σ80 55 26 = (σ 55 26) from (by rw [f83 26 (by omega)]; exact (by rw [f54 26 (by omega)])))]
    have z201 : (σ161 55 25).toInt = (σ115 55 25).toInt := by rw [(show σ161 55 25 = (σ115 55 25) from (by rw [f164 25 (by omega)]))]
    have z202 : (σ80 55 25).toInt = (σ 55 25).toInt := by rw [(show σ80 55 25 = (σ 55 25) from (by rw [f83 25 (by omega)]; exact (by rw [f54 25 (by omega)])))]
    have e191 : σ173 55 26 = σ80 55 26 := Int32.toInt_inj.mp (by omega)
    have e192 : σ173 55 25 = σ80 55 25 := Int32.toInt_inj.mp (by omega)
    have z203 : (σ80 55 6).toInt = (σ 55 6).toInt := by rw [(show σ80 55 6 = (σ 55 6) from (by rw [f83 6 (by omega)]; exact (by rw [f54 6 (by omega)])))]
    have e193 : σ173 68 = σ80 68 := jback68 (nb := (σ80 55 6).toInt) (by omega) w121 e187 (fun k hk => w179 k (by rw [e188]; exact hk)) D189.2
    have f194 : (∀ i : Nat, (i < 55 ∨ 55 < i) ∧ (i < 66 ∨ 66 < i) ∧ (i < 74 ∨ 78 < i) → σ173 i = σ80 i) := fun i hi => by
      by_cases h8 : i = 68
      · rw [h8]; exact e193
      by_cases h9 : i = 69
      · rw [h9]; exact e186
      rw [f175 i (by omega), f163 i (by omega), f117 i (by omega)]
    have f195 : ∀ k : Nat, (k < 18 ∨ 18 < k) ∧ (k < 19 ∨ 19 < k) ∧ (k < 20 ∨ 20 < k) ∧ (k < 21 ∨ 21 < k) ∧ (k < 22 ∨ 22 < k) ∧ (k < 37 ∨ 37 < k) → σ173 55 k = σ80 55 k := fun k hk => by
      by_cases h25 : k = 25
      · rw [h25]; exact e192
      by_cases h26 : k = 26
      · rw [h26]; exact e191
      by_cases h27 : k = 27
      · rw [h27]; exact e190
      rw [f176 k (by omega), f164 k (by omega), f118 k (by omega)]
    clear k198 k183 k126
    refine lv_aload_n hx hb dX12_meanFrom_68 rfl (lv_at hl 6 rfl) ?_
    refine lv_iload_n hx hb dX12_meanFrom_69 rfl (lv_at hl 5 rfl) ?_
    refine lv_iconst (v := 0) hx hb dX12_meanFrom_70 (by decide) ?_
    have w204 : ∀ k : Nat, k < 4 → 0 ≤ (σ173 68 k).toInt ∧ (σ173 68 k).toInt ≤ 3 := (by rw [f194 68 (by omega)]; exact w100)
    have z205 : (σ173 55 6).toInt = (σ 55 6).toInt := by rw [(show σ173 55 6 = (σ 55 6) from (by rw [f195 6 (by omega)]; exact (by rw [f83 6 (by omega)]; exact (by rw [f54 6 (by omega)]))))]
    have z206 : (σ173 55 27).toInt = (σ 55 27).toInt := by rw [(show σ173 55 27 = (σ 55 27) from (by rw [f195 27 (by omega)]; exact (by rw [f83 27 (by omega)]; exact (by rw [f54 27 (by omega)]))))]
    have z207 : (σ173 55 25).toInt = (σ 55 25).toInt := by rw [(show σ173 55 25 = (σ 55 25) from (by rw [f195 25 (by omega)]; exact (by rw [f83 25 (by omega)]; exact m59)))]
    have z208 : (σ173 55 26).toInt = (σ 55 26).toInt := by rw [(show σ173 55 26 = (σ 55 26) from (by rw [f195 26 (by omega)]; exact (by rw [f83 26 (by omega)]; exact (by rw [f54 26 (by omega)]))))]
    have z209 : (σ173 68 0).toInt = (σ 68 0).toInt := by rw [(show σ173 68 0 = (σ 68 0) from (by rw [f194 68 (by omega)]; exact (by rw [f82 68 (by omega)]; exact (by rw [f53 68 (by omega)]))))]
    have z210 : (σ173 68 1).toInt = (σ 68 1).toInt := by rw [(show σ173 68 1 = (σ 68 1) from (by rw [f194 68 (by omega)]; exact (by rw [f82 68 (by omega)]; exact (by rw [f53 68 (by omega)]))))]
    have z211 : (σ173 68 2).toInt = (σ 68 2).toInt := by rw [(show σ173 68 2 = (σ 68 2) from (by rw [f194 68 (by omega)]; exact (by rw [f82 68 (by omega)]; exact (by rw [f53 68 (by omega)]))))]
    have z212 : (σ173 68 3).toInt = (σ 68 3).toInt := by rw [(show σ173 68 3 = (σ 68 3) from (by rw [f194 68 (by omega)]; exact (by rw [f82 68 (by omega)]; exact (by rw [f53 68 (by omega)]))))]
    refine jcallV (As := [.int r52, .int 0]) (rest := []) ⟨hx, hb, hml, hown, hts⟩ hK hP hA hS hZ (c_X12_goes_0 l D cI cL ad zz hJ σ173 τ r52 (r52.toInt) rfl w204 (by omega) (by omega) (by omega) (by omega) (by omega)) cw_RX12_296 (jc_55 cI cL ad σ173 τ) rfl ⟨Nat.le_of_ble_eq_true rfl, Nat.le_of_ble_eq_true rfl⟩ rfl rfl rfl hl.1 rfl (Nat.le_of_ble_eq_true rfl) dX12_meanFrom_71 ⟨Nat.zero_le _, Nat.zero_le _⟩ (fun r214 σ213 τ213 H locs h213 hP hS => ?_)
    obtain ⟨rfl, f215, f216, w217, w218, w219, h213⟩ := h213
    obtain ⟨k220, k221, k222, h213⟩ := h213
    have h223 := h213
    obtain ⟨q229, k224, k225, k226, k227, k228⟩ := h223
    refine lv_istore (lv' := [(6, .int r214), (7, .int r162), (5, .int x107), (4, .int r81), (3, .int x62), (2, .int r52), (0, .ref (ad 55)), (1, .int a1)]) hx hb dX12_meanFrom_74 hl (by decide) rfl (fun ls hl => ?_)
    refine lv_aload_n hx hb dX12_meanFrom_76 rfl (lv_at hl 6 rfl) ?_
    refine lv_iload_n hx hb dX12_meanFrom_77 rfl (lv_at hl 7 rfl) ?_
    have z230 : (σ213 55 5).toInt = (σ 55 5).toInt := by rw [(show σ213 55 5 = (σ 55 5) from (by rw [f216 5 (by omega)]; exact (by rw [f195 5 (by omega)]; exact (by rw [f83 5 (by omega)]; exact (by rw [f54 5 (by omega)])))))]
    have z231 : (σ213 55 4).toInt = (σ 55 4).toInt := by rw [(show σ213 55 4 = (σ 55 4) from (by rw [f216 4 (by omega)]; exact (by rw [f195 4 (by omega)]; exact (by rw [f83 4 (by omega)]; exact (by rw [f54 4 (by omega)])))))]
    have w232 : ∀ k : Nat, k < 68 → (-200) ≤ (σ213 56 k).toInt ∧ (σ213 56 k).toInt ≤ 500 := (by rw [f215 56 (by omega)]; exact (by rw [f194 56 (by omega)]; exact w89))
    have w233 : ∀ k : Nat, k < 40 → 0 ≤ (σ213 57 k).toInt ∧ (σ213 57 k).toInt ≤ 67 := (by rw [f215 57 (by omega)]; exact (by rw [f194 57 (by omega)]; exact w90))
    have w234 : ∀ k : Nat, k < 40 → (-200) ≤ (σ213 58 k).toInt ∧ (σ213 58 k).toInt ≤ 500 := (by rw [f215 58 (by omega)]; exact (by rw [f194 58 (by omega)]; exact w91))
    have w235 : ∀ k : Nat, k < 40 → (-200) ≤ (σ213 59 k).toInt ∧ (σ213 59 k).toInt ≤ 500 := (by rw [f215 59 (by omega)]; exact (by rw [f194 59 (by omega)]; exact w92))
    have I236 : jI101 σ213 := ⟨(by omega), (by omega), (by omega), w232, w233, w234, w235⟩
    have z237 : (σ213 55 6).toInt = (σ 55 6).toInt := by rw [(show σ213 55 6 = (σ 55 6) from (by rw [f216 6 (by omega)]; exact (by rw [f195 6 (by omega)]; exact (by rw [f83 6 (by omega)]; exact (by rw [f54 6 (by omega)])))))]
    have w238 : ∀ k : Nat, k < 4 → 0 ≤ (σ213 60 k).toInt ∧ (σ213 60 k).toInt ≤ 50 := (by rw [f215 60 (by omega)]; exact (by rw [f194 60 (by omega)]; exact w95))
    have w239 : ∀ k : Nat, k < 4 → 0 ≤ (σ213 61 k).toInt ∧ (σ213 61 k).toInt ≤ 20 := (by rw [f215 61 (by omega)]; exact (by rw [f194 61 (by omega)]; exact w96))
    have I240 : jI102 σ213 := ⟨(by omega), w238, w239⟩
    have z241 : (σ213 55 9).toInt = (σ 55 9).toInt := by rw [(show σ213 55 9 = (σ 55 9) from (by rw [f216 9 (by omega)]; exact (by rw [f195 9 (by omega)]; exact (by rw [f83 9 (by omega)]; exact (by rw [f54 9 (by omega)])))))]
    have I242 : jI103 σ213 := (show 0 ≤ (σ213 55 9).toInt ∧ (σ213 55 9).toInt ≤ 3 by omega)
    have z243 : (σ213 55 10).toInt = (σ 55 10).toInt := by rw [(show σ213 55 10 = (σ 55 10) from (by rw [f216 10 (by omega)]; exact (by rw [f195 10 (by omega)]; exact (by rw [f83 10 (by omega)]; exact (by rw [f54 10 (by omega)])))))]
    have z244 : (σ213 55 12).toInt = (σ 55 12).toInt := by rw [(show σ213 55 12 = (σ 55 12) from (by rw [f216 12 (by omega)]; exact (by rw [f195 12 (by omega)]; exact (by rw [f83 12 (by omega)]; exact (by rw [f54 12 (by omega)])))))]
    have z245 : (σ213 55 13).toInt = (σ 55 13).toInt := by rw [(show σ213 55 13 = (σ 55 13) from (by rw [f216 13 (by omega)]; exact (by rw [f195 13 (by omega)]; exact (by rw [f83 13 (by omega)]; exact (by rw [f54 13 (by omega)])))))]
    have w246 : ∀ k : Nat, k < 8 → 0 ≤ (σ213 62 k).toInt ∧ (σ213 62 k).toInt ≤ 3 := (by rw [f215 62 (by omega)]; exact (by rw [f194 62 (by omega)]; exact (by rw [f82 62 (by omega)]; exact w60)))
    have w247 : ∀ k : Nat, k < 8 → 0 ≤ (σ213 67 k).toInt ∧ (σ213 67 k).toInt ≤ 3 := (by rw [f215 67 (by omega)]; exact (by rw [f194 67 (by omega)]; exact (by rw [f82 67 (by omega)]; exact (by rw [f53 67 (by omega)]; exact w16))))
    have I248 : jI104 σ213 := ⟨(by omega), (by omega), (by omega), w246, w247⟩
    have z249 : (σ213 55 15).toInt = (σ 55 15).toInt := by rw [(show σ213 55 15 = (σ 55 15) from (by rw [f216 15 (by omega)]; exact (by rw [f195 15 (by omega)]; exact (by rw [f83 15 (by omega)]; exact (by rw [f54 15 (by omega)])))))]
    have w250 : ∀ k : Nat, k < 2 → (-1) ≤ (σ213 65 k).toInt ∧ (σ213 65 k).toInt ≤ 80 := (by rw [f215 65 (by omega)]; exact (by rw [f194 65 (by omega)]; exact (by rw [f82 65 (by omega)]; exact w77)))
    have I251 : jI105 σ213 := ⟨(by omega), w250⟩
    have z252 : (σ213 55 32).toInt = (σ 55 32).toInt := by rw [(show σ213 55 32 = (σ 55 32) from (by rw [f216 32 (by omega)]; exact (by rw [f195 32 (by omega)]; exact (by rw [f83 32 (by omega)]; exact (by rw [f54 32 (by omega)])))))]
    have w253 : ∀ k : Nat, k < 20 → 0 ≤ (σ213 70 k).toInt ∧ (σ213 70 k).toInt ≤ 6 := (by rw [f215 70 (by omega)]; exact (by rw [f194 70 (by omega)]; exact (by rw [f82 70 (by omega)]; exact (by rw [f53 70 (by omega)]; exact w20))))
    have w254 : ∀ k : Nat, k < 20 → 0 ≤ (σ213 71 k).toInt ∧ (σ213 71 k).toInt ≤ 8 := (by rw [f215 71 (by omega)]; exact (by rw [f194 71 (by omega)]; exact (by rw [f82 71 (by omega)]; exact (by rw [f53 71 (by omega)]; exact w21))))
    have w255 : ∀ k : Nat, k < 160 → 0 ≤ (σ213 72 k).toInt ∧ (σ213 72 k).toInt ≤ 3 := (by rw [f215 72 (by omega)]; exact (by rw [f194 72 (by omega)]; exact (by rw [f82 72 (by omega)]; exact (by rw [f53 72 (by omega)]; exact w22))))
    have I256 : jI106 σ213 := ⟨(by omega), w253, w254, w255⟩
    have I257 : jI120 σ213 := ⟨(by omega), (by omega), (by omega), (by omega), (by omega), w217⟩
    have p258 : jKept σ213 := jKept.fr (by rw [f215 75 (by omega)]) (by rw [f215 76 (by omega)]) (by rw [f215 77 (by omega)]) p184
    refine jcallV (As := [.int a1]) (rest := []) ⟨hx, hb, hml, hown, hts⟩ hK hP hA hS hZ (c_X12_meanFrom_4 l D cI cL ad zz hJ σ213 τ a1 (A1) t1 I236 I240 I242 I248 I251 I256 I257 p258 (by omega) (by omega)) cw_RX12_324 (jc_55 cI cL ad σ213 τ) rfl ⟨Nat.le_of_ble_eq_true rfl, Nat.le_of_ble_eq_true rfl⟩ rfl rfl rfl hl.1 rfl (Nat.le_of_ble_eq_true rfl) dX12_meanFrom_78 ⟨Nat.zero_le _, Nat.zero_le _⟩ (fun r260 σ259 τ259 H locs h259 hP hS => ?_)
    obtain ⟨rfl, f261, f262, p263, h259⟩ := h259
    refine lv_istore (lv' := [(8, .int r260), (6, .int r214), (7, .int r162), (5, .int x107), (4, .int r81), (3, .int x62), (2, .int r52), (0, .ref (ad 55)), (1, .int a1)]) hx hb dX12_meanFrom_81 hl (by decide) rfl (fun ls hl => ?_)
    refine lv_aload_n hx hb dX12_meanFrom_83 rfl (lv_at hl 7 rfl) ?_
    refine lv_iload_n hx hb dX12_meanFrom_84 rfl (lv_at hl 6 rfl) ?_
    refine lv_iconst (v := 0) hx hb dX12_meanFrom_85 (by decide) ?_
    refine lv_iload hx hb dX12_meanFrom_86 (lv_at hl 1 rfl) ?_
    have w264 : ∀ k : Nat, k < 4 → 0 ≤ (σ259 68 k).toInt ∧ (σ259 68 k).toInt ≤ 3 := (by rw [f261 68 (by omega)]; exact w217)
    have z265 : (σ259 55 25).toInt = (σ213 55 25).toInt := by rw [(show σ259 55 25 = (σ213 55 25) from (by rw [f262 25 (by omega)]))]
    have z266 : (σ259 55 26).toInt = (σ213 55 26).toInt := by rw [(show σ259 55 26 = (σ213 55 26) from (by rw [f262 26 (by omega)]))]
    have z267 : (σ259 55 6).toInt = (σ 55 6).toInt := by rw [(show σ259 55 6 = (σ 55 6) from (by rw [f262 6 (by omega)]; exact (by rw [f216 6 (by omega)]; exact (by rw [f195 6 (by omega)]; exact (by rw [f83 6 (by omega)]; exact (by rw [f54 6 (by omega)]))))))]
    have w268 : ∀ k : Nat, k < 4 → 0 ≤ (σ173 68 k).toInt ∧ (σ173 68 k).toInt ≤ 3 := w204
    have z270 : (σ173 55 27).toInt = (σ 55 27).toInt := by rw [(show σ173 55 27 = (σ 55 27) from (by rw [f195 27 (by omega)]; exact (by rw [f83 27 (by omega)]; exact (by rw [f54 27 (by omega)]))))]
    have k269 := jwas (by omega) (w268 0 (by decide)) (w268 1 (by decide)) (w268 2 (by decide)) (w268 3 (by decide)) k224
    rw [← (show σ259 55 6 = σ173 55 6 from (by rw [f262 6 (by omega), f216 6 (by omega)]))] at k269
    refine jcallVv (As := [.int r52, .int 0, .int r214]) (rest := []) ⟨hx, hb, hml, hown, hts⟩ hK hP hA hS hZ (c_X12_goesBack_0 l D cI cL ad zz hJ σ259 τ r52 (r52.toInt) rfl r214 (r214.toInt) rfl w264 (by omega) (by omega) (by omega) k269) cw_RX12_300 (jc_55 cI cL ad σ259 τ) rfl ⟨Nat.le_of_ble_eq_true rfl, Nat.le_of_ble_eq_true rfl⟩ rfl rfl rfl hl.1 rfl (Nat.le_of_ble_eq_true rfl) dX12_meanFrom_88 ⟨Nat.zero_le _, Nat.zero_le _⟩ (fun σ271 τ271 H locs h271 hP hS => ?_)
    obtain ⟨rfl, f273, f274, w275, w276, w277, h271⟩ := h271
    obtain ⟨k278, k279, k280, k281, h271⟩ := h271
    have p282 : jKept σ271 := jKept.fr (by rw [f273 75 (by omega)]) (by rw [f273 76 (by omega)]) (by rw [f273 77 (by omega)]) p263
    have e283 : σ259 69 = σ213 69 := (by rw [f261 69 (by omega)])
    have e284 : σ271 69 = σ173 69 := jback69 w218 e283 w276
    have e285 : σ259 68 = σ213 68 := (by rw [f261 68 (by omega)])
    have e286 : σ259 55 6 = σ173 55 6 := (by rw [f262 6 (by omega), f216 6 (by omega)])
    have w294 : ∀ k : Nat, k < 4 → 0 ≤ (σ173 68 k).toInt ∧ (σ173 68 k).toInt ≤ 3 := w204
    have w295 : ∀ k : Nat, k < 4 → 0 ≤ (σ271 68 k).toInt ∧ (σ271 68 k).toInt ≤ 3 := w275
    have k296 := k281
    rw [e286] at k296
    have D287 := jdig (w294 0 (by decide)) (w294 1 (by decide)) (w294 2 (by decide)) (w294 3 (by decide)) (w295 0 (by decide)) (w295 1 (by decide)) (w295 2 (by decide)) (w295 3 (by decide)) k224 k296
    have e288 : σ271 55 27 = σ173 55 27 := Int32.toInt_inj.mp (by have h9 := D287.1; omega)
    have z297 : (σ259 55 26).toInt = (σ213 55 26).toInt := by rw [(show σ259 55 26 = (σ213 55 26) from (by rw [f262 26 (by omega)]))]
    have z298 : (σ173 55 26).toInt = (σ 55 26).toInt := by rw [(show σ173 55 26 = (σ 55 26) from (by rw [f195 26 (by omega)]; exact (by rw [f83 26 (by omega)]; exact (by rw [f54 26 (by omega)]))))]
    have z299 : (σ259 55 25).toInt = (σ213 55 25).toInt := by rw [(show σ259 55 25 = (σ213 55 25) from (by rw [f262 25 (by omega)]))]
    have z300 : (σ173 55 25).toInt = (σ 55 25).toInt := by rw [(show σ173 55 25 = (σ 55 25) from (by rw [f195 25 (by omega)]; exact (by rw [f83 25 (by omega)]; exact (by rw [f54 25 (by omega)]))))]
    have e289 : σ271 55 26 = σ173 55 26 := Int32.toInt_inj.mp (by omega)
    have e290 : σ271 55 25 = σ173 55 25 := Int32.toInt_inj.mp (by omega)
    have z301 : (σ173 55 6).toInt = (σ 55 6).toInt := by rw [(show σ173 55 6 = (σ 55 6) from (by rw [f195 6 (by omega)]; exact (by rw [f83 6 (by omega)]; exact (by rw [f54 6 (by omega)]))))]
    have e291 : σ271 68 = σ173 68 := jback68 (nb := (σ173 55 6).toInt) (by omega) w219 e285 (fun k hk => w277 k (by rw [e286]; exact hk)) D287.2
    have f292 : (∀ i : Nat, (i < 55 ∨ 55 < i) ∧ (i < 66 ∨ 66 < i) ∧ (i < 74 ∨ 78 < i) → σ271 i = σ173 i) := fun i hi => by
      by_cases h8 : i = 68
      · rw [h8]; exact e291
      by_cases h9 : i = 69
      · rw [h9]; exact e284
      rw [f273 i (by omega), f261 i (by omega), f215 i (by omega)]
    have f293 : ∀ k : Nat, (k < 18 ∨ 18 < k) ∧ (k < 19 ∨ 19 < k) ∧ (k < 20 ∨ 20 < k) ∧ (k < 21 ∨ 21 < k) ∧ (k < 22 ∨ 22 < k) ∧ (k < 37 ∨ 37 < k) → σ271 55 k = σ173 55 k := fun k hk => by
      by_cases h25 : k = 25
      · rw [h25]; exact e290
      by_cases h26 : k = 26
      · rw [h26]; exact e289
      by_cases h27 : k = 27
      · rw [h27]; exact e288
      rw [f274 k (by omega), f262 k (by omega), f216 k (by omega)]
    clear k296 k281 k224
    refine lv_iload hx hb dX12_meanFrom_91 (lv_at hl 3 rfl) ?_
    refine lv_sipush (v := 1000) hx hb dX12_meanFrom_93 (by decide) ?_
    refine lv_aload_n hx hb dX12_meanFrom_96 rfl (lv_at hl 7 rfl) ?_
    refine va_get (D := D) hx hb hts inlX12 hown hK hP 55 (jc_55 cI cL ad σ271 τ) rfl 13 (by decide) (hts _ kw_15_14) (fun _ h9 => h9) rfl dX12_meanFrom_97 ?_
    have m302 : σ271 55 13 = (σ 55 13) := (by rw [f293 13 (by omega)]; exact (by rw [f195 13 (by omega)]; exact (by rw [f83 13 (by omega)]; exact (by rw [f54 13 (by omega)]))))
    refine jtopr m302 ?_
    have g303 := jrg (rfl : (σ 55 13).toInt = (σ 55 13).toInt)
    refine lv_isub hx hb dX12_meanFrom_100 ?_
    refine lv_topi (fun x304 ex304 => ?_)
    have tx304 : x304.toInt = -(σ 55 13).toInt + 1000 := (jsub ex304 jz_1000 rfl (by omega) (by omega)).trans (by omega)
    refine lv_i2l (v := x304.toInt64) hx hb dX12_meanFrom_101 rfl ?_
    refine lv_iload hx hb dX12_meanFrom_102 (lv_at hl 2 rfl) ?_
    refine lv_iload hx hb dX12_meanFrom_104 (lv_at hl 0 rfl) ?_
    refine lv_iload hx hb dX12_meanFrom_106 (lv_at hl 4 rfl) ?_
    refine jcallS (As := [.int r162, .int r260, .int r81]) (rest := [.long x304.toInt64, .int x107]) ⟨hx, hb, hml, hown, hts⟩ hK hP hA hS hZ (c_X12_mixed l D cI cL ad zz hJ σ271 τ r162 (r162.toInt) rfl r260 (r260.toInt) rfl r81 (r81.toInt) rfl) cw_RX12_304 ⟨Nat.le_of_ble_eq_true rfl, Nat.le_of_ble_eq_true rfl⟩ rfl rfl rfl hl.1 rfl (Nat.le_of_ble_eq_true rfl) dX12_meanFrom_108 ⟨Nat.zero_le _, Nat.zero_le _⟩ (fun r306 σ305 τ305 H locs h305 hP hS => ?_)
    obtain ⟨⟨rfl, rfl⟩, h305⟩ := h305
    refine lv_i2l (v := r306.toInt64) hx hb dX12_meanFrom_111 rfl ?_
    refine lv_lmul hx hb dX12_meanFrom_112 ?_
    refine lv_topl (fun lx307 elx307 => ?_)
    refine lv_ldc2 (v := 1000) hx hb hown (hts _ kw_34_19) dX12_meanFrom_113 ?_
    refine lv_ldiv hx hb dX12_meanFrom_116 (by decide) ?_
    refine lv_topl (fun lx308 elx308 => ?_)
    refine lv_l2i hx hb dX12_meanFrom_117 rfl ?_
    refine lv_topi (fun x309 ex309 => ?_)
    have gx309 := jrg (rfl : x309.toInt = x309.toInt)
    have g310 := jrg (rfl : x309.toInt = x309.toInt)
    refine lv_iadd hx hb dX12_meanFrom_118 ?_
    refine lv_topi (fun x311 ex311 => ?_)
    have gx311 := jrg (rfl : x311.toInt = x311.toInt)
    exact hret x311 σ271 τ _ _ _ _ rfl ⟨rfl, (fun i hi => by rw [f292 i (by omega), f194 i (by omega), f82 i (by omega), f53 i (by omega)]), (fun k hk => by rw [f293 k (by omega), f195 k (by omega), f83 k (by omega), f54 k (by omega)]), p282, trivial⟩ hP hS dX12_meanFrom_119
set_option maxHeartbeats 4000000 in
set_option maxRecDepth 100000 in
theorem c_X12_meanFrom_6 (l : Launch) (D : va_G) (cI cL : ClassId) (ad zz : Nat → Nat) (hJ : jD ad) (σ : Nat → Nat → Int32) (τ : Nat → Nat → Int64) (a1 : Int32) (A1 : Int) (t1 : a1.toInt = A1) (hI101 : jI101 σ) (hI102 : jI102 σ) (hI103 : jI103 σ) (hI104 : jI104 σ) (hI105 : jI105 σ) (hI106 : jI106 σ) (hI120 : jI120 σ) (hs_jKept : jKept σ) (hp0 : 0 ≤ A1 ∧ A1 ≤ 19) (hp1 : (σ 55 12).toInt - (σ 55 26).toInt ≤ 6) : jM l yX12_meanFrom cX12_meanFrom 9 (some .int) ({ frames := 68, cells := 0, slots := 0, locals := 1653 }) D cI cL ad zz [.ref (ad 55), .int a1] σ τ (fun r σ' τ' => τ = τ' ∧ (∀ i : Nat, (i < 55 ∨ 55 < i) ∧ (i < 66 ∨ 66 < i) ∧ (i < 74 ∨ 78 < i) → σ' i = σ i) ∧ (∀ k : Nat, (k < 18 ∨ 18 < k) ∧ (k < 19 ∨ 19 < k) ∧ (k < 20 ∨ 20 < k) ∧ (k < 21 ∨ 21 < k) ∧ (k < 22 ∨ 22 < k) ∧ (k < 37 ∨ 37 < k) → σ' 55 k = σ 55 k) ∧ (jKept σ') ∧ True) := by
  refine jM.of hJ (by decide +kernel) (nt := .int) rfl (Nat.le_of_ble_eq_true rfl) ?_
  intro p e s m args below meth c Q ls hC hret hl hP
  obtain ⟨hx, hb, hr, hml, hown, hts, hK, -, hlocks, hZ⟩ := hC
  have hown : s.vm.findClass RX12 = some m.cls := hown
  have hS : va_S (jA ad) s.heap s.heap [] := va_S.rf
  have hA : ∀ q, jA ad q → jA ad q := fun _ h => h
  have hl : lv_has ls 9 [(0, .ref (ad 55)), (1, .int a1)] := hl
  have g1 := jrg t1
  obtain ⟨i1, i2, i3, w4, w5, w6, w7⟩ : (0 ≤ (σ 55 5).toInt) ∧ ((σ 55 5).toInt ≤ (σ 55 4).toInt) ∧ ((σ 55 4).toInt ≤ 40) ∧ (∀ k : Nat, k < 68 → (-200) ≤ (σ 56 k).toInt ∧ (σ 56 k).toInt ≤ 500) ∧ (∀ k : Nat, k < 40 → 0 ≤ (σ 57 k).toInt ∧ (σ 57 k).toInt ≤ 67) ∧ (∀ k : Nat, k < 40 → (-200) ≤ (σ 58 k).toInt ∧ (σ 58 k).toInt ≤ 500) ∧ (∀ k : Nat, k < 40 → (-200) ≤ (σ 59 k).toInt ∧ (σ 59 k).toInt ≤ 500) := id hI101
  obtain ⟨i8, w9, w10⟩ : (0 ≤ (σ 55 6).toInt ∧ (σ 55 6).toInt ≤ 4) ∧ (∀ k : Nat, k < 4 → 0 ≤ (σ 60 k).toInt ∧ (σ 60 k).toInt ≤ 50) ∧ (∀ k : Nat, k < 4 → 0 ≤ (σ 61 k).toInt ∧ (σ 61 k).toInt ≤ 20) := id hI102
  have i11 : 0 ≤ (σ 55 9).toInt ∧ (σ 55 9).toInt ≤ 3 := hI103
  obtain ⟨i12, i13, i14, w15, w16⟩ : (1 ≤ (σ 55 10).toInt ∧ (σ 55 10).toInt ≤ 8) ∧ (1 ≤ (σ 55 12).toInt ∧ (σ 55 12).toInt ≤ 12) ∧ (0 ≤ (σ 55 13).toInt ∧ (σ 55 13).toInt ≤ 999) ∧ (∀ k : Nat, k < 8 → 0 ≤ (σ 62 k).toInt ∧ (σ 62 k).toInt ≤ 3) ∧ (∀ k : Nat, k < 8 → 0 ≤ (σ 67 k).toInt ∧ (σ 67 k).toInt ≤ 3) := id hI104
  obtain ⟨i17, w18⟩ : (0 ≤ (σ 55 15).toInt ∧ (σ 55 15).toInt ≤ 80) ∧ (∀ k : Nat, k < 2 → (-1) ≤ (σ 65 k).toInt ∧ (σ 65 k).toInt ≤ 80) := id hI105
  obtain ⟨i19, w20, w21, w22⟩ : (0 ≤ (σ 55 32).toInt ∧ (σ 55 32).toInt ≤ 20) ∧ (∀ k : Nat, k < 20 → 0 ≤ (σ 70 k).toInt ∧ (σ 70 k).toInt ≤ 6) ∧ (∀ k : Nat, k < 20 → 0 ≤ (σ 71 k).toInt ∧ (σ 71 k).toInt ≤ 8) ∧ (∀ k : Nat, k < 160 → 0 ≤ (σ 72 k).toInt ∧ (σ 72 k).toInt ≤ 3) := id hI106
  obtain ⟨i23, i24, i25, i26, i27, w28⟩ : (0 ≤ (σ 55 25).toInt) ∧ ((σ 55 25).toInt ≤ (σ 55 10).toInt) ∧ (0 ≤ (σ 55 26).toInt) ∧ ((σ 55 26).toInt ≤ (σ 55 12).toInt) ∧ ((-1) ≤ (σ 55 27).toInt ∧ (σ 55 27).toInt ≤ 3) ∧ (∀ k : Nat, k < 4 → 0 ≤ (σ 68 k).toInt ∧ (σ 68 k).toInt ≤ 3) := id hI120
  refine lv_aload_n hx hb dX12_meanFrom_0 rfl (lv_at hl 0 rfl) ?_
  have I29 : jI102 σ := ⟨(by omega), w9, w10⟩
  have I30 : jI104 σ := ⟨(by omega), (by omega), (by omega), w15, w16⟩
  have I31 : jI120 σ := ⟨(by omega), (by omega), (by omega), (by omega), (by omega), w28⟩
  refine jcallV (As := []) (rest := []) ⟨hx, hb, hml, hown, hts⟩ hK hP hA hS hZ (c_X12_isEnded l D cI cL ad zz hJ σ τ I29 I30 I31) cw_RX12_307 (jc_55 cI cL ad σ τ) rfl ⟨Nat.le_of_ble_eq_true rfl, Nat.le_of_ble_eq_true rfl⟩ rfl rfl rfl hl.1 rfl (Nat.le_of_ble_eq_true rfl) dX12_meanFrom_1 ⟨Nat.zero_le _, Nat.zero_le _⟩ (fun r33 σ32 τ32 H locs h32 hP hS => ?_)
  obtain ⟨⟨rfl, rfl⟩, h32⟩ := h32
  rcases h32 with h34 | h35
  · obtain ⟨q37, k36⟩ := h34
    have q37 := q37.symm
    subst q37
    refine lv_if_eq (tgt := 9) hx hb dX12_meanFrom_4 (by decide) (fun c => absurd c (by decide)) (fun _ => ?_)
    refine lv_iconst (v := 0) hx hb dX12_meanFrom_7 (by decide) ?_
    exact hret 0 σ τ _ _ _ _ rfl ⟨rfl, (fun _ _ => rfl), (fun _ _ => rfl), hs_jKept, trivial⟩ hP hS dX12_meanFrom_8
  · obtain ⟨q41, k38, k39, k40⟩ := h35
    have q41 := q41.symm
    subst q41
    obtain ⟨B42, k43, k44, w45⟩ := k40
    refine lv_if_eq (tgt := 9) hx hb dX12_meanFrom_4 (by decide) (fun _ => ?_) (fun c => absurd (by decide) c)
    refine lv_aload_n hx hb dX12_meanFrom_9 rfl (lv_at hl 0 rfl) ?_
    refine lv_iload_n hx hb dX12_meanFrom_10 rfl (lv_at hl 1 rfl) ?_
    have p46 : jmb σ B42 = 1 := (jmb_fr rfl rfl rfl rfl rfl B42).trans w45
    have I47 : jI101 σ := ⟨(by omega), (by omega), (by omega), w4, w5, w6, w7⟩
    have I48 : jI103 σ := (show 0 ≤ (σ 55 9).toInt ∧ (σ 55 9).toInt ≤ 3 by omega)
    have I49 : jI105 σ := ⟨(by omega), w18⟩
    have I50 : jI106 σ := ⟨(by omega), w20, w21, w22⟩
    refine jcallV (As := [.int a1]) (rest := []) ⟨hx, hb, hml, hown, hts⟩ hK hP hA hS hZ (c_X12_putsOn l D cI cL ad zz hJ σ τ B42 p46 a1 (A1) t1 I47 I29 I48 I30 I49 I50 I31 hs_jKept (by omega) (by omega) (by omega) (by omega) (by omega)) cw_RX12_321 (jc_55 cI cL ad σ τ) rfl ⟨Nat.le_of_ble_eq_true rfl, Nat.le_of_ble_eq_true rfl⟩ rfl rfl rfl hl.1 rfl (Nat.le_of_ble_eq_true rfl) dX12_meanFrom_11 ⟨Nat.zero_le _, Nat.zero_le _⟩ (fun r52 σ51 τ51 H locs h51 hP hS => ?_)
    obtain ⟨rfl, f53, f54, p55, h51⟩ := h51
    have h56 := h51
    obtain ⟨q58, k57⟩ := h56
    refine lv_istore_n (lv' := [(2, .int r52), (0, .ref (ad 55)), (1, .int a1)]) hx hb dX12_meanFrom_14 rfl hl (by decide) rfl (fun ls hl => ?_)
    refine lv_aload_n hx hb dX12_meanFrom_15 rfl (lv_at hl 1 rfl) ?_
    refine va_get (D := D) hx hb hts inlX12 hown hK hP 55 (jc_55 cI cL ad σ51 τ) rfl 11 (by decide) (hts _ kw_7_8) (fun _ h9 => h9) rfl dX12_meanFrom_16 ?_
    refine lv_aload_n hx hb dX12_meanFrom_19 rfl (lv_at hl 1 rfl) ?_
    refine va_get (D := D) hx hb hts inlX12 hown hK hP 55 (jc_55 cI cL ad σ51 τ) rfl 25 (by decide) (hts _ kw_23_6) (fun _ h9 => h9) rfl dX12_meanFrom_20 ?_
    have m59 : σ51 55 25 = (σ 55 25) := (by rw [f54 25 (by omega)])
    refine jtopr m59 ?_
    refine jald hx hb hK hP (jc_62 cI cL ad σ51 τ) (jin rfl (by omega) (by omega)) dX12_meanFrom_23 ?_
    have w60 : ∀ k : Nat, k < 8 → 0 ≤ (σ51 62 k).toInt ∧ (σ51 62 k).toInt ≤ 3 := (by rw [f53 62 (by omega)]; exact w15)
    have g61 := w60 _ (jnat (x := (σ 55 25)) rfl (n := 8) (by omega) (by decide))
    refine lv_topi (fun x62 ex62 => ?_)
    rw [← ex62] at g61
    refine lv_istore_n (lv' := [(3, .int x62), (2, .int r52), (0, .ref (ad 55)), (1, .int a1)]) hx hb dX12_meanFrom_24 rfl hl (by decide) rfl (fun ls hl => ?_)
    refine lv_aload_n hx hb dX12_meanFrom_25 rfl (lv_at hl 2 rfl) ?_
    refine lv_iload_n hx hb dX12_meanFrom_26 rfl (lv_at hl 1 rfl) ?_
    refine lv_iload_n hx hb dX12_meanFrom_27 rfl (lv_at hl 0 rfl) ?_
    have z63 : (σ51 55 5).toInt = (σ 55 5).toInt := by rw [(show σ51 55 5 = (σ 55 5) from (by rw [f54 5 (by omega)]))]
    have z64 : (σ51 55 4).toInt = (σ 55 4).toInt := by rw [(show σ51 55 4 = (σ 55 4) from (by rw [f54 4 (by omega)]))]
    have w65 : ∀ k : Nat, k < 68 → (-200) ≤ (σ51 56 k).toInt ∧ (σ51 56 k).toInt ≤ 500 := (by rw [f53 56 (by omega)]; exact w4)
    have w66 : ∀ k : Nat, k < 40 → 0 ≤ (σ51 57 k).toInt ∧ (σ51 57 k).toInt ≤ 67 := (by rw [f53 57 (by omega)]; exact w5)
    have w67 : ∀ k : Nat, k < 40 → (-200) ≤ (σ51 58 k).toInt ∧ (σ51 58 k).toInt ≤ 500 := (by rw [f53 58 (by omega)]; exact w6)
    have w68 : ∀ k : Nat, k < 40 → (-200) ≤ (σ51 59 k).toInt ∧ (σ51 59 k).toInt ≤ 500 := (by rw [f53 59 (by omega)]; exact w7)
    have I69 : jI101 σ51 := ⟨(by omega), (by omega), (by omega), w65, w66, w67, w68⟩
    have z70 : (σ51 55 6).toInt = (σ 55 6).toInt := by rw [(show σ51 55 6 = (σ 55 6) from (by rw [f54 6 (by omega)]))]
    have w71 : ∀ k : Nat, k < 4 → 0 ≤ (σ51 60 k).toInt ∧ (σ51 60 k).toInt ≤ 50 := (by rw [f53 60 (by omega)]; exact w9)
    have w72 : ∀ k : Nat, k < 4 → 0 ≤ (σ51 61 k).toInt ∧ (σ51 61 k).toInt ≤ 20 := (by rw [f53 61 (by omega)]; exact w10)
    have I73 : jI102 σ51 := ⟨(by omega), w71, w72⟩
    have z74 : (σ51 55 9).toInt = (σ 55 9).toInt := by rw [(show σ51 55 9 = (σ 55 9) from (by rw [f54 9 (by omega)]))]
    have I75 : jI103 σ51 := (show 0 ≤ (σ51 55 9).toInt ∧ (σ51 55 9).toInt ≤ 3 by omega)
    have z76 : (σ51 55 15).toInt = (σ 55 15).toInt := by rw [(show σ51 55 15 = (σ 55 15) from (by rw [f54 15 (by omega)]))]
    have w77 : ∀ k : Nat, k < 2 → (-1) ≤ (σ51 65 k).toInt ∧ (σ51 65 k).toInt ≤ 80 := (by rw [f53 65 (by omega)]; exact w18)
    have I78 : jI105 σ51 := ⟨(by omega), w77⟩
    have w79 : ∀ k : Nat, k < 4 → 0 ≤ (σ51 68 k).toInt ∧ (σ51 68 k).toInt ≤ 3 := (by rw [f53 68 (by omega)]; exact w28)
    refine jcallV (As := [.int r52, .int x62]) (rest := []) ⟨hx, hb, hml, hown, hts⟩ hK hP hA hS hZ (c_X12_outBy l D cI cL ad zz hJ σ51 τ r52 (r52.toInt) rfl x62 (x62.toInt) rfl I69 I73 I75 I78 w79 (by omega) (by omega)) cw_RX12_259 (jc_55 cI cL ad σ51 τ) rfl ⟨Nat.le_of_ble_eq_true rfl, Nat.le_of_ble_eq_true rfl⟩ rfl rfl rfl hl.1 rfl (Nat.le_of_ble_eq_true rfl) dX12_meanFrom_28 ⟨Nat.zero_le _, Nat.zero_le _⟩ (fun r81 σ80 τ80 H locs h80 hP hS => ?_)
    obtain ⟨rfl, f82, f83, h80⟩ := h80
    have h84 := h80
    obtain ⟨q86, k85⟩ := h84
    refine lv_istore (lv' := [(4, .int r81), (3, .int x62), (2, .int r52), (0, .ref (ad 55)), (1, .int a1)]) hx hb dX12_meanFrom_31 hl (by decide) rfl (fun ls hl => ?_)
    refine lv_sipush (v := 1000) hx hb dX12_meanFrom_33 (by decide) ?_
    refine lv_aload_n hx hb dX12_meanFrom_36 rfl (lv_at hl 3 rfl) ?_
    refine lv_iload_n hx hb dX12_meanFrom_37 rfl (lv_at hl 2 rfl) ?_
    refine lv_iload_n hx hb dX12_meanFrom_38 rfl (lv_at hl 1 rfl) ?_
    have z87 : (σ80 55 5).toInt = (σ 55 5).toInt := by rw [(show σ80 55 5 = (σ 55 5) from (by rw [f83 5 (by omega)]; exact (by rw [f54 5 (by omega)])))]
    have z88 : (σ80 55 4).toInt = (σ 55 4).toInt := by rw [(show σ80 55 4 = (σ 55 4) from (by rw [f83 4 (by omega)]; exact (by rw [f54 4 (by omega)])))]
    have w89 : ∀ k : Nat, k < 68 → (-200) ≤ (σ80 56 k).toInt ∧ (σ80 56 k).toInt ≤ 500 := (by rw [f82 56 (by omega)]; exact w65)
    have w90 : ∀ k : Nat, k < 40 → 0 ≤ (σ80 57 k).toInt ∧ (σ80 57 k).toInt ≤ 67 := (by rw [f82 57 (by omega)]; exact w66)
    have w91 : ∀ k : Nat, k < 40 → (-200) ≤ (σ80 58 k).toInt ∧ (σ80 58 k).toInt ≤ 500 := (by rw [f82 58 (by omega)]; exact w67)
    have w92 : ∀ k : Nat, k < 40 → (-200) ≤ (σ80 59 k).toInt ∧ (σ80 59 k).toInt ≤ 500 := (by rw [f82 59 (by omega)]; exact w68)
    have I93 : jI101 σ80 := ⟨(by omega), (by omega), (by omega), w89, w90, w91, w92⟩
    have z94 : (σ80 55 6).toInt = (σ 55 6).toInt := by rw [(show σ80 55 6 = (σ 55 6) from (by rw [f83 6 (by omega)]; exact (by rw [f54 6 (by omega)])))]
    have w95 : ∀ k : Nat, k < 4 → 0 ≤ (σ80 60 k).toInt ∧ (σ80 60 k).toInt ≤ 50 := (by rw [f82 60 (by omega)]; exact w71)
    have w96 : ∀ k : Nat, k < 4 → 0 ≤ (σ80 61 k).toInt ∧ (σ80 61 k).toInt ≤ 20 := (by rw [f82 61 (by omega)]; exact w72)
    have I97 : jI102 σ80 := ⟨(by omega), w95, w96⟩
    have z98 : (σ80 55 9).toInt = (σ 55 9).toInt := by rw [(show σ80 55 9 = (σ 55 9) from (by rw [f83 9 (by omega)]; exact (by rw [f54 9 (by omega)])))]
    have I99 : jI103 σ80 := (show 0 ≤ (σ80 55 9).toInt ∧ (σ80 55 9).toInt ≤ 3 by omega)
    have w100 : ∀ k : Nat, k < 4 → 0 ≤ (σ80 68 k).toInt ∧ (σ80 68 k).toInt ≤ 3 := (by rw [f82 68 (by omega)]; exact w79)
    refine jcallV (As := [.int r52, .int x62]) (rest := [.int 1000]) ⟨hx, hb, hml, hown, hts⟩ hK hP hA hS hZ (c_X12_runsBy l D cI cL ad zz hJ σ80 τ r52 (r52.toInt) rfl x62 (x62.toInt) rfl I93 I97 I99 w100 (by omega) (by omega)) cw_RX12_262 (jc_55 cI cL ad σ80 τ) rfl ⟨Nat.le_of_ble_eq_true rfl, Nat.le_of_ble_eq_true rfl⟩ rfl rfl rfl hl.1 rfl (Nat.le_of_ble_eq_true rfl) dX12_meanFrom_39 ⟨Nat.zero_le _, Nat.zero_le _⟩ (fun r102 σ101 τ101 H locs h101 hP hS => ?_)
    obtain ⟨⟨rfl, rfl⟩, h101⟩ := h101
    have h103 := h101
    obtain ⟨q105, k104⟩ := h103
    have g106 := jrg (rfl : r102.toInt = r102.toInt)
    refine lv_imul hx hb dX12_meanFrom_42 ?_
    refine lv_topi (fun x107 ex107 => ?_)
    have tx107 : x107.toInt = 1000 * r102.toInt := (jmul ex107 jz_1000 rfl (by omega) (by omega)).trans (by omega)
    refine lv_istore (lv' := [(5, .int x107), (4, .int r81), (3, .int x62), (2, .int r52), (0, .ref (ad 55)), (1, .int a1)]) hx hb dX12_meanFrom_43 hl (by decide) rfl (fun ls hl => ?_)
    refine lv_aload_n hx hb dX12_meanFrom_45 rfl (lv_at hl 4 rfl) ?_
    refine lv_iload_n hx hb dX12_meanFrom_46 rfl (lv_at hl 3 rfl) ?_
    refine lv_iconst (v := 1) hx hb dX12_meanFrom_47 (by decide) ?_
    have z108 : (σ80 55 27).toInt = (σ 55 27).toInt := by rw [(show σ80 55 27 = (σ 55 27) from (by rw [f83 27 (by omega)]; exact (by rw [f54 27 (by omega)])))]
    have z109 : (σ80 55 25).toInt = (σ 55 25).toInt := by rw [(show σ80 55 25 = (σ 55 25) from (by rw [f83 25 (by omega)]; exact m59))]
    have z110 : (σ80 55 26).toInt = (σ 55 26).toInt := by rw [(show σ80 55 26 = (σ 55 26) from (by rw [f83 26 (by omega)]; exact (by rw [f54 26 (by omega)])))]
    have z111 : (σ80 68 0).toInt = (σ 68 0).toInt := by rw [(show σ80 68 0 = (σ 68 0) from (by rw [f82 68 (by omega)]; exact (by rw [f53 68 (by omega)])))]
    have z112 : (σ80 68 1).toInt = (σ 68 1).toInt := by rw [(show σ80 68 1 = (σ 68 1) from (by rw [f82 68 (by omega)]; exact (by rw [f53 68 (by omega)])))]
    have z113 : (σ80 68 2).toInt = (σ 68 2).toInt := by rw [(show σ80 68 2 = (σ 68 2) from (by rw [f82 68 (by omega)]; exact (by rw [f53 68 (by omega)])))]
    have z114 : (σ80 68 3).toInt = (σ 68 3).toInt := by rw [(show σ80 68 3 = (σ 68 3) from (by rw [f82 68 (by omega)]; exact (by rw [f53 68 (by omega)])))]
    refine jcallV (As := [.int r52, .int 1]) (rest := []) ⟨hx, hb, hml, hown, hts⟩ hK hP hA hS hZ (c_X12_goes_1 l D cI cL ad zz hJ σ80 τ r52 (r52.toInt) rfl w100 (by omega) (by omega) (by omega) (by omega) (by omega)) cw_RX12_296 (jc_55 cI cL ad σ80 τ) rfl ⟨Nat.le_of_ble_eq_true rfl, Nat.le_of_ble_eq_true rfl⟩ rfl rfl rfl hl.1 rfl (Nat.le_of_ble_eq_true rfl) dX12_meanFrom_48 ⟨Nat.zero_le _, Nat.zero_le _⟩ (fun r116 σ115 τ115 H locs h115 hP hS => ?_)
    obtain ⟨rfl, f117, f118, w119, w120, w121, h115⟩ := h115
    obtain ⟨k122, k123, k124, h115⟩ := h115
    have h125 := h115
    obtain ⟨q131, k126, k127, k128, k129, k130⟩ := h125
    refine lv_istore (lv' := [(6, .int r116), (5, .int x107), (4, .int r81), (3, .int x62), (2, .int r52), (0, .ref (ad 55)), (1, .int a1)]) hx hb dX12_meanFrom_51 hl (by decide) rfl (fun ls hl => ?_)
    refine lv_aload_n hx hb dX12_meanFrom_53 rfl (lv_at hl 5 rfl) ?_
    refine lv_iload_n hx hb dX12_meanFrom_54 rfl (lv_at hl 6 rfl) ?_
    have z132 : (σ115 55 5).toInt = (σ 55 5).toInt := by rw [(show σ115 55 5 = (σ 55 5) from (by rw [f118 5 (by omega)]; exact (by rw [f83 5 (by omega)]; exact (by rw [f54 5 (by omega)]))))]
    have z133 : (σ115 55 4).toInt = (σ 55 4).toInt := by rw [(show σ115 55 4 = (σ 55 4) from (by rw [f118 4 (by omega)]; exact (by rw [f83 4 (by omega)]; exact (by rw [f54 4 (by omega)]))))]
    have w134 : ∀ k : Nat, k < 68 → (-200) ≤ (σ115 56 k).toInt ∧ (σ115 56 k).toInt ≤ 500 := (by rw [f117 56 (by omega)]; exact w89)
    have w135 : ∀ k : Nat, k < 40 → 0 ≤ (σ115 57 k).toInt ∧ (σ115 57 k).toInt ≤ 67 := (by rw [f117 57 (by omega)]; exact w90)
    have w136 : ∀ k : Nat, k < 40 → (-200) ≤ (σ115 58 k).toInt ∧ (σ115 58 k).toInt ≤ 500 := (by rw [f117 58 (by omega)]; exact w91)
    have w137 : ∀ k : Nat, k < 40 → (-200) ≤ (σ115 59 k).toInt ∧ (σ115 59 k).toInt ≤ 500 := (by rw [f117 59 (by omega)]; exact w92)
    have I138 : jI101 σ115 := ⟨(by omega), (by omega), (by omega), w134, w135, w136, w137⟩
    have z139 : (σ115 55 6).toInt = (σ 55 6).toInt := by rw [(show σ115 55 6 = (σ 55 6) from (by rw [f118 6 (by omega)]; exact (by rw [f83 6 (by omega)]; exact (by rw [f54 6 (by omega)]))))]
    have w140 : ∀ k : Nat, k < 4 → 0 ≤ (σ115 60 k).toInt ∧ (σ115 60 k).toInt ≤ 50 := (by rw [f117 60 (by omega)]; exact w95)
    have w141 : ∀ k : Nat, k < 4 → 0 ≤ (σ115 61 k).toInt ∧ (σ115 61 k).toInt ≤ 20 := (by rw [f117 61 (by omega)]; exact w96)
    have I142 : jI102 σ115 := ⟨(by omega), w140, w141⟩
    have z143 : (σ115 55 9).toInt = (σ 55 9).toInt := by rw [(show σ115 55 9 = (σ 55 9) from (by rw [f118 9 (by omega)]; exact (by rw [f83 9 (by omega)]; exact (by rw [f54 9 (by omega)]))))]
    have I144 : jI103 σ115 := (show 0 ≤ (σ115 55 9).toInt ∧ (σ115 55 9).toInt ≤ 3 by omega)
    have z145 : (σ115 55 10).toInt = (σ 55 10).toInt := by rw [(show σ115 55 10 = (σ 55 10) from (by rw [f118 10 (by omega)]; exact (by rw [f83 10 (by omega)]; exact (by rw [f54 10 (by omega)]))))]
    have z146 : (σ115 55 12).toInt = (σ 55 12).toInt := by rw [(show σ115 55 12 = (σ 55 12) from (by rw [f118 12 (by omega)]; exact (by rw [f83 12 (by omega)]; exact (by rw [f54 12 (by omega)]))))]
    have z147 : (σ115 55 13).toInt = (σ 55 13).toInt := by rw [(show σ115 55 13 = (σ 55 13) from (by rw [f118 13 (by omega)]; exact (by rw [f83 13 (by omega)]; exact (by rw [f54 13 (by omega)]))))]
    have w148 : ∀ k : Nat, k < 8 → 0 ≤ (σ115 62 k).toInt ∧ (σ115 62 k).toInt ≤ 3 := (by rw [f117 62 (by omega)]; exact (by rw [f82 62 (by omega)]; exact w60))
    have w149 : ∀ k : Nat, k < 8 → 0 ≤ (σ115 67 k).toInt ∧ (σ115 67 k).toInt ≤ 3 := (by rw [f117 67 (by omega)]; exact (by rw [f82 67 (by omega)]; exact (by rw [f53 67 (by omega)]; exact w16)))
    have I150 : jI104 σ115 := ⟨(by omega), (by omega), (by omega), w148, w149⟩
    have z151 : (σ115 55 15).toInt = (σ 55 15).toInt := by rw [(show σ115 55 15 = (σ 55 15) from (by rw [f118 15 (by omega)]; exact (by rw [f83 15 (by omega)]; exact (by rw [f54 15 (by omega)]))))]
    have w152 : ∀ k : Nat, k < 2 → (-1) ≤ (σ115 65 k).toInt ∧ (σ115 65 k).toInt ≤ 80 := (by rw [f117 65 (by omega)]; exact (by rw [f82 65 (by omega)]; exact w77))
    have I153 : jI105 σ115 := ⟨(by omega), w152⟩
    have z154 : (σ115 55 32).toInt = (σ 55 32).toInt := by rw [(show σ115 55 32 = (σ 55 32) from (by rw [f118 32 (by omega)]; exact (by rw [f83 32 (by omega)]; exact (by rw [f54 32 (by omega)]))))]
    have w155 : ∀ k : Nat, k < 20 → 0 ≤ (σ115 70 k).toInt ∧ (σ115 70 k).toInt ≤ 6 := (by rw [f117 70 (by omega)]; exact (by rw [f82 70 (by omega)]; exact (by rw [f53 70 (by omega)]; exact w20)))
    have w156 : ∀ k : Nat, k < 20 → 0 ≤ (σ115 71 k).toInt ∧ (σ115 71 k).toInt ≤ 8 := (by rw [f117 71 (by omega)]; exact (by rw [f82 71 (by omega)]; exact (by rw [f53 71 (by omega)]; exact w21)))
    have w157 : ∀ k : Nat, k < 160 → 0 ≤ (σ115 72 k).toInt ∧ (σ115 72 k).toInt ≤ 3 := (by rw [f117 72 (by omega)]; exact (by rw [f82 72 (by omega)]; exact (by rw [f53 72 (by omega)]; exact w22)))
    have I158 : jI106 σ115 := ⟨(by omega), w155, w156, w157⟩
    have I159 : jI120 σ115 := ⟨(by omega), (by omega), (by omega), (by omega), (by omega), w119⟩
    have p160 : jKept σ115 := jKept.fr (by rw [f117 75 (by omega), f82 75 (by omega)]) (by rw [f117 76 (by omega), f82 76 (by omega)]) (by rw [f117 77 (by omega), f82 77 (by omega)]) p55
    refine jcallV (As := [.int a1]) (rest := []) ⟨hx, hb, hml, hown, hts⟩ hK hP hA hS hZ (c_X12_meanFrom_5 l D cI cL ad zz hJ σ115 τ a1 (A1) t1 I138 I142 I144 I150 I153 I158 I159 p160 (by omega) (by omega)) cw_RX12_324 (jc_55 cI cL ad σ115 τ) rfl ⟨Nat.le_of_ble_eq_true rfl, Nat.le_of_ble_eq_true rfl⟩ rfl rfl rfl hl.1 rfl (Nat.le_of_ble_eq_true rfl) dX12_meanFrom_55 ⟨Nat.zero_le _, Nat.zero_le _⟩ (fun r162 σ161 τ161 H locs h161 hP hS => ?_)
    obtain ⟨rfl, f163, f164, p165, h161⟩ := h161
    refine lv_istore (lv' := [(7, .int r162), (6, .int r116), (5, .int x107), (4, .int r81), (3, .int x62), (2, .int r52), (0, .ref (ad 55)), (1, .int a1)]) hx hb dX12_meanFrom_58 hl (by decide) rfl (fun ls hl => ?_)
    refine lv_aload_n hx hb dX12_meanFrom_60 rfl (lv_at hl 6 rfl) ?_
    refine lv_iload_n hx hb dX12_meanFrom_61 rfl (lv_at hl 5 rfl) ?_
    refine lv_iconst (v := 1) hx hb dX12_meanFrom_62 (by decide) ?_
    refine lv_iload hx hb dX12_meanFrom_63 (lv_at hl 1 rfl) ?_
    have w166 : ∀ k : Nat, k < 4 → 0 ≤ (σ161 68 k).toInt ∧ (σ161 68 k).toInt ≤ 3 := (by rw [f163 68 (by omega)]; exact w119)
    have z167 : (σ161 55 25).toInt = (σ115 55 25).toInt := by rw [(show σ161 55 25 = (σ115 55 25) from (by rw [f164 25 (by omega)]))]
    have z168 : (σ161 55 26).toInt = (σ115 55 26).toInt := by rw [(show σ161 55 26 = (σ115 55 26) from (by rw [f164 26 (by omega)]))]
    have z169 : (σ161 55 6).toInt = (σ 55 6).toInt := by rw [(show σ161 55 6 = (σ 55 6) from (by rw [f164 6 (by omega)]; exact (by rw [f118 6 (by omega)]; exact (by rw [f83 6 (by omega)]; exact (by rw [f54 6 (by omega)])))))]
    have w170 : ∀ k : Nat, k < 4 → 0 ≤ (σ80 68 k).toInt ∧ (σ80 68 k).toInt ≤ 3 := w100
    have z172 : (σ80 55 27).toInt = (σ 55 27).toInt := by rw [(show σ80 55 27 = (σ 55 27) from (by rw [f83 27 (by omega)]; exact (by rw [f54 27 (by omega)])))]
    have k171 := jwas (by omega) (w170 0 (by decide)) (w170 1 (by decide)) (w170 2 (by decide)) (w170 3 (by decide)) k126
    rw [← (show σ161 55 6 = σ80 55 6 from (by rw [f164 6 (by omega), f118 6 (by omega)]))] at k171
    refine jcallVv (As := [.int r52, .int 1, .int r116]) (rest := []) ⟨hx, hb, hml, hown, hts⟩ hK hP hA hS hZ (c_X12_goesBack_1 l D cI cL ad zz hJ σ161 τ r52 (r52.toInt) rfl r116 (r116.toInt) rfl w166 (by omega) (by omega) (by omega) k171) cw_RX12_300 (jc_55 cI cL ad σ161 τ) rfl ⟨Nat.le_of_ble_eq_true rfl, Nat.le_of_ble_eq_true rfl⟩ rfl rfl rfl hl.1 rfl (Nat.le_of_ble_eq_true rfl) dX12_meanFrom_65 ⟨Nat.zero_le _, Nat.zero_le _⟩ (fun σ173 τ173 H locs h173 hP hS => ?_)
    obtain ⟨rfl, f175, f176, w177, w178, w179, h173⟩ := h173
    obtain ⟨k180, k181, k182, k183, h173⟩ := h173
    have p184 : jKept σ173 := jKept.fr (by rw [f175 75 (by omega)]) (by rw [f175 76 (by omega)]) (by rw [f175 77 (by omega)]) p165
    have e185 : σ161 69 = σ115 69 := (by rw [f163 69 (by omega)])
    have e186 : σ173 69 = σ80 69 := jback69 w120 e185 w178
    have e187 : σ161 68 = σ115 68 := (by rw [f163 68 (by omega)])
    have e188 : σ161 55 6 = σ80 55 6 := (by rw [f164 6 (by omega), f118 6 (by omega)])
    have w196 : ∀ k : Nat, k < 4 → 0 ≤ (σ80 68 k).toInt ∧ (σ80 68 k).toInt ≤ 3 := w100
    have w197 : ∀ k : Nat, k < 4 → 0 ≤ (σ173 68 k).toInt ∧ (σ173 68 k).toInt ≤ 3 := w177
    have k198 := k183
    rw [e188] at k198
    have D189 := jdig (w196 0 (by decide)) (w196 1 (by decide)) (w196 2 (by decide)) (w196 3 (by decide)) (w197 0 (by decide)) (w197 1 (by decide)) (w197 2 (by decide)) (w197 3 (by decide)) k126 k198
    have e190 : σ173 55 27 = σ80 55 27 := Int32.toInt_inj.mp (by have h9 := D189.1; omega)
    have z199 : (σ161 55 26).toInt = (σ115 55 26).toInt := by rw [(show σ161 55 26 = (σ115 55 26) from (by rw [f164 26 (by omega)]))]
    have z200 : (σ80 55 26).toInt = (σ 55 26).toInt := by rw [(show σ80 55 26 = (σ 55 26) from (by rw [f83 26 (by omega)]; exact (by rw [f54 26 (by omega)])))]
    have z201 : (σ161 55 25).toInt = (σ115 55 25).toInt := by rw [(show σ161 55 25 = (σ115 55 25) from (by rw [f164 25 (by omega)]))]
    have z202 : (σ80 55 25).toInt = (σ 55 25).toInt := by rw [(show σ80 55 25 = (σ 55 25) from (by rw [f83 25 (by omega)]; exact (by rw [f54 25 (by omega)])))]
    have e191 : σ173 55 26 = σ80 55 26 := Int32.toInt_inj.mp (by omega)
    have e192 : σ173 55 25 = σ80 55 25 := Int32.toInt_inj.mp (by omega)
    have z203 : (σ80 55 6).toInt = (σ 55 6).toInt := by rw [(show σ80 55 6 = (σ 55 6) from (by rw [f83 6 (by omega)]; exact (by rw [f54 6 (by omega)])))]
    have e193 : σ173 68 = σ80 68 := jback68 (nb := (σ80 55 6).toInt) (by omega) w121 e187 (fun k hk => w179 k (by rw [e188]; exact hk)) D189.2
    have f194 : (∀ i : Nat, (i < 55 ∨ 55 < i) ∧ (i < 66 ∨ 66 < i) ∧ (i < 74 ∨ 78 < i) → σ173 i = σ80 i) := fun i hi => by
      by_cases h8 : i = 68
      · rw [h8]; exact e193
      by_cases h9 : i = 69
      · rw [h9]; exact e186
      rw [f175 i (by omega), f163 i (by omega), f117 i (by omega)]
    have f195 : ∀ k : Nat, (k < 18 ∨ 18 < k) ∧ (k < 19 ∨ 19 < k) ∧ (k < 20 ∨ 20 < k) ∧ (k < 21 ∨ 21 < k) ∧ (k < 22 ∨ 22 < k) ∧ (k < 37 ∨ 37 < k) → σ173 55 k = σ80 55 k := fun k hk => by
      by_cases h25 : k = 25
      · rw [h25]; exact e192
      by_cases h26 : k = 26
      · rw [h26]; exact e191
      by_cases h27 : k = 27
      · rw [h27]; exact e190
      rw [f176 k (by omega), f164 k (by omega), f118 k (by omega)]
    clear k198 k183 k126
    refine lv_aload_n hx hb dX12_meanFrom_68 rfl (lv_at hl 6 rfl) ?_
    refine lv_iload_n hx hb dX12_meanFrom_69 rfl (lv_at hl 5 rfl) ?_
    refine lv_iconst (v := 0) hx hb dX12_meanFrom_70 (by decide) ?_
    have w204 : ∀ k : Nat, k < 4 → 0 ≤ (σ173 68 k).toInt ∧ (σ173 68 k).toInt ≤ 3 := (by rw [f194 68 (by omega)]; exact w100)
    have z205 : (σ173 55 6).toInt = (σ 55 6).toInt := by rw [(show σ173 55 6 = (σ 55 6) from (by rw [f195 6 (by omega)]; exact (by rw [f83 6 (by omega)]; exact (by rw [f54 6 (by omega)]))))]
    have z206 : (σ173 55 27).toInt = (σ 55 27).toInt := by rw [(show σ173 55 27 = (σ 55 27) from (by rw [f195 27 (by omega)]; exact (by rw [f83 27 (by omega)]; exact (by rw [f54 27 (by omega)]))))]
    have z207 : (σ173 55 25).toInt = (σ 55 25).toInt := by rw [(show σ173 55 25 = (σ 55 25) from (by rw [f195 25 (by omega)]; exact (by rw [f83 25 (by omega)]; exact m59)))]
    have z208 : (σ173 55 26).toInt = (σ 55 26).toInt := by rw [(show σ173 55 26 = (σ 55 26) from (by rw [f195 26 (by omega)]; exact (by rw [f83 26 (by omega)]; exact (by rw [f54 26 (by omega)]))))]
    have z209 : (σ173 68 0).toInt = (σ 68 0).toInt := by rw [(show σ173 68 0 = (σ 68 0) from (by rw [f194 68 (by omega)]; exact (by rw [f82 68 (by omega)]; exact (by rw [f53 68 (by omega)]))))]
    have z210 : (σ173 68 1).toInt = (σ 68 1).toInt := by rw [(show σ173 68 1 = (σ 68 1) from (by rw [f194 68 (by omega)]; exact (by rw [f82 68 (by omega)]; exact (by rw [f53 68 (by omega)]))))]
    have z211 : (σ173 68 2).toInt = (σ 68 2).toInt := by rw [(show σ173 68 2 = (σ 68 2) from (by rw [f194 68 (by omega)]; exact (by rw [f82 68 (by omega)]; exact (by rw [f53 68 (by omega)]))))]
    have z212 : (σ173 68 3).toInt = (σ 68 3).toInt := by rw [(show σ173 68 3 = (σ 68 3) from (by rw [f194 68 (by omega)]; exact (by rw [f82 68 (by omega)]; exact (by rw [f53 68 (by omega)]))))]
    refine jcallV (As := [.int r52, .int 0]) (rest := []) ⟨hx, hb, hml, hown, hts⟩ hK hP hA hS hZ (c_X12_goes_0 l D cI cL ad zz hJ σ173 τ r52 (r52.toInt) rfl w204 (by omega) (by omega) (by omega) (by omega) (by omega)) cw_RX12_296 (jc_55 cI cL ad σ173 τ) rfl ⟨Nat.le_of_ble_eq_true rfl, Nat.le_of_ble_eq_true rfl⟩ rfl rfl rfl hl.1 rfl (Nat.le_of_ble_eq_true rfl) dX12_meanFrom_71 ⟨Nat.zero_le _, Nat.zero_le _⟩ (fun r214 σ213 τ213 H locs h213 hP hS => ?_)
    obtain ⟨rfl, f215, f216, w217, w218, w219, h213⟩ := h213
    obtain ⟨k220, k221, k222, h213⟩ := h213
    have h223 := h213
    obtain ⟨q229, k224, k225, k226, k227, k228⟩ := h223
    refine lv_istore (lv' := [(6, .int r214), (7, .int r162), (5, .int x107), (4, .int r81), (3, .int x62), (2, .int r52), (0, .ref (ad 55)), (1, .int a1)]) hx hb dX12_meanFrom_74 hl (by decide) rfl (fun ls hl => ?_)
    refine lv_aload_n hx hb dX12_meanFrom_76 rfl (lv_at hl 6 rfl) ?_
    refine lv_iload_n hx hb dX12_meanFrom_77 rfl (lv_at hl 7 rfl) ?_
    have z230 : (σ213 55 5).toInt = (σ 55 5).toInt := by rw [(show σ213 55 5 = (σ 55 5) from (by rw [f216 5 (by omega)]; exact (by rw [f195 5 (by omega)]; exact (by rw [f83 5 (by omega)]; exact (by rw [f54 5 (by omega)])))))]
    have z231 : (σ213 55 4).toInt = (σ 55 4).toInt := by rw [(show σ213 55 4 = (σ 55 4) from (by rw [f216 4 (by omega)]; exact (by rw [f195 4 (by omega)]; exact (by rw [f83 4 (by omega)]; exact (by rw [f54 4 (by omega)])))))]
    have w232 : ∀ k : Nat, k < 68 → (-200) ≤ (σ213 56 k).toInt ∧ (σ213 56 k).toInt ≤ 500 := (by rw [f215 56 (by omega)]; exact (by rw [f194 56 (by omega)]; exact w89))
    have w233 : ∀ k : Nat, k < 40 → 0 ≤ (σ213 57 k).toInt ∧ (σ213 57 k).toInt ≤ 67 := (by rw [f215 57 (by omega)]; exact (by rw [f194 57 (by omega)]; exact w90))
    have w234 : ∀ k : Nat, k < 40 → (-200) ≤ (σ213 58 k).toInt ∧ (σ213 58 k).toInt ≤ 500 := (by rw [f215 58 (by omega)]; exact (by rw [f194 58 (by omega)]; exact w91))
    have w235 : ∀ k : Nat, k < 40 → (-200) ≤ (σ213 59 k).toInt ∧ (σ213 59 k).toInt ≤ 500 := (by rw [f215 59 (by omega)]; exact (by rw [f194 59 (by omega)]; exact w92))
    have I236 : jI101 σ213 := ⟨(by omega), (by omega), (by omega), w232, w233, w234, w235⟩
    have z237 : (σ213 55 6).toInt = (σ 55 6).toInt := by rw [(show σ213 55 6 = (σ 55 6) from (by rw [f216 6 (by omega)]; exact (by rw [f195 6 (by omega)]; exact (by rw [f83 6 (by omega)]; exact (by rw [f54 6 (by omega)])))))]
    have w238 : ∀ k : Nat, k < 4 → 0 ≤ (σ213 60 k).toInt ∧ (σ213 60 k).toInt ≤ 50 := (by rw [f215 60 (by omega)]; exact (by rw [f194 60 (by omega)]; exact w95))
    have w239 : ∀ k : Nat, k < 4 → 0 ≤ (σ213 61 k).toInt ∧ (σ213 61 k).toInt ≤ 20 := (by rw [f215 61 (by omega)]; exact (by rw [f194 61 (by omega)]; exact w96))
    have I240 : jI102 σ213 := ⟨(by omega), w238, w239⟩
    have z241 : (σ213 55 9).toInt = (σ 55 9).toInt := by rw [(show σ213 55 9 = (σ 55 9) from (by rw [f216 9 (by omega)]; exact (by rw [f195 9 (by omega)]; exact (by rw [f83 9 (by omega)]; exact (by rw [f54 9 (by omega)])))))]
    have I242 : jI103 σ213 := (show 0 ≤ (σ213 55 9).toInt ∧ (σ213 55 9).toInt ≤ 3 by omega)
    have z243 : (σ213 55 10).toInt = (σ 55 10).toInt := by rw [(show σ213 55 10 = (σ 55 10) from (by rw [f216 10 (by omega)]; exact (by rw [f195 10 (by omega)]; exact (by rw [f83 10 (by omega)]; exact (by rw [f54 10 (by omega)])))))]
    have z244 : (σ213 55 12).toInt = (σ 55 12).toInt := by rw [(show σ213 55 12 = (σ 55 12) from (by rw [f216 12 (by omega)]; exact (by rw [f195 12 (by omega)]; exact (by rw [f83 12 (by omega)]; exact (by rw [f54 12 (by omega)])))))]
    have z245 : (σ213 55 13).toInt = (σ 55 13).toInt := by rw [(show σ213 55 13 = (σ 55 13) from (by rw [f216 13 (by omega)]; exact (by rw [f195 13 (by omega)]; exact (by rw [f83 13 (by omega)]; exact (by rw [f54 13 (by omega)])))))]
    have w246 : ∀ k : Nat, k < 8 → 0 ≤ (σ213 62 k).toInt ∧ (σ213 62 k).toInt ≤ 3 := (by rw [f215 62 (by omega)]; exact (by rw [f194 62 (by omega)]; exact (by rw [f82 62 (by omega)]; exact w60)))
    have w247 : ∀ k : Nat, k < 8 → 0 ≤ (σ213 67 k).toInt ∧ (σ213 67 k).toInt ≤ 3 := (by rw [f215 67 (by omega)]; exact (by rw [f194 67 (by omega)]; exact (by rw [f82 67 (by omega)]; exact (by rw [f53 67 (by omega)]; exact w16))))
    have I248 : jI104 σ213 := ⟨(by omega), (by omega), (by omega), w246, w247⟩
    have z249 : (σ213 55 15).toInt = (σ 55 15).toInt := by rw [(show σ213 55 15 = (σ 55 15) from (by rw [f216 15 (by omega)]; exact (by rw [f195 15 (by omega)]; exact (by rw [f83 15 (by omega)]; exact (by rw [f54 15 (by omega)])))))]
    have w250 : ∀ k : Nat, k < 2 → (-1) ≤ (σ213 65 k).toInt ∧ (σ213 65 k).toInt ≤ 80 := (by rw [f215 65 (by omega)]; exact (by rw [f194 65 (by omega)]; exact (by rw [f82 65 (by omega)]; exact w77)))
    have I251 : jI105 σ213 := ⟨(by omega), w250⟩
    have z252 : (σ213 55 32).toInt = (σ 55 32).toInt := by rw [(show σ213 55 32 = (σ 55 32) from (by rw [f216 32 (by omega)]; exact (by rw [f195 32 (by omega)]; exact (by rw [f83 32 (by omega)]; exact (by rw [f54 32 (by omega)])))))]
    have w253 : ∀ k : Nat, k < 20 → 0 ≤ (σ213 70 k).toInt ∧ (σ213 70 k).toInt ≤ 6 := (by rw [f215 70 (by omega)]; exact (by rw [f194 70 (by omega)]; exact (by rw [f82 70 (by omega)]; exact (by rw [f53 70 (by omega)]; exact w20))))
    have w254 : ∀ k : Nat, k < 20 → 0 ≤ (σ213 71 k).toInt ∧ (σ213 71 k).toInt ≤ 8 := (by rw [f215 71 (by omega)]; exact (by rw [f194 71 (by omega)]; exact (by rw [f82 71 (by omega)]; exact (by rw [f53 71 (by omega)]; exact w21))))
    have w255 : ∀ k : Nat, k < 160 → 0 ≤ (σ213 72 k).toInt ∧ (σ213 72 k).toInt ≤ 3 := (by rw [f215 72 (by omega)]; exact (by rw [f194 72 (by omega)]; exact (by rw [f82 72 (by omega)]; exact (by rw [f53 72 (by omega)]; exact w22))))
    have I256 : jI106 σ213 := ⟨(by omega), w253, w254, w255⟩
    have I257 : jI120 σ213 := ⟨(by omega), (by omega), (by omega), (by omega), (by omega), w217⟩
    have p258 : jKept σ213 := jKept.fr (by rw [f215 75 (by omega)]) (by rw [f215 76 (by omega)]) (by rw [f215 77 (by omega)]) p184
    refine jcallV (As := [.int a1]) (rest := []) ⟨hx, hb, hml, hown, hts⟩ hK hP hA hS hZ (c_X12_meanFrom_5 l D cI cL ad zz hJ σ213 τ a1 (A1) t1 I236 I240 I242 I248 I251 I256 I257 p258 (by omega) (by omega)) cw_RX12_324 (jc_55 cI cL ad σ213 τ) rfl ⟨Nat.le_of_ble_eq_true rfl, Nat.le_of_ble_eq_true rfl⟩ rfl rfl rfl hl.1 rfl (Nat.le_of_ble_eq_true rfl) dX12_meanFrom_78 ⟨Nat.zero_le _, Nat.zero_le _⟩ (fun r260 σ259 τ259 H locs h259 hP hS => ?_)
    obtain ⟨rfl, f261, f262, p263, h259⟩ := h259
    refine lv_istore (lv' := [(8, .int r260), (6, .int r214), (7, .int r162), (5, .int x107), (4, .int r81), (3, .int x62), (2, .int r52), (0, .ref (ad 55)), (1, .int a1)]) hx hb dX12_meanFrom_81 hl (by decide) rfl (fun ls hl => ?_)
    refine lv_aload_n hx hb dX12_meanFrom_83 rfl (lv_at hl 7 rfl) ?_
    refine lv_iload_n hx hb dX12_meanFrom_84 rfl (lv_at hl 6 rfl) ?_
    refine lv_iconst (v := 0) hx hb dX12_meanFrom_85 (by decide) ?_
    refine lv_iload hx hb dX12_meanFrom_86 (lv_at hl 1 rfl) ?_
    have w264 : ∀ k : Nat, k < 4 → 0 ≤ (σ259 68 k).toInt ∧ (σ259 68 k).toInt ≤ 3 := (by rw [f261 68 (by omega)]; exact w217)
    have z265 : (σ259 55 25).toInt = (σ213 55 25).toInt := by rw [(show σ259 55 25 = (σ213 55 25) from (by rw [f262 25 (by omega)]))]
    have z266 : (σ259 55 26).toInt = (σ213 55 26).toInt := by rw [(show σ259 55 26 = (σ213 55 26) from (by rw [f262 26 (by omega)]))]
    have z267 : (σ259 55 6).toInt = (σ 55 6).toInt := by rw [(show σ259 55 6 = (σ 55 6) from (by rw [f262 6 (by omega)]; exact (by rw [f216 6 (by omega)]; exact (by rw [f195 6 (by omega)]; exact (by rw [f83 6 (by omega)]; exact (by rw [f54 6 (by omega)]))))))]
    have w268 : ∀ k : Nat, k < 4 → 0 ≤ (σ173 68 k).toInt ∧ (σ173 68 k).toInt ≤ 3 := w204
    have z270 : (σ173 55 27).toInt = (σ 55 27).toInt := by rw [(show σ173 55 27 = (σ 55 27) from (by rw [f195 27 (by omega)]; exact (by rw [f83 27 (by omega)]; exact (by rw [f54 27 (by omega)]))))]
    have k269 := jwas (by omega) (w268 0 (by decide)) (w268 1 (by decide)) (w268 2 (by decide)) (w268 3 (by decide)) k224
    rw [← (show σ259 55 6 = σ173 55 6 from (by rw [f262 6 (by omega), f216 6 (by omega)]))] at k269
    refine jcallVv (As := [.int r52, .int 0, .int r214]) (rest := []) ⟨hx, hb, hml, hown, hts⟩ hK hP hA hS hZ (c_X12_goesBack_0 l D cI cL ad zz hJ σ259 τ r52 (r52.toInt) rfl r214 (r214.toInt) rfl w264 (by omega) (by omega) (by omega) k269) cw_RX12_300 (jc_55 cI cL ad σ259 τ) rfl ⟨Nat.le_of_ble_eq_true rfl, Nat.le_of_ble_eq_true rfl⟩ rfl rfl rfl hl.1 rfl (Nat.le_of_ble_eq_true rfl) dX12_meanFrom_88 ⟨Nat.zero_le _, Nat.zero_le _⟩ (fun σ271 τ271 H locs h271 hP hS => ?_)
    obtain ⟨rfl, f273, f274, w275, w276, w277, h271⟩ := h271
    obtain ⟨k278, k279, k280, k281, h271⟩ := h271
    have p282 : jKept σ271 := jKept.fr (by rw [f273 75 (by omega)]) (by rw [f273 76 (by omega)]) (by rw [f273 77 (by omega)]) p263
    have e283 : σ259 69 = σ213 69 := (by rw [f261 69 (by omega)])
    have e284 : σ271 69 = σ173 69 := jback69 w218 e283 w276
    have e285 : σ259 68 = σ213 68 := (by rw [f261 68 (by omega)])
    have e286 : σ259 55 6 = σ173 55 6 := (by rw [f262 6 (by omega), f216 6 (by omega)])
    have w294 : ∀ k : Nat, k < 4 → 0 ≤ (σ173 68 k).toInt ∧ (σ173 68 k).toInt ≤ 3 := w204
    have w295 : ∀ k : Nat, k < 4 → 0 ≤ (σ271 68 k).toInt ∧ (σ271 68 k).toInt ≤ 3 := w275
    have k296 := k281
    rw [e286] at k296
    have D287 := jdig (w294 0 (by decide)) (w294 1 (by decide)) (w294 2 (by decide)) (w294 3 (by decide)) (w295 0 (by decide)) (w295 1 (by decide)) (w295 2 (by decide)) (w295 3 (by decide)) k224 k296
    have e288 : σ271 55 27 = σ173 55 27 := Int32.toInt_inj.mp (by have h9 := D287.1; omega)
    have z297 : (σ259 55 26).toInt = (σ213 55 26).toInt := by rw [(show σ259 55 26 = (σ213 55 26) from (by rw [f262 26 (by omega)]))]
    have z298 : (σ173 55 26).toInt = (σ 55 26).toInt := by rw [(show σ173 55 26 = (σ 55 26) from (by rw [f195 26 (by omega)]; exact (by rw [f83 26 (by omega)]; exact (by rw [f54 26 (by omega)]))))]
    have z299 : (σ259 55 25).toInt = (σ213 55 25).toInt := by rw [(show σ259 55 25 = (σ213 55 25) from (by rw [f262 25 (by omega)]))]
    have z300 : (σ173 55 25).toInt = (σ 55 25).toInt := by rw [(show σ173 55 25 = (σ 55 25) from (by rw [f195 25 (by omega)]; exact (by rw [f83 25 (by omega)]; exact (by rw [f54 25 (by omega)]))))]
    have e289 : σ271 55 26 = σ173 55 26 := Int32.toInt_inj.mp (by omega)
    have e290 : σ271 55 25 = σ173 55 25 := Int32.toInt_inj.mp (by omega)
    have z301 : (σ173 55 6).toInt = (σ 55 6).toInt := by rw [(show σ173 55 6 = (σ 55 6) from (by rw [f195 6 (by omega)]; exact (by rw [f83 6 (by omega)]; exact (by rw [f54 6 (by omega)]))))]
    have e291 : σ271 68 = σ173 68 := jback68 (nb := (σ173 55 6).toInt) (by omega) w219 e285 (fun k hk => w277 k (by rw [e286]; exact hk)) D287.2
    have f292 : (∀ i : Nat, (i < 55 ∨ 55 < i) ∧ (i < 66 ∨ 66 < i) ∧ (i < 74 ∨ 78 < i) → σ271 i = σ173 i) := fun i hi => by
      by_cases h8 : i = 68
      · rw [h8]; exact e291
      by_cases h9 : i = 69
      · rw [h9]; exact e284
      rw [f273 i (by omega), f261 i (by omega), f215 i (by omega)]
    have f293 : ∀ k : Nat, (k < 18 ∨ 18 < k) ∧ (k < 19 ∨ 19 < k) ∧ (k < 20 ∨ 20 < k) ∧ (k < 21 ∨ 21 < k) ∧ (k < 22 ∨ 22 < k) ∧ (k < 37 ∨ 37 < k) → σ271 55 k = σ173 55 k := fun k hk => by
      by_cases h25 : k = 25
      · rw [h25]; exact e290
      by_cases h26 : k = 26
      · rw [h26]; exact e289
      by_cases h27 : k = 27
      · rw [h27]; exact e288
      rw [f274 k (by omega), f262 k (by omega), f216 k (by omega)]
    clear k296 k281 k224
    refine lv_iload hx hb dX12_meanFrom_91 (lv_at hl 3 rfl) ?_
    refine lv_sipush (v := 1000) hx hb dX12_meanFrom_93 (by decide) ?_
    refine lv_aload_n hx hb dX12_meanFrom_96 rfl (lv_at hl 7 rfl) ?_
    refine va_get (D := D) hx hb hts inlX12 hown hK hP 55 (jc_55 cI cL ad σ271 τ) rfl 13 (by decide) (hts _ kw_15_14) (fun _ h9 => h9) rfl dX12_meanFrom_97 ?_
    have m302 : σ271 55 13 = (σ 55 13) := (by rw [f293 13 (by omega)]; exact (by rw [f195 13 (by omega)]; exact (by rw [f83 13 (by omega)]; exact (by rw [f54 13 (by omega)]))))
    refine jtopr m302 ?_
    have g303 := jrg (rfl : (σ 55 13).toInt = (σ 55 13).toInt)
    refine lv_isub hx hb dX12_meanFrom_100 ?_
    refine lv_topi (fun x304 ex304 => ?_)
    have tx304 : x304.toInt = -(σ 55 13).toInt + 1000 := (jsub ex304 jz_1000 rfl (by omega) (by omega)).trans (by omega)
    refine lv_i2l (v := x304.toInt64) hx hb dX12_meanFrom_101 rfl ?_
    refine lv_iload hx hb dX12_meanFrom_102 (lv_at hl 2 rfl) ?_
    refine lv_iload hx hb dX12_meanFrom_104 (lv_at hl 0 rfl) ?_
    refine lv_iload hx hb dX12_meanFrom_106 (lv_at hl 4 rfl) ?_
    refine jcallS (As := [.int r162, .int r260, .int r81]) (rest := [.long x304.toInt64, .int x107]) ⟨hx, hb, hml, hown, hts⟩ hK hP hA hS hZ (c_X12_mixed l D cI cL ad zz hJ σ271 τ r162 (r162.toInt) rfl r260 (r260.toInt) rfl r81 (r81.toInt) rfl) cw_RX12_304 ⟨Nat.le_of_ble_eq_true rfl, Nat.le_of_ble_eq_true rfl⟩ rfl rfl rfl hl.1 rfl (Nat.le_of_ble_eq_true rfl) dX12_meanFrom_108 ⟨Nat.zero_le _, Nat.zero_le _⟩ (fun r306 σ305 τ305 H locs h305 hP hS => ?_)
    obtain ⟨⟨rfl, rfl⟩, h305⟩ := h305
    refine lv_i2l (v := r306.toInt64) hx hb dX12_meanFrom_111 rfl ?_
    refine lv_lmul hx hb dX12_meanFrom_112 ?_
    refine lv_topl (fun lx307 elx307 => ?_)
    refine lv_ldc2 (v := 1000) hx hb hown (hts _ kw_34_19) dX12_meanFrom_113 ?_
    refine lv_ldiv hx hb dX12_meanFrom_116 (by decide) ?_
    refine lv_topl (fun lx308 elx308 => ?_)
    refine lv_l2i hx hb dX12_meanFrom_117 rfl ?_
    refine lv_topi (fun x309 ex309 => ?_)
    have gx309 := jrg (rfl : x309.toInt = x309.toInt)
    have g310 := jrg (rfl : x309.toInt = x309.toInt)
    refine lv_iadd hx hb dX12_meanFrom_118 ?_
    refine lv_topi (fun x311 ex311 => ?_)
    have gx311 := jrg (rfl : x311.toInt = x311.toInt)
    exact hret x311 σ271 τ _ _ _ _ rfl ⟨rfl, (fun i hi => by rw [f292 i (by omega), f194 i (by omega), f82 i (by omega), f53 i (by omega)]), (fun k hk => by rw [f293 k (by omega), f195 k (by omega), f83 k (by omega), f54 k (by omega)]), p282, trivial⟩ hP hS dX12_meanFrom_119
set_option maxHeartbeats 4000000 in
set_option maxRecDepth 100000 in
theorem c_X12_meanFrom_7 (l : Launch) (D : va_G) (cI cL : ClassId) (ad zz : Nat → Nat) (hJ : jD ad) (σ : Nat → Nat → Int32) (τ : Nat → Nat → Int64) (a1 : Int32) (A1 : Int) (t1 : a1.toInt = A1) (hI101 : jI101 σ) (hI102 : jI102 σ) (hI103 : jI103 σ) (hI104 : jI104 σ) (hI105 : jI105 σ) (hI106 : jI106 σ) (hI120 : jI120 σ) (hs_jKept : jKept σ) (hp0 : 0 ≤ A1 ∧ A1 ≤ 19) (hp1 : (σ 55 12).toInt - (σ 55 26).toInt ≤ 7) : jM l yX12_meanFrom cX12_meanFrom 9 (some .int) ({ frames := 69, cells := 0, slots := 0, locals := 1681 }) D cI cL ad zz [.ref (ad 55), .int a1] σ τ (fun r σ' τ' => τ = τ' ∧ (∀ i : Nat, (i < 55 ∨ 55 < i) ∧ (i < 66 ∨ 66 < i) ∧ (i < 74 ∨ 78 < i) → σ' i = σ i) ∧ (∀ k : Nat, (k < 18 ∨ 18 < k) ∧ (k < 19 ∨ 19 < k) ∧ (k < 20 ∨ 20 < k) ∧ (k < 21 ∨ 21 < k) ∧ (k < 22 ∨ 22 < k) ∧ (k < 37 ∨ 37 < k) → σ' 55 k = σ 55 k) ∧ (jKept σ') ∧ True) := by
  refine jM.of hJ (by decide +kernel) (nt := .int) rfl (Nat.le_of_ble_eq_true rfl) ?_
  intro p e s m args below meth c Q ls hC hret hl hP
  obtain ⟨hx, hb, hr, hml, hown, hts, hK, -, hlocks, hZ⟩ := hC
  have hown : s.vm.findClass RX12 = some m.cls := hown
  have hS : va_S (jA ad) s.heap s.heap [] := va_S.rf
  have hA : ∀ q, jA ad q → jA ad q := fun _ h => h
  have hl : lv_has ls 9 [(0, .ref (ad 55)), (1, .int a1)] := hl
  have g1 := jrg t1
  obtain ⟨i1, i2, i3, w4, w5, w6, w7⟩ : (0 ≤ (σ 55 5).toInt) ∧ ((σ 55 5).toInt ≤ (σ 55 4).toInt) ∧ ((σ 55 4).toInt ≤ 40) ∧ (∀ k : Nat, k < 68 → (-200) ≤ (σ 56 k).toInt ∧ (σ 56 k).toInt ≤ 500) ∧ (∀ k : Nat, k < 40 → 0 ≤ (σ 57 k).toInt ∧ (σ 57 k).toInt ≤ 67) ∧ (∀ k : Nat, k < 40 → (-200) ≤ (σ 58 k).toInt ∧ (σ 58 k).toInt ≤ 500) ∧ (∀ k : Nat, k < 40 → (-200) ≤ (σ 59 k).toInt ∧ (σ 59 k).toInt ≤ 500) := id hI101
  obtain ⟨i8, w9, w10⟩ : (0 ≤ (σ 55 6).toInt ∧ (σ 55 6).toInt ≤ 4) ∧ (∀ k : Nat, k < 4 → 0 ≤ (σ 60 k).toInt ∧ (σ 60 k).toInt ≤ 50) ∧ (∀ k : Nat, k < 4 → 0 ≤ (σ 61 k).toInt ∧ (σ 61 k).toInt ≤ 20) := id hI102
  have i11 : 0 ≤ (σ 55 9).toInt ∧ (σ 55 9).toInt ≤ 3 := hI103
  obtain ⟨i12, i13, i14, w15, w16⟩ : (1 ≤ (σ 55 10).toInt ∧ (σ 55 10).toInt ≤ 8) ∧ (1 ≤ (σ 55 12).toInt ∧ (σ 55 12).toInt ≤ 12) ∧ (0 ≤ (σ 55 13).toInt ∧ (σ 55 13).toInt ≤ 999) ∧ (∀ k : Nat, k < 8 → 0 ≤ (σ 62 k).toInt ∧ (σ 62 k).toInt ≤ 3) ∧ (∀ k : Nat, k < 8 → 0 ≤ (σ 67 k).toInt ∧ (σ 67 k).toInt ≤ 3) := id hI104
  obtain ⟨i17, w18⟩ : (0 ≤ (σ 55 15).toInt ∧ (σ 55 15).toInt ≤ 80) ∧ (∀ k : Nat, k < 2 → (-1) ≤ (σ 65 k).toInt ∧ (σ 65 k).toInt ≤ 80) := id hI105
  obtain ⟨i19, w20, w21, w22⟩ : (0 ≤ (σ 55 32).toInt ∧ (σ 55 32).toInt ≤ 20) ∧ (∀ k : Nat, k < 20 → 0 ≤ (σ 70 k).toInt ∧ (σ 70 k).toInt ≤ 6) ∧ (∀ k : Nat, k < 20 → 0 ≤ (σ 71 k).toInt ∧ (σ 71 k).toInt ≤ 8) ∧ (∀ k : Nat, k < 160 → 0 ≤ (σ 72 k).toInt ∧ (σ 72 k).toInt ≤ 3) := id hI106
  obtain ⟨i23, i24, i25, i26, i27, w28⟩ : (0 ≤ (σ 55 25).toInt) ∧ ((σ 55 25).toInt ≤ (σ 55 10).toInt) ∧ (0 ≤ (σ 55 26).toInt) ∧ ((σ 55 26).toInt ≤ (σ 55 12).toInt) ∧ ((-1) ≤ (σ 55 27).toInt ∧ (σ 55 27).toInt ≤ 3) ∧ (∀ k : Nat, k < 4 → 0 ≤ (σ 68 k).toInt ∧ (σ 68 k).toInt ≤ 3) := id hI120
  refine lv_aload_n hx hb dX12_meanFrom_0 rfl (lv_at hl 0 rfl) ?_
  have I29 : jI102 σ := ⟨(by omega), w9, w10⟩
  have I30 : jI104 σ := ⟨(by omega), (by omega), (by omega), w15, w16⟩
  have I31 : jI120 σ := ⟨(by omega), (by omega), (by omega), (by omega), (by omega), w28⟩
  refine jcallV (As := []) (rest := []) ⟨hx, hb, hml, hown, hts⟩ hK hP hA hS hZ (c_X12_isEnded l D cI cL ad zz hJ σ τ I29 I30 I31) cw_RX12_307 (jc_55 cI cL ad σ τ) rfl ⟨Nat.le_of_ble_eq_true rfl, Nat.le_of_ble_eq_true rfl⟩ rfl rfl rfl hl.1 rfl (Nat.le_of_ble_eq_true rfl) dX12_meanFrom_1 ⟨Nat.zero_le _, Nat.zero_le _⟩ (fun r33 σ32 τ32 H locs h32 hP hS => ?_)
  obtain ⟨⟨rfl, rfl⟩, h32⟩ := h32
  rcases h32 with h34 | h35
  · obtain ⟨q37, k36⟩ := h34
    have q37 := q37.symm
    subst q37
    refine lv_if_eq (tgt := 9) hx hb dX12_meanFrom_4 (by decide) (fun c => absurd c (by decide)) (fun _ => ?_)
    refine lv_iconst (v := 0) hx hb dX12_meanFrom_7 (by decide) ?_
    exact hret 0 σ τ _ _ _ _ rfl ⟨rfl, (fun _ _ => rfl), (fun _ _ => rfl), hs_jKept, trivial⟩ hP hS dX12_meanFrom_8
  · obtain ⟨q41, k38, k39, k40⟩ := h35
    have q41 := q41.symm
    subst q41
    obtain ⟨B42, k43, k44, w45⟩ := k40
    refine lv_if_eq (tgt := 9) hx hb dX12_meanFrom_4 (by decide) (fun _ => ?_) (fun c => absurd (by decide) c)
    refine lv_aload_n hx hb dX12_meanFrom_9 rfl (lv_at hl 0 rfl) ?_
    refine lv_iload_n hx hb dX12_meanFrom_10 rfl (lv_at hl 1 rfl) ?_
    have p46 : jmb σ B42 = 1 := (jmb_fr rfl rfl rfl rfl rfl B42).trans w45
    have I47 : jI101 σ := ⟨(by omega), (by omega), (by omega), w4, w5, w6, w7⟩
    have I48 : jI103 σ := (show 0 ≤ (σ 55 9).toInt ∧ (σ 55 9).toInt ≤ 3 by omega)
    have I49 : jI105 σ := ⟨(by omega), w18⟩
    have I50 : jI106 σ := ⟨(by omega), w20, w21, w22⟩
    refine jcallV (As := [.int a1]) (rest := []) ⟨hx, hb, hml, hown, hts⟩ hK hP hA hS hZ (c_X12_putsOn l D cI cL ad zz hJ σ τ B42 p46 a1 (A1) t1 I47 I29 I48 I30 I49 I50 I31 hs_jKept (by omega) (by omega) (by omega) (by omega) (by omega)) cw_RX12_321 (jc_55 cI cL ad σ τ) rfl ⟨Nat.le_of_ble_eq_true rfl, Nat.le_of_ble_eq_true rfl⟩ rfl rfl rfl hl.1 rfl (Nat.le_of_ble_eq_true rfl) dX12_meanFrom_11 ⟨Nat.zero_le _, Nat.zero_le _⟩ (fun r52 σ51 τ51 H locs h51 hP hS => ?_)
    obtain ⟨rfl, f53, f54, p55, h51⟩ := h51
    have h56 := h51
    obtain ⟨q58, k57⟩ := h56
    refine lv_istore_n (lv' := [(2, .int r52), (0, .ref (ad 55)), (1, .int a1)]) hx hb dX12_meanFrom_14 rfl hl (by decide) rfl (fun ls hl => ?_)
    refine lv_aload_n hx hb dX12_meanFrom_15 rfl (lv_at hl 1 rfl) ?_
    refine va_get (D := D) hx hb hts inlX12 hown hK hP 55 (jc_55 cI cL ad σ51 τ) rfl 11 (by decide) (hts _ kw_7_8) (fun _ h9 => h9) rfl dX12_meanFrom_16 ?_
    refine lv_aload_n hx hb dX12_meanFrom_19 rfl (lv_at hl 1 rfl) ?_
    refine va_get (D := D) hx hb hts inlX12 hown hK hP 55 (jc_55 cI cL ad σ51 τ) rfl 25 (by decide) (hts _ kw_23_6) (fun _ h9 => h9) rfl dX12_meanFrom_20 ?_
    have m59 : σ51 55 25 = (σ 55 25) := (by rw [f54 25 (by omega)])
    refine jtopr m59 ?_
    refine jald hx hb hK hP (jc_62 cI cL ad σ51 τ) (jin rfl (by omega) (by omega)) dX12_meanFrom_23 ?_
    have w60 : ∀ k : Nat, k < 8 → 0 ≤ (σ51 62 k).toInt ∧ (σ51 62 k).toInt ≤ 3 := (by rw [f53 62 (by omega)]; exact w15)
    have g61 := w60 _ (jnat (x := (σ 55 25)) rfl (n := 8) (by omega) (by decide))
    refine lv_topi (fun x62 ex62 => ?_)
    rw [← ex62] at g61
    refine lv_istore_n (lv' := [(3, .int x62), (2, .int r52), (0, .ref (ad 55)), (1, .int a1)]) hx hb dX12_meanFrom_24 rfl hl (by decide) rfl (fun ls hl => ?_)
    refine lv_aload_n hx hb dX12_meanFrom_25 rfl (lv_at hl 2 rfl) ?_
    refine lv_iload_n hx hb dX12_meanFrom_26 rfl (lv_at hl 1 rfl) ?_
    refine lv_iload_n hx hb dX12_meanFrom_27 rfl (lv_at hl 0 rfl) ?_
    have z63 : (σ51 55 5).toInt = (σ 55 5).toInt := by rw [(show σ51 55 5 = (σ 55 5) from (by rw [f54 5 (by omega)]))]
    have z64 : (σ51 55 4).toInt = (σ 55 4).toInt := by rw [(show σ51 55 4 = (σ 55 4) from (by rw [f54 4 (by omega)]))]
    have w65 : ∀ k : Nat, k < 68 → (-200) ≤ (σ51 56 k).toInt ∧ (σ51 56 k).toInt ≤ 500 := (by rw [f53 56 (by omega)]; exact w4)
    have w66 : ∀ k : Nat, k < 40 → 0 ≤ (σ51 57 k).toInt ∧ (σ51 57 k).toInt ≤ 67 := (by rw [f53 57 (by omega)]; exact w5)
    have w67 : ∀ k : Nat, k < 40 → (-200) ≤ (σ51 58 k).toInt ∧ (σ51 58 k).toInt ≤ 500 := (by rw [f53 58 (by omega)]; exact w6)
    have w68 : ∀ k : Nat, k < 40 → (-200) ≤ (σ51 59 k).toInt ∧ (σ51 59 k).toInt ≤ 500 := (by rw [f53 59 (by omega)]; exact w7)
    have I69 : jI101 σ51 := ⟨(by omega), (by omega), (by omega), w65, w66, w67, w68⟩
    have z70 : (σ51 55 6).toInt = (σ 55 6).toInt := by rw [(show σ51 55 6 = (σ 55 6) from (by rw [f54 6 (by omega)]))]
    have w71 : ∀ k : Nat, k < 4 → 0 ≤ (σ51 60 k).toInt ∧ (σ51 60 k).toInt ≤ 50 := (by rw [f53 60 (by omega)]; exact w9)
    have w72 : ∀ k : Nat, k < 4 → 0 ≤ (σ51 61 k).toInt ∧ (σ51 61 k).toInt ≤ 20 := (by rw [f53 61 (by omega)]; exact w10)
    have I73 : jI102 σ51 := ⟨(by omega), w71, w72⟩
    have z74 : (σ51 55 9).toInt = (σ 55 9).toInt := by rw [(show σ51 55 9 = (σ 55 9) from (by rw [f54 9 (by omega)]))]
    have I75 : jI103 σ51 := (show 0 ≤ (σ51 55 9).toInt ∧ (σ51 55 9).toInt ≤ 3 by omega)
    have z76 : (σ51 55 15).toInt = (σ 55 15).toInt := by rw [(show σ51 55 15 = (σ 55 15) from (by rw [f54 15 (by omega)]))]
    have w77 : ∀ k : Nat, k < 2 → (-1) ≤ (σ51 65 k).toInt ∧ (σ51 65 k).toInt ≤ 80 := (by rw [f53 65 (by omega)]; exact w18)
    have I78 : jI105 σ51 := ⟨(by omega), w77⟩
    have w79 : ∀ k : Nat, k < 4 → 0 ≤ (σ51 68 k).toInt ∧ (σ51 68 k).toInt ≤ 3 := (by rw [f53 68 (by omega)]; exact w28)
    refine jcallV (As := [.int r52, .int x62]) (rest := []) ⟨hx, hb, hml, hown, hts⟩ hK hP hA hS hZ (c_X12_outBy l D cI cL ad zz hJ σ51 τ r52 (r52.toInt) rfl x62 (x62.toInt) rfl I69 I73 I75 I78 w79 (by omega) (by omega)) cw_RX12_259 (jc_55 cI cL ad σ51 τ) rfl ⟨Nat.le_of_ble_eq_true rfl, Nat.le_of_ble_eq_true rfl⟩ rfl rfl rfl hl.1 rfl (Nat.le_of_ble_eq_true rfl) dX12_meanFrom_28 ⟨Nat.zero_le _, Nat.zero_le _⟩ (fun r81 σ80 τ80 H locs h80 hP hS => ?_)
    obtain ⟨rfl, f82, f83, h80⟩ := h80
    have h84 := h80
    obtain ⟨q86, k85⟩ := h84
    refine lv_istore (lv' := [(4, .int r81), (3, .int x62), (2, .int r52), (0, .ref (ad 55)), (1, .int a1)]) hx hb dX12_meanFrom_31 hl (by decide) rfl (fun ls hl => ?_)
    refine lv_sipush (v := 1000) hx hb dX12_meanFrom_33 (by decide) ?_
    refine lv_aload_n hx hb dX12_meanFrom_36 rfl (lv_at hl 3 rfl) ?_
    refine lv_iload_n hx hb dX12_meanFrom_37 rfl (lv_at hl 2 rfl) ?_
    refine lv_iload_n hx hb dX12_meanFrom_38 rfl (lv_at hl 1 rfl) ?_
    have z87 : (σ80 55 5).toInt = (σ 55 5).toInt := by rw [(show σ80 55 5 = (σ 55 5) from (by rw [f83 5 (by omega)]; exact (by rw [f54 5 (by omega)])))]
    have z88 : (σ80 55 4).toInt = (σ 55 4).toInt := by rw [(show σ80 55 4 = (σ 55 4) from (by rw [f83 4 (by omega)]; exact (by rw [f54 4 (by omega)])))]
    have w89 : ∀ k : Nat, k < 68 → (-200) ≤ (σ80 56 k).toInt ∧ (σ80 56 k).toInt ≤ 500 := (by rw [f82 56 (by omega)]; exact w65)
    have w90 : ∀ k : Nat, k < 40 → 0 ≤ (σ80 57 k).toInt ∧ (σ80 57 k).toInt ≤ 67 := (by rw [f82 57 (by omega)]; exact w66)
    have w91 : ∀ k : Nat, k < 40 → (-200) ≤ (σ80 58 k).toInt ∧ (σ80 58 k).toInt ≤ 500 := (by rw [f82 58 (by omega)]; exact w67)
    have w92 : ∀ k : Nat, k < 40 → (-200) ≤ (σ80 59 k).toInt ∧ (σ80 59 k).toInt ≤ 500 := (by rw [f82 59 (by omega)]; exact w68)
    have I93 : jI101 σ80 := ⟨(by omega), (by omega), (by omega), w89, w90, w91, w92⟩
    have z94 : (σ80 55 6).toInt = (σ 55 6).toInt := by rw [(show σ80 55 6 = (σ 55 6) from (by rw [f83 6 (by omega)]; exact (by rw [f54 6 (by omega)])))]
    have w95 : ∀ k : Nat, k < 4 → 0 ≤ (σ80 60 k).toInt ∧ (σ80 60 k).toInt ≤ 50 := (by rw [f82 60 (by omega)]; exact w71)
    have w96 : ∀ k : Nat, k < 4 → 0 ≤ (σ80 61 k).toInt ∧ (σ80 61 k).toInt ≤ 20 := (by rw [f82 61 (by omega)]; exact w72)
    have I97 : jI102 σ80 := ⟨(by omega), w95, w96⟩
    have z98 : (σ80 55 9).toInt = (σ 55 9).toInt := by rw [(show σ80 55 9 = (σ 55 9) from (by rw [f83 9 (by omega)]; exact (by rw [f54 9 (by omega)])))]
    have I99 : jI103 σ80 := (show 0 ≤ (σ80 55 9).toInt ∧ (σ80 55 9).toInt ≤ 3 by omega)
    have w100 : ∀ k : Nat, k < 4 → 0 ≤ (σ80 68 k).toInt ∧ (σ80 68 k).toInt ≤ 3 := (by rw [f82 68 (by omega)]; exact w79)
    refine jcallV (As := [.int r52, .int x62]) (rest := [.int 1000]) ⟨hx, hb, hml, hown, hts⟩ hK hP hA hS hZ (c_X12_runsBy l D cI cL ad zz hJ σ80 τ r52 (r52.toInt) rfl x62 (x62.toInt) rfl I93 I97 I99 w100 (by omega) (by omega)) cw_RX12_262 (jc_55 cI cL ad σ80 τ) rfl ⟨Nat.le_of_ble_eq_true rfl, Nat.le_of_ble_eq_true rfl⟩ rfl rfl rfl hl.1 rfl (Nat.le_of_ble_eq_true rfl) dX12_meanFrom_39 ⟨Nat.zero_le _, Nat.zero_le _⟩ (fun r102 σ101 τ101 H locs h101 hP hS => ?_)
    obtain ⟨⟨rfl, rfl⟩, h101⟩ := h101
    have h103 := h101
    obtain ⟨q105, k104⟩ := h103
    have g106 := jrg (rfl : r102.toInt = r102.toInt)
    refine lv_imul hx hb dX12_meanFrom_42 ?_
    refine lv_topi (fun x107 ex107 => ?_)
    have tx107 : x107.toInt = 1000 * r102.toInt := (jmul ex107 jz_1000 rfl (by omega) (by omega)).trans (by omega)
    refine lv_istore (lv' := [(5, .int x107), (4, .int r81), (3, .int x62), (2, .int r52), (0, .ref (ad 55)), (1, .int a1)]) hx hb dX12_meanFrom_43 hl (by decide) rfl (fun ls hl => ?_)
    refine lv_aload_n hx hb dX12_meanFrom_45 rfl (lv_at hl 4 rfl) ?_
    refine lv_iload_n hx hb dX12_meanFrom_46 rfl (lv_at hl 3 rfl) ?_
    refine lv_iconst (v := 1) hx hb dX12_meanFrom_47 (by decide) ?_
    have z108 : (σ80 55 27).toInt = (σ 55 27).toInt := by rw [(show σ80 55 27 = (σ 55 27) from (by rw [f83 27 (by omega)]; exact (by rw [f54 27 (by omega)])))]
    have z109 : (σ80 55 25).toInt = (σ 55 25).toInt := by rw [(show σ80 55 25 = (σ 55 25) from (by rw [f83 25 (by omega)]; exact m59))]
    have z110 : (σ80 55 26).toInt = (σ 55 26).toInt := by rw [(show σ80 55 26 = (σ 55 26) from (by rw [f83 26 (by omega)]; exact (by rw [f54 26 (by omega)])))]
    have z111 : (σ80 68 0).toInt = (σ 68 0).toInt := by rw [(show σ80 68 0 = (σ 68 0) from (by rw [f82 68 (by omega)]; exact (by rw [f53 68 (by omega)])))]
    have z112 : (σ80 68 1).toInt = (σ 68 1).toInt := by rw [(show σ80 68 1 = (σ 68 1) from (by rw [f82 68 (by omega)]; exact (by rw [f53 68 (by omega)])))]
    have z113 : (σ80 68 2).toInt = (σ 68 2).toInt := by rw [(show σ80 68 2 = (σ 68 2) from (by rw [f82 68 (by omega)]; exact (by rw [f53 68 (by omega)])))]
    have z114 : (σ80 68 3).toInt = (σ 68 3).toInt := by rw [(show σ80 68 3 = (σ 68 3) from (by rw [f82 68 (by omega)]; exact (by rw [f53 68 (by omega)])))]
    refine jcallV (As := [.int r52, .int 1]) (rest := []) ⟨hx, hb, hml, hown, hts⟩ hK hP hA hS hZ (c_X12_goes_1 l D cI cL ad zz hJ σ80 τ r52 (r52.toInt) rfl w100 (by omega) (by omega) (by omega) (by omega) (by omega)) cw_RX12_296 (jc_55 cI cL ad σ80 τ) rfl ⟨Nat.le_of_ble_eq_true rfl, Nat.le_of_ble_eq_true rfl⟩ rfl rfl rfl hl.1 rfl (Nat.le_of_ble_eq_true rfl) dX12_meanFrom_48 ⟨Nat.zero_le _, Nat.zero_le _⟩ (fun r116 σ115 τ115 H locs h115 hP hS => ?_)
    obtain ⟨rfl, f117, f118, w119, w120, w121, h115⟩ := h115
    obtain ⟨k122, k123, k124, h115⟩ := h115
    have h125 := h115
    obtain ⟨q131, k126, k127, k128, k129, k130⟩ := h125
    refine lv_istore (lv' := [(6, .int r116), (5, .int x107), (4, .int r81), (3, .int x62), (2, .int r52), (0, .ref (ad 55)), (1, .int a1)]) hx hb dX12_meanFrom_51 hl (by decide) rfl (fun ls hl => ?_)
    refine lv_aload_n hx hb dX12_meanFrom_53 rfl (lv_at hl 5 rfl) ?_
    refine lv_iload_n hx hb dX12_meanFrom_54 rfl (lv_at hl 6 rfl) ?_
    have z132 : (σ115 55 5).toInt = (σ 55 5).toInt := by rw [(show σ115 55 5 = (σ 55 5) from (by rw [f118 5 (by omega)]; exact (by rw [f83 5 (by omega)]; exact (by rw [f54 5 (by omega)]))))]
    have z133 : (σ115 55 4).toInt = (σ 55 4).toInt := by rw [(show σ115 55 4 = (σ 55 4) from (by rw [f118 4 (by omega)]; exact (by rw [f83 4 (by omega)]; exact (by rw [f54 4 (by omega)]))))]
    have w134 : ∀ k : Nat, k < 68 → (-200) ≤ (σ115 56 k).toInt ∧ (σ115 56 k).toInt ≤ 500 := (by rw [f117 56 (by omega)]; exact w89)
    have w135 : ∀ k : Nat, k < 40 → 0 ≤ (σ115 57 k).toInt ∧ (σ115 57 k).toInt ≤ 67 := (by rw [f117 57 (by omega)]; exact w90)
    have w136 : ∀ k : Nat, k < 40 → (-200) ≤ (σ115 58 k).toInt ∧ (σ115 58 k).toInt ≤ 500 := (by rw [f117 58 (by omega)]; exact w91)
    have w137 : ∀ k : Nat, k < 40 → (-200) ≤ (σ115 59 k).toInt ∧ (σ115 59 k).toInt ≤ 500 := (by rw [f117 59 (by omega)]; exact w92)
    have I138 : jI101 σ115 := ⟨(by omega), (by omega), (by omega), w134, w135, w136, w137⟩
    have z139 : (σ115 55 6).toInt = (σ 55 6).toInt := by rw [(show σ115 55 6 = (σ 55 6) from (by rw [f118 6 (by omega)]; exact (by rw [f83 6 (by omega)]; exact (by rw [f54 6 (by omega)]))))]
    have w140 : ∀ k : Nat, k < 4 → 0 ≤ (σ115 60 k).toInt ∧ (σ115 60 k).toInt ≤ 50 := (by rw [f117 60 (by omega)]; exact w95)
    have w141 : ∀ k : Nat, k < 4 → 0 ≤ (σ115 61 k).toInt ∧ (σ115 61 k).toInt ≤ 20 := (by rw [f117 61 (by omega)]; exact w96)
    have I142 : jI102 σ115 := ⟨(by omega), w140, w141⟩
    have z143 : (σ115 55 9).toInt = (σ 55 9).toInt := by rw [(show σ115 55 9 = (σ 55 9) from (by rw [f118 9 (by omega)]; exact (by rw [f83 9 (by omega)]; exact (by rw [f54 9 (by omega)]))))]
    have I144 : jI103 σ115 := (show 0 ≤ (σ115 55 9).toInt ∧ (σ115 55 9).toInt ≤ 3 by omega)
    have z145 : (σ115 55 10).toInt = (σ 55 10).toInt := by rw [(show σ115 55 10 = (σ 55 10) from (by rw [f118 10 (by omega)]; exact (by rw [f83 10 (by omega)]; exact (by rw [f54 10 (by omega)]))))]
    have z146 : (σ115 55 12).toInt = (σ 55 12).toInt := by rw [(show σ115 55 12 = (σ 55 12) from (by rw [f118 12 (by omega)]; exact (by rw [f83 12 (by omega)]; exact (by rw [f54 12 (by omega)]))))]
    have z147 : (σ115 55 13).toInt = (σ 55 13).toInt := by rw [(show σ115 55 13 = (σ 55 13) from (by rw [f118 13 (by omega)]; exact (by rw [f83 13 (by omega)]; exact (by rw [f54 13 (by omega)]))))]
    have w148 : ∀ k : Nat, k < 8 → 0 ≤ (σ115 62 k).toInt ∧ (σ115 62 k).toInt ≤ 3 := (by rw [f117 62 (by omega)]; exact (by rw [f82 62 (by omega)]; exact w60))
    have w149 : ∀ k : Nat, k < 8 → 0 ≤ (σ115 67 k).toInt ∧ (σ115 67 k).toInt ≤ 3 := (by rw [f117 67 (by omega)]; exact (by rw [f82 67 (by omega)]; exact (by rw [f53 67 (by omega)]; exact w16)))
    have I150 : jI104 σ115 := ⟨(by omega), (by omega), (by omega), w148, w149⟩
    have z151 : (σ115 55 15).toInt = (σ 55 15).toInt := by rw [(show σ115 55 15 = (σ 55 15) from (by rw [f118 15 (by omega)]; exact (by rw [f83 15 (by omega)]; exact (by rw [f54 15 (by omega)]))))]
    have w152 : ∀ k : Nat, k < 2 → (-1) ≤ (σ115 65 k).toInt ∧ (σ115 65 k).toInt ≤ 80 := (by rw [f117 65 (by omega)]; exact (by rw [f82 65 (by omega)]; exact w77))
    have I153 : jI105 σ115 := ⟨(by omega), w152⟩
    have z154 : (σ115 55 32).toInt = (σ 55 32).toInt := by rw [(show σ115 55 32 = (σ 55 32) from (by rw [f118 32 (by omega)]; exact (by rw [f83 32 (by omega)]; exact (by rw [f54 32 (by omega)]))))]
    have w155 : ∀ k : Nat, k < 20 → 0 ≤ (σ115 70 k).toInt ∧ (σ115 70 k).toInt ≤ 6 := (by rw [f117 70 (by omega)]; exact (by rw [f82 70 (by omega)]; exact (by rw [f53 70 (by omega)]; exact w20)))
    have w156 : ∀ k : Nat, k < 20 → 0 ≤ (σ115 71 k).toInt ∧ (σ115 71 k).toInt ≤ 8 := (by rw [f117 71 (by omega)]; exact (by rw [f82 71 (by omega)]; exact (by rw [f53 71 (by omega)]; exact w21)))
    have w157 : ∀ k : Nat, k < 160 → 0 ≤ (σ115 72 k).toInt ∧ (σ115 72 k).toInt ≤ 3 := (by rw [f117 72 (by omega)]; exact (by rw [f82 72 (by omega)]; exact (by rw [f53 72 (by omega)]; exact w22)))
    have I158 : jI106 σ115 := ⟨(by omega), w155, w156, w157⟩
    have I159 : jI120 σ115 := ⟨(by omega), (by omega), (by omega), (by omega), (by omega), w119⟩
    have p160 : jKept σ115 := jKept.fr (by rw [f117 75 (by omega), f82 75 (by omega)]) (by rw [f117 76 (by omega), f82 76 (by omega)]) (by rw [f117 77 (by omega), f82 77 (by omega)]) p55
    refine jcallV (As := [.int a1]) (rest := []) ⟨hx, hb, hml, hown, hts⟩ hK hP hA hS hZ (c_X12_meanFrom_6 l D cI cL ad zz hJ σ115 τ a1 (A1) t1 I138 I142 I144 I150 I153 I158 I159 p160 (by omega) (by omega)) cw_RX12_324 (jc_55 cI cL ad σ115 τ) rfl ⟨Nat.le_of_ble_eq_true rfl, Nat.le_of_ble_eq_true rfl⟩ rfl rfl rfl hl.1 rfl (Nat.le_of_ble_eq_true rfl) dX12_meanFrom_55 ⟨Nat.zero_le _, Nat.zero_le _⟩ (fun r162 σ161 τ161 H locs h161 hP hS => ?_)
    obtain ⟨rfl, f163, f164, p165, h161⟩ := h161
    refine lv_istore (lv' := [(7, .int r162), (6, .int r116), (5, .int x107), (4, .int r81), (3, .int x62), (2, .int r52), (0, .ref (ad 55)), (1, .int a1)]) hx hb dX12_meanFrom_58 hl (by decide) rfl (fun ls hl => ?_)
    refine lv_aload_n hx hb dX12_meanFrom_60 rfl (lv_at hl 6 rfl) ?_
    refine lv_iload_n hx hb dX12_meanFrom_61 rfl (lv_at hl 5 rfl) ?_
    refine lv_iconst (v := 1) hx hb dX12_meanFrom_62 (by decide) ?_
    refine lv_iload hx hb dX12_meanFrom_63 (lv_at hl 1 rfl) ?_
    have w166 : ∀ k : Nat, k < 4 → 0 ≤ (σ161 68 k).toInt ∧ (σ161 68 k).toInt ≤ 3 := (by rw [f163 68 (by omega)]; exact w119)
    have z167 : (σ161 55 25).toInt = (σ115 55 25).toInt := by rw [(show σ161 55 25 = (σ115 55 25) from (by rw [f164 25 (by omega)]))]
    have z168 : (σ161 55 26).toInt = (σ115 55 26).toInt := by rw [(show σ161 55 26 = (σ115 55 26) from (by rw [f164 26 (by omega)]))]
    have z169 : (σ161 55 6).toInt = (σ 55 6).toInt := by rw [(show σ161 55 6 = (σ 55 6) from (by rw [f164 6 (by omega)]; exact (by rw [f118 6 (by omega)]; exact (by rw [f83 6 (by omega)]; exact (by rw [f54 6 (by omega)])))))]
    have w170 : ∀ k : Nat, k < 4 → 0 ≤ (σ80 68 k).toInt ∧ (σ80 68 k).toInt ≤ 3 := w100
    have z172 : (σ80 55 27).toInt = (σ 55 27).toInt := by rw [(show σ80 55 27 = (σ 55 27) from (by rw [f83 27 (by omega)]; exact (by rw [f54 27 (by omega)])))]
    have k171 := jwas (by omega) (w170 0 (by decide)) (w170 1 (by decide)) (w170 2 (by decide)) (w170 3 (by decide)) k126
    rw [← (show σ161 55 6 = σ80 55 6 from (by rw [f164 6 (by omega), f118 6 (by omega)]))] at k171
    refine jcallVv (As := [.int r52, .int 1, .int r116]) (rest := []) ⟨hx, hb, hml, hown, hts⟩ hK hP hA hS hZ (c_X12_goesBack_1 l D cI cL ad zz hJ σ161 τ r52 (r52.toInt) rfl r116 (r116.toInt) rfl w166 (by omega) (by omega) (by omega) k171) cw_RX12_300 (jc_55 cI cL ad σ161 τ) rfl ⟨Nat.le_of_ble_eq_true rfl, Nat.le_of_ble_eq_true rfl⟩ rfl rfl rfl hl.1 rfl (Nat.le_of_ble_eq_true rfl) dX12_meanFrom_65 ⟨Nat.zero_le _, Nat.zero_le _⟩ (fun σ173 τ173 H locs h173 hP hS => ?_)
    obtain ⟨rfl, f175, f176, w177, w178, w179, h173⟩ := h173
    obtain ⟨k180, k181, k182, k183, h173⟩ := h173
    have p184 : jKept σ173 := jKept.fr (by rw [f175 75 (by omega)]) (by rw [f175 76 (by omega)]) (by rw [f175 77 (by omega)]) p165
    have e185 : σ161 69 = σ115 69 := (by rw [f163 69 (by omega)])
    have e186 : σ173 69 = σ80 69 := jback69 w120 e185 w178
    have e187 : σ161 68 = σ115 68 := (by rw [f163 68 (by omega)])
    have e188 : σ161 55 6 = σ80 55 6 := (by rw [f164 6 (by omega), f118 6 (by omega)])
    have w196 : ∀ k : Nat, k < 4 → 0 ≤ (σ80 68 k).toInt ∧ (σ80 68 k).toInt ≤ 3 := w100
    have w197 : ∀ k : Nat, k < 4 → 0 ≤ (σ173 68 k).toInt ∧ (σ173 68 k).toInt ≤ 3 := w177
    have k198 := k183
    rw [e188] at k198
    have D189 := jdig (w196 0 (by decide)) (w196 1 (by decide)) (w196 2 (by decide)) (w196 3 (by decide)) (w197 0 (by decide)) (w197 1 (by decide)) (w197 2 (by decide)) (w197 3 (by decide)) k126 k198
    have e190 : σ173 55 27 = σ80 55 27 := Int32.toInt_inj.mp (by have h9 := D189.1; omega)
    have z199 : (σ161 55 26).toInt = (σ115 55 26).toInt := by rw [(show σ161 55 26 = (σ115 55 26) from (by rw [f164 26 (by omega)]))]
    have z200 : (σ80 55 26).toInt = (σ 55 26).toInt := by rw [(show σ80 55 26 = (σ 55 26) from (by rw [f83 26 (by omega)]; exact (by rw [f54 26 (by omega)])))]
    have z201 : (σ161 55 25).toInt = (σ115 55 25).toInt := by rw [(show σ161 55 25 = (σ115 55 25) from (by rw [f164 25 (by omega)]))]
    have z202 : (σ80 55 25).toInt = (σ 55 25).toInt := by rw [(show σ80 55 25 = (σ 55 25) from (by rw [f83 25 (by omega)]; exact (by rw [f54 25 (by omega)])))]
    have e191 : σ173 55 26 = σ80 55 26 := Int32.toInt_inj.mp (by omega)
    have e192 : σ173 55 25 = σ80 55 25 := Int32.toInt_inj.mp (by omega)
    have z203 : (σ80 55 6).toInt = (σ 55 6).toInt := by rw [(show σ80 55 6 = (σ 55 6) from (by rw [f83 6 (by omega)]; exact (by rw [f54 6 (by omega)])))]
    have e193 : σ173 68 = σ80 68 := jback68 (nb := (σ80 55 6).toInt) (by omega) w121 e187 (fun k hk => w179 k (by rw [e188]; exact hk)) D189.2
    have f194 : (∀ i : Nat, (i < 55 ∨ 55 < i) ∧ (i < 66 ∨ 66 < i) ∧ (i < 74 ∨ 78 < i) → σ173 i = σ80 i) := fun i hi => by
      by_cases h8 : i = 68
      · rw [h8]; exact e193
      by_cases h9 : i = 69
      · rw [h9]; exact e186
      rw [f175 i (by omega), f163 i (by omega), f117 i (by omega)]
    have f195 : ∀ k : Nat, (k < 18 ∨ 18 < k) ∧ (k < 19 ∨ 19 < k) ∧ (k < 20 ∨ 20 < k) ∧ (k < 21 ∨ 21 < k) ∧ (k < 22 ∨ 22 < k) ∧ (k < 37 ∨ 37 < k) → σ173 55 k = σ80 55 k := fun k hk => by
      by_cases h25 : k = 25
      · rw [h25]; exact e192
      by_cases h26 : k = 26
      · rw [h26]; exact e191
      by_cases h27 : k = 27
      · rw [h27]; exact e190
      rw [f176 k (by omega), f164 k (by omega), f118 k (by omega)]
    clear k198 k183 k126
    refine lv_aload_n hx hb dX12_meanFrom_68 rfl (lv_at hl 6 rfl) ?_
    refine lv_iload_n hx hb dX12_meanFrom_69 rfl (lv_at hl 5 rfl) ?_
    refine lv_iconst (v := 0) hx hb dX12_meanFrom_70 (by decide) ?_
    have w204 : ∀ k : Nat, k < 4 → 0 ≤ (σ173 68 k).toInt ∧ (σ173 68 k).toInt ≤ 3 := (by rw [f194 68 (by omega)]; exact w100)
    have z205 : (σ173 55 6).toInt = (σ 55 6).toInt := by rw [(show σ173 55 6 = (σ 55 6) from (by rw [f195 6 (by omega)]; exact (by rw [f83 6 (by omega)]; exact (by rw [f54 6 (by omega)]))))]
    have z206 : (σ173 55 27).toInt = (σ 55 27).toInt := by rw [(show σ173 55 27 = (σ 55 27) from (by rw [f195 27 (by omega)]; exact (by rw [f83 27 (by omega)]; exact (by rw [f54 27 (by omega)]))))]
    have z207 : (σ173 55 25).toInt = (σ 55 25).toInt := by rw [(show σ173 55 25 = (σ 55 25) from (by rw [f195 25 (by omega)]; exact (by rw [f83 25 (by omega)]; exact m59)))]
    have z208 : (σ173 55 26).toInt = (σ 55 26).toInt := by rw [(show σ173 55 26 = (σ 55 26) from (by rw [f195 26 (by omega)]; exact (by rw [f83 26 (by omega)]; exact (by rw [f54 26 (by omega)]))))]
    have z209 : (σ173 68 0).toInt = (σ 68 0).toInt := by rw [(show σ173 68 0 = (σ 68 0) from (by rw [f194 68 (by omega)]; exact (by rw [f82 68 (by omega)]; exact (by rw [f53 68 (by omega)]))))]
    have z210 : (σ173 68 1).toInt = (σ 68 1).toInt := by rw [(show σ173 68 1 = (σ 68 1) from (by rw [f194 68 (by omega)]; exact (by rw [f82 68 (by omega)]; exact (by rw [f53 68 (by omega)]))))]
    have z211 : (σ173 68 2).toInt = (σ 68 2).toInt := by rw [(show σ173 68 2 = (σ 68 2) from (by rw [f194 68 (by omega)]; exact (by rw [f82 68 (by omega)]; exact (by rw [f53 68 (by omega)]))))]
    have z212 : (σ173 68 3).toInt = (σ 68 3).toInt := by rw [(show σ173 68 3 = (σ 68 3) from (by rw [f194 68 (by omega)]; exact (by rw [f82 68 (by omega)]; exact (by rw [f53 68 (by omega)]))))]
    refine jcallV (As := [.int r52, .int 0]) (rest := []) ⟨hx, hb, hml, hown, hts⟩ hK hP hA hS hZ (c_X12_goes_0 l D cI cL ad zz hJ σ173 τ r52 (r52.toInt) rfl w204 (by omega) (by omega) (by omega) (by omega) (by omega)) cw_RX12_296 (jc_55 cI cL ad σ173 τ) rfl ⟨Nat.le_of_ble_eq_true rfl, Nat.le_of_ble_eq_true rfl⟩ rfl rfl rfl hl.1 rfl (Nat.le_of_ble_eq_true rfl) dX12_meanFrom_71 ⟨Nat.zero_le _, Nat.zero_le _⟩ (fun r214 σ213 τ213 H locs h213 hP hS => ?_)
    obtain ⟨rfl, f215, f216, w217, w218, w219, h213⟩ := h213
    obtain ⟨k220, k221, k222, h213⟩ := h213
    have h223 := h213
    obtain ⟨q229, k224, k225, k226, k227, k228⟩ := h223
    refine lv_istore (lv' := [(6, .int r214), (7, .int r162), (5, .int x107), (4, .int r81), (3, .int x62), (2, .int r52), (0, .ref (ad 55)), (1, .int a1)]) hx hb dX12_meanFrom_74 hl (by decide) rfl (fun ls hl => ?_)
    refine lv_aload_n hx hb dX12_meanFrom_76 rfl (lv_at hl 6 rfl) ?_
    refine lv_iload_n hx hb dX12_meanFrom_77 rfl (lv_at hl 7 rfl) ?_
    have z230 : (σ213 55 5).toInt = (σ 55 5).toInt := by rw [(show σ213 55 5 = (σ 55 5) from (by rw [f216 5 (by omega)]; exact (by rw [f195 5 (by omega)]; exact (by rw [f83 5 (by omega)]; exact (by rw [f54 5 (by omega)])))))]
    have z231 : (σ213 55 4).toInt = (σ 55 4).toInt := by rw [(show σ213 55 4 = (σ 55 4) from (by rw [f216 4 (by omega)]; exact (by rw [f195 4 (by omega)]; exact (by rw [f83 4 (by omega)]; exact (by rw [f54 4 (by omega)])))))]
    have w232 : ∀ k : Nat, k < 68 → (-200) ≤ (σ213 56 k).toInt ∧ (σ213 56 k).toInt ≤ 500 := (by rw [f215 56 (by omega)]; exact (by rw [f194 56 (by omega)]; exact w89))
    have w233 : ∀ k : Nat, k < 40 → 0 ≤ (σ213 57 k).toInt ∧ (σ213 57 k).toInt ≤ 67 := (by rw [f215 57 (by omega)]; exact (by rw [f194 57 (by omega)]; exact w90))
    have w234 : ∀ k : Nat, k < 40 → (-200) ≤ (σ213 58 k).toInt ∧ (σ213 58 k).toInt ≤ 500 := (by rw [f215 58 (by omega)]; exact (by rw [f194 58 (by omega)]; exact w91))
    have w235 : ∀ k : Nat, k < 40 → (-200) ≤ (σ213 59 k).toInt ∧ (σ213 59 k).toInt ≤ 500 := (by rw [f215 59 (by omega)]; exact (by rw [f194 59 (by omega)]; exact w92))
    have I236 : jI101 σ213 := ⟨(by omega), (by omega), (by omega), w232, w233, w234, w235⟩
    have z237 : (σ213 55 6).toInt = (σ 55 6).toInt := by rw [(show σ213 55 6 = (σ 55 6) from (by rw [f216 6 (by omega)]; exact (by rw [f195 6 (by omega)]; exact (by rw [f83 6 (by omega)]; exact (by rw [f54 6 (by omega)])))))]
    have w238 : ∀ k : Nat, k < 4 → 0 ≤ (σ213 60 k).toInt ∧ (σ213 60 k).toInt ≤ 50 := (by rw [f215 60 (by omega)]; exact (by rw [f194 60 (by omega)]; exact w95))
    have w239 : ∀ k : Nat, k < 4 → 0 ≤ (σ213 61 k).toInt ∧ (σ213 61 k).toInt ≤ 20 := (by rw [f215 61 (by omega)]; exact (by rw [f194 61 (by omega)]; exact w96))
    have I240 : jI102 σ213 := ⟨(by omega), w238, w239⟩
    have z241 : (σ213 55 9).toInt = (σ 55 9).toInt := by rw [(show σ213 55 9 = (σ 55 9) from (by rw [f216 9 (by omega)]; exact (by rw [f195 9 (by omega)]; exact (by rw [f83 9 (by omega)]; exact (by rw [f54 9 (by omega)])))))]
    have I242 : jI103 σ213 := (show 0 ≤ (σ213 55 9).toInt ∧ (σ213 55 9).toInt ≤ 3 by omega)
    have z243 : (σ213 55 10).toInt = (σ 55 10).toInt := by rw [(show σ213 55 10 = (σ 55 10) from (by rw [f216 10 (by omega)]; exact (by rw [f195 10 (by omega)]; exact (by rw [f83 10 (by omega)]; exact (by rw [f54 10 (by omega)])))))]
    have z244 : (σ213 55 12).toInt = (σ 55 12).toInt := by rw [(show σ213 55 12 = (σ 55 12) from (by rw [f216 12 (by omega)]; exact (by rw [f195 12 (by omega)]; exact (by rw [f83 12 (by omega)]; exact (by rw [f54 12 (by omega)])))))]
    have z245 : (σ213 55 13).toInt = (σ 55 13).toInt := by rw [(show σ213 55 13 = (σ 55 13) from (by rw [f216 13 (by omega)]; exact (by rw [f195 13 (by omega)]; exact (by rw [f83 13 (by omega)]; exact (by rw [f54 13 (by omega)])))))]
    have w246 : ∀ k : Nat, k < 8 → 0 ≤ (σ213 62 k).toInt ∧ (σ213 62 k).toInt ≤ 3 := (by rw [f215 62 (by omega)]; exact (by rw [f194 62 (by omega)]; exact (by rw [f82 62 (by omega)]; exact w60)))
    have w247 : ∀ k : Nat, k < 8 → 0 ≤ (σ213 67 k).toInt ∧ (σ213 67 k).toInt ≤ 3 := (by rw [f215 67 (by omega)]; exact (by rw [f194 67 (by omega)]; exact (by rw [f82 67 (by omega)]; exact (by rw [f53 67 (by omega)]; exact w16))))
    have I248 : jI104 σ213 := ⟨(by omega), (by omega), (by omega), w246, w247⟩
    have z249 : (σ213 55 15).toInt = (σ 55 15).toInt := by rw [(show σ213 55 15 = (σ 55 15) from (by rw [f216 15 (by omega)]; exact (by rw [f195 15 (by omega)]; exact (by rw [f83 15 (by omega)]; exact (by rw [f54 15 (by omega)])))))]
    have w250 : ∀ k : Nat, k < 2 → (-1) ≤ (σ213 65 k).toInt ∧ (σ213 65 k).toInt ≤ 80 := (by rw [f215 65 (by omega)]; exact (by rw [f194 65 (by omega)]; exact (by rw [f82 65 (by omega)]; exact w77)))
    have I251 : jI105 σ213 := ⟨(by omega), w250⟩
    have z252 : (σ213 55 32).toInt = (σ 55 32).toInt := by rw [(show σ213 55 32 = (σ 55 32) from (by rw [f216 32 (by omega)]; exact (by rw [f195 32 (by omega)]; exact (by rw [f83 32 (by omega)]; exact (by rw [f54 32 (by omega)])))))]
    have w253 : ∀ k : Nat, k < 20 → 0 ≤ (σ213 70 k).toInt ∧ (σ213 70 k).toInt ≤ 6 := (by rw [f215 70 (by omega)]; exact (by rw [f194 70 (by omega)]; exact (by rw [f82 70 (by omega)]; exact (by rw [f53 70 (by omega)]; exact w20))))
    have w254 : ∀ k : Nat, k < 20 → 0 ≤ (σ213 71 k).toInt ∧ (σ213 71 k).toInt ≤ 8 := (by rw [f215 71 (by omega)]; exact (by rw [f194 71 (by omega)]; exact (by rw [f82 71 (by omega)]; exact (by rw [f53 71 (by omega)]; exact w21))))
    have w255 : ∀ k : Nat, k < 160 → 0 ≤ (σ213 72 k).toInt ∧ (σ213 72 k).toInt ≤ 3 := (by rw [f215 72 (by omega)]; exact (by rw [f194 72 (by omega)]; exact (by rw [f82 72 (by omega)]; exact (by rw [f53 72 (by omega)]; exact w22))))
    have I256 : jI106 σ213 := ⟨(by omega), w253, w254, w255⟩
    have I257 : jI120 σ213 := ⟨(by omega), (by omega), (by omega), (by omega), (by omega), w217⟩
    have p258 : jKept σ213 := jKept.fr (by rw [f215 75 (by omega)]) (by rw [f215 76 (by omega)]) (by rw [f215 77 (by omega)]) p184
    refine jcallV (As := [.int a1]) (rest := []) ⟨hx, hb, hml, hown, hts⟩ hK hP hA hS hZ (c_X12_meanFrom_6 l D cI cL ad zz hJ σ213 τ a1 (A1) t1 I236 I240 I242 I248 I251 I256 I257 p258 (by omega) (by omega)) cw_RX12_324 (jc_55 cI cL ad σ213 τ) rfl ⟨Nat.le_of_ble_eq_true rfl, Nat.le_of_ble_eq_true rfl⟩ rfl rfl rfl hl.1 rfl (Nat.le_of_ble_eq_true rfl) dX12_meanFrom_78 ⟨Nat.zero_le _, Nat.zero_le _⟩ (fun r260 σ259 τ259 H locs h259 hP hS => ?_)
    obtain ⟨rfl, f261, f262, p263, h259⟩ := h259
    refine lv_istore (lv' := [(8, .int r260), (6, .int r214), (7, .int r162), (5, .int x107), (4, .int r81), (3, .int x62), (2, .int r52), (0, .ref (ad 55)), (1, .int a1)]) hx hb dX12_meanFrom_81 hl (by decide) rfl (fun ls hl => ?_)
    refine lv_aload_n hx hb dX12_meanFrom_83 rfl (lv_at hl 7 rfl) ?_
    refine lv_iload_n hx hb dX12_meanFrom_84 rfl (lv_at hl 6 rfl) ?_
    refine lv_iconst (v := 0) hx hb dX12_meanFrom_85 (by decide) ?_
    refine lv_iload hx hb dX12_meanFrom_86 (lv_at hl 1 rfl) ?_
    have w264 : ∀ k : Nat, k < 4 → 0 ≤ (σ259 68 k).toInt ∧ (σ259 68 k).toInt ≤ 3 := (by rw [f261 68 (by omega)]; exact w217)
    have z265 : (σ259 55 25).toInt = (σ213 55 25).toInt := by rw [(show σ259 55 25 = (σ213 55 25) from (by rw [f262 25 (by omega)]))]
    have z266 : (σ259 55 26).toInt = (σ213 55 26).toInt := by rw [(show σ259 55 26 = (σ213 55 26) from (by rw [f262 26 (by omega)]))]
    have z267 : (σ259 55 6).toInt = (σ 55 6).toInt := by rw [(show σ259 55 6 = (σ 55 6) from (by rw [f262 6 (by omega)]; exact (by rw [f216 6 (by omega)]; exact (by rw [f195 6 (by omega)]; exact (by rw [f83 6 (by omega)]; exact (by rw [f54 6 (by omega)]))))))]
    have w268 : ∀ k : Nat, k < 4 → 0 ≤ (σ173 68 k).toInt ∧ (σ173 68 k).toInt ≤ 3 := w204
    have z270 : (σ173 55 27).toInt = (σ 55 27).toInt := by rw [(show σ173 55 27 = (σ 55 27) from (by rw [f195 27 (by omega)]; exact (by rw [f83 27 (by omega)]; exact (by rw [f54 27 (by omega)]))))]
    have k269 := jwas (by omega) (w268 0 (by decide)) (w268 1 (by decide)) (w268 2 (by decide)) (w268 3 (by decide)) k224
    rw [← (show σ259 55 6 = σ173 55 6 from (by rw [f262 6 (by omega), f216 6 (by omega)]))] at k269
    refine jcallVv (As := [.int r52, .int 0, .int r214]) (rest := []) ⟨hx, hb, hml, hown, hts⟩ hK hP hA hS hZ (c_X12_goesBack_0 l D cI cL ad zz hJ σ259 τ r52 (r52.toInt) rfl r214 (r214.toInt) rfl w264 (by omega) (by omega) (by omega) k269) cw_RX12_300 (jc_55 cI cL ad σ259 τ) rfl ⟨Nat.le_of_ble_eq_true rfl, Nat.le_of_ble_eq_true rfl⟩ rfl rfl rfl hl.1 rfl (Nat.le_of_ble_eq_true rfl) dX12_meanFrom_88 ⟨Nat.zero_le _, Nat.zero_le _⟩ (fun σ271 τ271 H locs h271 hP hS => ?_)
    obtain ⟨rfl, f273, f274, w275, w276, w277, h271⟩ := h271
    obtain ⟨k278, k279, k280, k281, h271⟩ := h271
    have p282 : jKept σ271 := jKept.fr (by rw [f273 75 (by omega)]) (by rw [f273 76 (by omega)]) (by rw [f273 77 (by omega)]) p263
    have e283 : σ259 69 = σ213 69 := (by rw [f261 69 (by omega)])
    have e284 : σ271 69 = σ173 69 := jback69 w218 e283 w276
    have e285 : σ259 68 = σ213 68 := (by rw [f261 68 (by omega)])
    have e286 : σ259 55 6 = σ173 55 6 := (by rw [f262 6 (by omega), f216 6 (by omega)])
    have w294 : ∀ k : Nat, k < 4 → 0 ≤ (σ173 68 k).toInt ∧ (σ173 68 k).toInt ≤ 3 := w204
    have w295 : ∀ k : Nat, k < 4 → 0 ≤ (σ271 68 k).toInt ∧ (σ271 68 k).toInt ≤ 3 := w275
    have k296 := k281
    rw [e286] at k296
    have D287 := jdig (w294 0 (by decide)) (w294 1 (by decide)) (w294 2 (by decide)) (w294 3 (by decide)) (w295 0 (by decide)) (w295 1 (by decide)) (w295 2 (by decide)) (w295 3 (by decide)) k224 k296
    have e288 : σ271 55 27 = σ173 55 27 := Int32.toInt_inj.mp (by have h9 := D287.1; omega)
    have z297 : (σ259 55 26).toInt = (σ213 55 26).toInt := by rw [(show σ259 55 26 = (σ213 55 26) from (by rw [f262 26 (by omega)]))]
    have z298 : (σ173 55 26).toInt = (σ 55 26).toInt := by rw [(show σ173 55 26 = (σ 55 26) from (by rw [f195 26 (by omega)]; exact (by rw [f83 26 (by omega)]; exact (by rw [f54 26 (by omega)]))))]
    have z299 : (σ259 55 25).toInt = (σ213 55 25).toInt := by rw [(show σ259 55 25 = (σ213 55 25) from (by rw [f262 25 (by omega)]))]
    have z300 : (σ173 55 25).toInt = (σ 55 25).toInt := by rw [(show σ173 55 25 = (σ 55 25) from (by rw [f195 25 (by omega)]; exact (by rw [f83 25 (by omega)]; exact (by rw [f54 25 (by omega)]))))]
    have e289 : σ271 55 26 = σ173 55 26 := Int32.toInt_inj.mp (by omega)
    have e290 : σ271 55 25 = σ173 55 25 := Int32.toInt_inj.mp (by omega)
    have z301 : (σ173 55 6).toInt = (σ 55 6).toInt := by rw [(show σ173 55 6 = (σ 55 6) from (by rw [f195 6 (by omega)]; exact (by rw [f83 6 (by omega)]; exact (by rw [f54 6 (by omega)]))))]
    have e291 : σ271 68 = σ173 68 := jback68 (nb := (σ173 55 6).toInt) (by omega) w219 e285 (fun k hk => w277 k (by rw [e286]; exact hk)) D287.2
    have f292 : (∀ i : Nat, (i < 55 ∨ 55 < i) ∧ (i < 66 ∨ 66 < i) ∧ (i < 74 ∨ 78 < i) → σ271 i = σ173 i) := fun i hi => by
      by_cases h8 : i = 68
      · rw [h8]; exact e291
      by_cases h9 : i = 69
      · rw [h9]; exact e284
      rw [f273 i (by omega), f261 i (by omega), f215 i (by omega)]
    have f293 : ∀ k : Nat, (k < 18 ∨ 18 < k) ∧ (k < 19 ∨ 19 < k) ∧ (k < 20 ∨ 20 < k) ∧ (k < 21 ∨ 21 < k) ∧ (k < 22 ∨ 22 < k) ∧ (k < 37 ∨ 37 < k) → σ271 55 k = σ173 55 k := fun k hk => by
      by_cases h25 : k = 25
      · rw [h25]; exact e290
      by_cases h26 : k = 26
      · rw [h26]; exact e289
      by_cases h27 : k = 27
      · rw [h27]; exact e288
      rw [f274 k (by omega), f262 k (by omega), f216 k (by omega)]
    clear k296 k281 k224
    refine lv_iload hx hb dX12_meanFrom_91 (lv_at hl 3 rfl) ?_
    refine lv_sipush (v := 1000) hx hb dX12_meanFrom_93 (by decide) ?_
    refine lv_aload_n hx hb dX12_meanFrom_96 rfl (lv_at hl 7 rfl) ?_
    refine va_get (D := D) hx hb hts inlX12 hown hK hP 55 (jc_55 cI cL ad σ271 τ) rfl 13 (by decide) (hts _ kw_15_14) (fun _ h9 => h9) rfl dX12_meanFrom_97 ?_
    have m302 : σ271 55 13 = (σ 55 13) := (by rw [f293 13 (by omega)]; exact (by rw [f195 13 (by omega)]; exact (by rw [f83 13 (by omega)]; exact (by rw [f54 13 (by omega)]))))
    refine jtopr m302 ?_
    have g303 := jrg (rfl : (σ 55 13).toInt = (σ 55 13).toInt)
    refine lv_isub hx hb dX12_meanFrom_100 ?_
    refine lv_topi (fun x304 ex304 => ?_)
    have tx304 : x304.toInt = -(σ 55 13).toInt + 1000 := (jsub ex304 jz_1000 rfl (by omega) (by omega)).trans (by omega)
    refine lv_i2l (v := x304.toInt64) hx hb dX12_meanFrom_101 rfl ?_
    refine lv_iload hx hb dX12_meanFrom_102 (lv_at hl 2 rfl) ?_
    refine lv_iload hx hb dX12_meanFrom_104 (lv_at hl 0 rfl) ?_
    refine lv_iload hx hb dX12_meanFrom_106 (lv_at hl 4 rfl) ?_
    refine jcallS (As := [.int r162, .int r260, .int r81]) (rest := [.long x304.toInt64, .int x107]) ⟨hx, hb, hml, hown, hts⟩ hK hP hA hS hZ (c_X12_mixed l D cI cL ad zz hJ σ271 τ r162 (r162.toInt) rfl r260 (r260.toInt) rfl r81 (r81.toInt) rfl) cw_RX12_304 ⟨Nat.le_of_ble_eq_true rfl, Nat.le_of_ble_eq_true rfl⟩ rfl rfl rfl hl.1 rfl (Nat.le_of_ble_eq_true rfl) dX12_meanFrom_108 ⟨Nat.zero_le _, Nat.zero_le _⟩ (fun r306 σ305 τ305 H locs h305 hP hS => ?_)
    obtain ⟨⟨rfl, rfl⟩, h305⟩ := h305
    refine lv_i2l (v := r306.toInt64) hx hb dX12_meanFrom_111 rfl ?_
    refine lv_lmul hx hb dX12_meanFrom_112 ?_
    refine lv_topl (fun lx307 elx307 => ?_)
    refine lv_ldc2 (v := 1000) hx hb hown (hts _ kw_34_19) dX12_meanFrom_113 ?_
    refine lv_ldiv hx hb dX12_meanFrom_116 (by decide) ?_
    refine lv_topl (fun lx308 elx308 => ?_)
    refine lv_l2i hx hb dX12_meanFrom_117 rfl ?_
    refine lv_topi (fun x309 ex309 => ?_)
    have gx309 := jrg (rfl : x309.toInt = x309.toInt)
    have g310 := jrg (rfl : x309.toInt = x309.toInt)
    refine lv_iadd hx hb dX12_meanFrom_118 ?_
    refine lv_topi (fun x311 ex311 => ?_)
    have gx311 := jrg (rfl : x311.toInt = x311.toInt)
    exact hret x311 σ271 τ _ _ _ _ rfl ⟨rfl, (fun i hi => by rw [f292 i (by omega), f194 i (by omega), f82 i (by omega), f53 i (by omega)]), (fun k hk => by rw [f293 k (by omega), f195 k (by omega), f83 k (by omega), f54 k (by omega)]), p282, trivial⟩ hP hS dX12_meanFrom_119
set_option maxHeartbeats 4000000 in
set_option maxRecDepth 100000 in
theorem c_X12_meanFrom_8 (l : Launch) (D : va_G) (cI cL : ClassId) (ad zz : Nat → Nat) (hJ : jD ad) (σ : Nat → Nat → Int32) (τ : Nat → Nat → Int64) (a1 : Int32) (A1 : Int) (t1 : a1.toInt = A1) (hI101 : jI101 σ) (hI102 : jI102 σ) (hI103 : jI103 σ) (hI104 : jI104 σ) (hI105 : jI105 σ) (hI106 : jI106 σ) (hI120 : jI120 σ) (hs_jKept : jKept σ) (hp0 : 0 ≤ A1 ∧ A1 ≤ 19) (hp1 : (σ 55 12).toInt - (σ 55 26).toInt ≤ 8) : jM l yX12_meanFrom cX12_meanFrom 9 (some .int) ({ frames := 70, cells := 0, slots := 0, locals := 1709 }) D cI cL ad zz [.ref (ad 55), .int a1] σ τ (fun r σ' τ' => τ = τ' ∧ (∀ i : Nat, (i < 55 ∨ 55 < i) ∧ (i < 66 ∨ 66 < i) ∧ (i < 74 ∨ 78 < i) → σ' i = σ i) ∧ (∀ k : Nat, (k < 18 ∨ 18 < k) ∧ (k < 19 ∨ 19 < k) ∧ (k < 20 ∨ 20 < k) ∧ (k < 21 ∨ 21 < k) ∧ (k < 22 ∨ 22 < k) ∧ (k < 37 ∨ 37 < k) → σ' 55 k = σ 55 k) ∧ (jKept σ') ∧ True) := by
  refine jM.of hJ (by decide +kernel) (nt := .int) rfl (Nat.le_of_ble_eq_true rfl) ?_
  intro p e s m args below meth c Q ls hC hret hl hP
  obtain ⟨hx, hb, hr, hml, hown, hts, hK, -, hlocks, hZ⟩ := hC
  have hown : s.vm.findClass RX12 = some m.cls := hown
  have hS : va_S (jA ad) s.heap s.heap [] := va_S.rf
  have hA : ∀ q, jA ad q → jA ad q := fun _ h => h
  have hl : lv_has ls 9 [(0, .ref (ad 55)), (1, .int a1)] := hl
  have g1 := jrg t1
  obtain ⟨i1, i2, i3, w4, w5, w6, w7⟩ : (0 ≤ (σ 55 5).toInt) ∧ ((σ 55 5).toInt ≤ (σ 55 4).toInt) ∧ ((σ 55 4).toInt ≤ 40) ∧ (∀ k : Nat, k < 68 → (-200) ≤ (σ 56 k).toInt ∧ (σ 56 k).toInt ≤ 500) ∧ (∀ k : Nat, k < 40 → 0 ≤ (σ 57 k).toInt ∧ (σ 57 k).toInt ≤ 67) ∧ (∀ k : Nat, k < 40 → (-200) ≤ (σ 58 k).toInt ∧ (σ 58 k).toInt ≤ 500) ∧ (∀ k : Nat, k < 40 → (-200) ≤ (σ 59 k).toInt ∧ (σ 59 k).toInt ≤ 500) := id hI101
  obtain ⟨i8, w9, w10⟩ : (0 ≤ (σ 55 6).toInt ∧ (σ 55 6).toInt ≤ 4) ∧ (∀ k : Nat, k < 4 → 0 ≤ (σ 60 k).toInt ∧ (σ 60 k).toInt ≤ 50) ∧ (∀ k : Nat, k < 4 → 0 ≤ (σ 61 k).toInt ∧ (σ 61 k).toInt ≤ 20) := id hI102
  have i11 : 0 ≤ (σ 55 9).toInt ∧ (σ 55 9).toInt ≤ 3 := hI103
  obtain ⟨i12, i13, i14, w15, w16⟩ : (1 ≤ (σ 55 10).toInt ∧ (σ 55 10).toInt ≤ 8) ∧ (1 ≤ (σ 55 12).toInt ∧ (σ 55 12).toInt ≤ 12) ∧ (0 ≤ (σ 55 13).toInt ∧ (σ 55 13).toInt ≤ 999) ∧ (∀ k : Nat, k < 8 → 0 ≤ (σ 62 k).toInt ∧ (σ 62 k).toInt ≤ 3) ∧ (∀ k : Nat, k < 8 → 0 ≤ (σ 67 k).toInt ∧ (σ 67 k).toInt ≤ 3) := id hI104
  obtain ⟨i17, w18⟩ : (0 ≤ (σ 55 15).toInt ∧ (σ 55 15).toInt ≤ 80) ∧ (∀ k : Nat, k < 2 → (-1) ≤ (σ 65 k).toInt ∧ (σ 65 k).toInt ≤ 80) := id hI105
  obtain ⟨i19, w20, w21, w22⟩ : (0 ≤ (σ 55 32).toInt ∧ (σ 55 32).toInt ≤ 20) ∧ (∀ k : Nat, k < 20 → 0 ≤ (σ 70 k).toInt ∧ (σ 70 k).toInt ≤ 6) ∧ (∀ k : Nat, k < 20 → 0 ≤ (σ 71 k).toInt ∧ (σ 71 k).toInt ≤ 8) ∧ (∀ k : Nat, k < 160 → 0 ≤ (σ 72 k).toInt ∧ (σ 72 k).toInt ≤ 3) := id hI106
  obtain ⟨i23, i24, i25, i26, i27, w28⟩ : (0 ≤ (σ 55 25).toInt) ∧ ((σ 55 25).toInt ≤ (σ 55 10).toInt) ∧ (0 ≤ (σ 55 26).toInt) ∧ ((σ 55 26).toInt ≤ (σ 55 12).toInt) ∧ ((-1) ≤ (σ 55 27).toInt ∧ (σ 55 27).toInt ≤ 3) ∧ (∀ k : Nat, k < 4 → 0 ≤ (σ 68 k).toInt ∧ (σ 68 k).toInt ≤ 3) := id hI120
  refine lv_aload_n hx hb dX12_meanFrom_0 rfl (lv_at hl 0 rfl) ?_
  have I29 : jI102 σ := ⟨(by omega), w9, w10⟩
  have I30 : jI104 σ := ⟨(by omega), (by omega), (by omega), w15, w16⟩
  have I31 : jI120 σ := ⟨(by omega), (by omega), (by omega), (by omega), (by omega), w28⟩
  refine jcallV (As := []) (rest := []) ⟨hx, hb, hml, hown, hts⟩ hK hP hA hS hZ (c_X12_isEnded l D cI cL ad zz hJ σ τ I29 I30 I31) cw_RX12_307 (jc_55 cI cL ad σ τ) rfl ⟨Nat.le_of_ble_eq_true rfl, Nat.le_of_ble_eq_true rfl⟩ rfl rfl rfl hl.1 rfl (Nat.le_of_ble_eq_true rfl) dX12_meanFrom_1 ⟨Nat.zero_le _, Nat.zero_le _⟩ (fun r33 σ32 τ32 H locs h32 hP hS => ?_)
  obtain ⟨⟨rfl, rfl⟩, h32⟩ := h32
  rcases h32 with h34 | h35
  · obtain ⟨q37, k36⟩ := h34
    have q37 := q37.symm
    subst q37
    refine lv_if_eq (tgt := 9) hx hb dX12_meanFrom_4 (by decide) (fun c => absurd c (by decide)) (fun _ => ?_)
    refine lv_iconst (v := 0) hx hb dX12_meanFrom_7 (by decide) ?_
    exact hret 0 σ τ _ _ _ _ rfl ⟨rfl, (fun _ _ => rfl), (fun _ _ => rfl), hs_jKept, trivial⟩ hP hS dX12_meanFrom_8
  · obtain ⟨q41, k38, k39, k40⟩ := h35
    have q41 := q41.symm
    subst q41
    obtain ⟨B42, k43, k44, w45⟩ := k40
    refine lv_if_eq (tgt := 9) hx hb dX12_meanFrom_4 (by decide) (fun _ => ?_) (fun c => absurd (by decide) c)
    refine lv_aload_n hx hb dX12_meanFrom_9 rfl (lv_at hl 0 rfl) ?_
    refine lv_iload_n hx hb dX12_meanFrom_10 rfl (lv_at hl 1 rfl) ?_
    have p46 : jmb σ B42 = 1 := (jmb_fr rfl rfl rfl rfl rfl B42).trans w45
    have I47 : jI101 σ := ⟨(by omega), (by omega), (by omega), w4, w5, w6, w7⟩
    have I48 : jI103 σ := (show 0 ≤ (σ 55 9).toInt ∧ (σ 55 9).toInt ≤ 3 by omega)
    have I49 : jI105 σ := ⟨(by omega), w18⟩
    have I50 : jI106 σ := ⟨(by omega), w20, w21, w22⟩
    refine jcallV (As := [.int a1]) (rest := []) ⟨hx, hb, hml, hown, hts⟩ hK hP hA hS hZ (c_X12_putsOn l D cI cL ad zz hJ σ τ B42 p46 a1 (A1) t1 I47 I29 I48 I30 I49 I50 I31 hs_jKept (by omega) (by omega) (by omega) (by omega) (by omega)) cw_RX12_321 (jc_55 cI cL ad σ τ) rfl ⟨Nat.le_of_ble_eq_true rfl, Nat.le_of_ble_eq_true rfl⟩ rfl rfl rfl hl.1 rfl (Nat.le_of_ble_eq_true rfl) dX12_meanFrom_11 ⟨Nat.zero_le _, Nat.zero_le _⟩ (fun r52 σ51 τ51 H locs h51 hP hS => ?_)
    obtain ⟨rfl, f53, f54, p55, h51⟩ := h51
    have h56 := h51
    obtain ⟨q58, k57⟩ := h56
    refine lv_istore_n (lv' := [(2, .int r52), (0, .ref (ad 55)), (1, .int a1)]) hx hb dX12_meanFrom_14 rfl hl (by decide) rfl (fun ls hl => ?_)
    refine lv_aload_n hx hb dX12_meanFrom_15 rfl (lv_at hl 1 rfl) ?_
    refine va_get (D := D) hx hb hts inlX12 hown hK hP 55 (jc_55 cI cL ad σ51 τ) rfl 11 (by decide) (hts _ kw_7_8) (fun _ h9 => h9) rfl dX12_meanFrom_16 ?_
    refine lv_aload_n hx hb dX12_meanFrom_19 rfl (lv_at hl 1 rfl) ?_
    refine va_get (D := D) hx hb hts inlX12 hown hK hP 55 (jc_55 cI cL ad σ51 τ) rfl 25 (by decide) (hts _ kw_23_6) (fun _ h9 => h9) rfl dX12_meanFrom_20 ?_
    have m59 : σ51 55 25 = (σ 55 25) := (by rw [f54 25 (by omega)])
    refine jtopr m59 ?_
    refine jald hx hb hK hP (jc_62 cI cL ad σ51 τ) (jin rfl (by omega) (by omega)) dX12_meanFrom_23 ?_
    have w60 : ∀ k : Nat, k < 8 → 0 ≤ (σ51 62 k).toInt ∧ (σ51 62 k).toInt ≤ 3 := (by rw [f53 62 (by omega)]; exact w15)
    have g61 := w60 _ (jnat (x := (σ 55 25)) rfl (n := 8) (by omega) (by decide))
    refine lv_topi (fun x62 ex62 => ?_)
    rw [← ex62] at g61
    refine lv_istore_n (lv' := [(3, .int x62), (2, .int r52), (0, .ref (ad 55)), (1, .int a1)]) hx hb dX12_meanFrom_24 rfl hl (by decide) rfl (fun ls hl => ?_)
    refine lv_aload_n hx hb dX12_meanFrom_25 rfl (lv_at hl 2 rfl) ?_
    refine lv_iload_n hx hb dX12_meanFrom_26 rfl (lv_at hl 1 rfl) ?_
    refine lv_iload_n hx hb dX12_meanFrom_27 rfl (lv_at hl 0 rfl) ?_
    have z63 : (σ51 55 5).toInt = (σ 55 5).toInt := by rw [(show σ51 55 5 = (σ 55 5) from (by rw [f54 5 (by omega)]))]
    have z64 : (σ51 55 4).toInt = (σ 55 4).toInt := by rw [(show σ51 55 4 = (σ 55 4) from (by rw [f54 4 (by omega)]))]
    have w65 : ∀ k : Nat, k < 68 → (-200) ≤ (σ51 56 k).toInt ∧ (σ51 56 k).toInt ≤ 500 := (by rw [f53 56 (by omega)]; exact w4)
    have w66 : ∀ k : Nat, k < 40 → 0 ≤ (σ51 57 k).toInt ∧ (σ51 57 k).toInt ≤ 67 := (by rw [f53 57 (by omega)]; exact w5)
    have w67 : ∀ k : Nat, k < 40 → (-200) ≤ (σ51 58 k).toInt ∧ (σ51 58 k).toInt ≤ 500 := (by rw [f53 58 (by omega)]; exact w6)
    have w68 : ∀ k : Nat, k < 40 → (-200) ≤ (σ51 59 k).toInt ∧ (σ51 59 k).toInt ≤ 500 := (by rw [f53 59 (by omega)]; exact w7)
    have I69 : jI101 σ51 := ⟨(by omega), (by omega), (by omega), w65, w66, w67, w68⟩
    have z70 : (σ51 55 6).toInt = (σ 55 6).toInt := by rw [(show σ51 55 6 = (σ 55 6) from (by rw [f54 6 (by omega)]))]
    have w71 : ∀ k : Nat, k < 4 → 0 ≤ (σ51 60 k).toInt ∧ (σ51 60 k).toInt ≤ 50 := (by rw [f53 60 (by omega)]; exact w9)
    have w72 : ∀ k : Nat, k < 4 → 0 ≤ (σ51 61 k).toInt ∧ (σ51 61 k).toInt ≤ 20 := (by rw [f53 61 (by omega)]; exact w10)
    have I73 : jI102 σ51 := ⟨(by omega), w71, w72⟩
    have z74 : (σ51 55 9).toInt = (σ 55 9).toInt := by rw [(show σ51 55 9 = (σ 55 9) from (by rw [f54 9 (by omega)]))]
    have I75 : jI103 σ51 := (show 0 ≤ (σ51 55 9).toInt ∧ (σ51 55 9).toInt ≤ 3 by omega)
    have z76 : (σ51 55 15).toInt = (σ 55 15).toInt := by rw [(show σ51 55 15 = (σ 55 15) from (by rw [f54 15 (by omega)]))]
    have w77 : ∀ k : Nat, k < 2 → (-1) ≤ (σ51 65 k).toInt ∧ (σ51 65 k).toInt ≤ 80 := (by rw [f53 65 (by omega)]; exact w18)
    have I78 : jI105 σ51 := ⟨(by omega), w77⟩
    have w79 : ∀ k : Nat, k < 4 → 0 ≤ (σ51 68 k).toInt ∧ (σ51 68 k).toInt ≤ 3 := (by rw [f53 68 (by omega)]; exact w28)
    refine jcallV (As := [.int r52, .int x62]) (rest := []) ⟨hx, hb, hml, hown, hts⟩ hK hP hA hS hZ (c_X12_outBy l D cI cL ad zz hJ σ51 τ r52 (r52.toInt) rfl x62 (x62.toInt) rfl I69 I73 I75 I78 w79 (by omega) (by omega)) cw_RX12_259 (jc_55 cI cL ad σ51 τ) rfl ⟨Nat.le_of_ble_eq_true rfl, Nat.le_of_ble_eq_true rfl⟩ rfl rfl rfl hl.1 rfl (Nat.le_of_ble_eq_true rfl) dX12_meanFrom_28 ⟨Nat.zero_le _, Nat.zero_le _⟩ (fun r81 σ80 τ80 H locs h80 hP hS => ?_)
    obtain ⟨rfl, f82, f83, h80⟩ := h80
    have h84 := h80
    obtain ⟨q86, k85⟩ := h84
    refine lv_istore (lv' := [(4, .int r81), (3, .int x62), (2, .int r52), (0, .ref (ad 55)), (1, .int a1)]) hx hb dX12_meanFrom_31 hl (by decide) rfl (fun ls hl => ?_)
    refine lv_sipush (v := 1000) hx hb dX12_meanFrom_33 (by decide) ?_
    refine lv_aload_n hx hb dX12_meanFrom_36 rfl (lv_at hl 3 rfl) ?_
    refine lv_iload_n hx hb dX12_meanFrom_37 rfl (lv_at hl 2 rfl) ?_
    refine lv_iload_n hx hb dX12_meanFrom_38 rfl (lv_at hl 1 rfl) ?_
    have z87 : (σ80 55 5).toInt = (σ 55 5).toInt := by rw [(show σ80 55 5 = (σ 55 5) from (by rw [f83 5 (by omega)]; exact (by rw [f54 5 (by omega)])))]
    have z88 : (σ80 55 4).toInt = (σ 55 4).toInt := by rw [(show σ80 55 4 = (σ 55 4) from (by rw [f83 4 (by omega)]; exact (by rw [f54 4 (by omega)])))]
    have w89 : ∀ k : Nat, k < 68 → (-200) ≤ (σ80 56 k).toInt ∧ (σ80 56 k).toInt ≤ 500 := (by rw [f82 56 (by omega)]; exact w65)
    have w90 : ∀ k : Nat, k < 40 → 0 ≤ (σ80 57 k).toInt ∧ (σ80 57 k).toInt ≤ 67 := (by rw [f82 57 (by omega)]; exact w66)
    have w91 : ∀ k : Nat, k < 40 → (-200) ≤ (σ80 58 k).toInt ∧ (σ80 58 k).toInt ≤ 500 := (by rw [f82 58 (by omega)]; exact w67)
    have w92 : ∀ k : Nat, k < 40 → (-200) ≤ (σ80 59 k).toInt ∧ (σ80 59 k).toInt ≤ 500 := (by rw [f82 59 (by omega)]; exact w68)
    have I93 : jI101 σ80 := ⟨(by omega), (by omega), (by omega), w89, w90, w91, w92⟩
    have z94 : (σ80 55 6).toInt = (σ 55 6).toInt := by rw [(show σ80 55 6 = (σ 55 6) from (by rw [f83 6 (by omega)]; exact (by rw [f54 6 (by omega)])))]
    have w95 : ∀ k : Nat, k < 4 → 0 ≤ (σ80 60 k).toInt ∧ (σ80 60 k).toInt ≤ 50 := (by rw [f82 60 (by omega)]; exact w71)
    have w96 : ∀ k : Nat, k < 4 → 0 ≤ (σ80 61 k).toInt ∧ (σ80 61 k).toInt ≤ 20 := (by rw [f82 61 (by omega)]; exact w72)
    have I97 : jI102 σ80 := ⟨(by omega), w95, w96⟩
    have z98 : (σ80 55 9).toInt = (σ 55 9).toInt := by rw [(show σ80 55 9 = (σ 55 9) from (by rw [f83 9 (by omega)]; exact (by rw [f54 9 (by omega)])))]
    have I99 : jI103 σ80 := (show 0 ≤ (σ80 55 9).toInt ∧ (σ80 55 9).toInt ≤ 3 by omega)
    have w100 : ∀ k : Nat, k < 4 → 0 ≤ (σ80 68 k).toInt ∧ (σ80 68 k).toInt ≤ 3 := (by rw [f82 68 (by omega)]; exact w79)
    refine jcallV (As := [.int r52, .int x62]) (rest := [.int 1000]) ⟨hx, hb, hml, hown, hts⟩ hK hP hA hS hZ (c_X12_runsBy l D cI cL ad zz hJ σ80 τ r52 (r52.toInt) rfl x62 (x62.toInt) rfl I93 I97 I99 w100 (by omega) (by omega)) cw_RX12_262 (jc_55 cI cL ad σ80 τ) rfl ⟨Nat.le_of_ble_eq_true rfl, Nat.le_of_ble_eq_true rfl⟩ rfl rfl rfl hl.1 rfl (Nat.le_of_ble_eq_true rfl) dX12_meanFrom_39 ⟨Nat.zero_le _, Nat.zero_le _⟩ (fun r102 σ101 τ101 H locs h101 hP hS => ?_)
    obtain ⟨⟨rfl, rfl⟩, h101⟩ := h101
    have h103 := h101
    obtain ⟨q105, k104⟩ := h103
    have g106 := jrg (rfl : r102.toInt = r102.toInt)
    refine lv_imul hx hb dX12_meanFrom_42 ?_
    refine lv_topi (fun x107 ex107 => ?_)
    have tx107 : x107.toInt = 1000 * r102.toInt := (jmul ex107 jz_1000 rfl (by omega) (by omega)).trans (by omega)
    refine lv_istore (lv' := [(5, .int x107), (4, .int r81), (3, .int x62), (2, .int r52), (0, .ref (ad 55)), (1, .int a1)]) hx hb dX12_meanFrom_43 hl (by decide) rfl (fun ls hl => ?_)
    refine lv_aload_n hx hb dX12_meanFrom_45 rfl (lv_at hl 4 rfl) ?_
    refine lv_iload_n hx hb dX12_meanFrom_46 rfl (lv_at hl 3 rfl) ?_
    refine lv_iconst (v := 1) hx hb dX12_meanFrom_47 (by decide) ?_
    have z108 : (σ80 55 27).toInt = (σ 55 27).toInt := by rw [(show σ80 55 27 = (σ 55 27) from (by rw [f83 27 (by omega)]; exact (by rw [f54 27 (by omega)])))]
    have z109 : (σ80 55 25).toInt = (σ 55 25).toInt := by rw [(show σ80 55 25 = (σ 55 25) from (by rw [f83 25 (by omega)]; exact m59))]
    have z110 : (σ80 55 26).toInt = (σ 55 26).toInt := by rw [(show σ80 55 26 = (σ 55 26) from (by rw [f83 26 (by omega)]; exact (by rw [f54 26 (by omega)])))]
    have z111 : (σ80 68 0).toInt = (σ 68 0).toInt := by rw [(show σ80 68 0 = (σ 68 0) from (by rw [f82 68 (by omega)]; exact (by rw [f53 68 (by omega)])))]
    have z112 : (σ80 68 1).toInt = (σ 68 1).toInt := by rw [(show σ80 68 1 = (σ 68 1) from (by rw [f82 68 (by omega)]; exact (by rw [f53 68 (by omega)])))]
    have z113 : (σ80 68 2).toInt = (σ 68 2).toInt := by rw [(show σ80 68 2 = (σ 68 2) from (by rw [f82 68 (by omega)]; exact (by rw [f53 68 (by omega)])))]
    have z114 : (σ80 68 3).toInt = (σ 68 3).toInt := by rw [(show σ80 68 3 = (σ 68 3) from (by rw [f82 68 (by omega)]; exact (by rw [f53 68 (by omega)])))]
    refine jcallV (As := [.int r52, .int 1]) (rest := []) ⟨hx, hb, hml, hown, hts⟩ hK hP hA hS hZ (c_X12_goes_1 l D cI cL ad zz hJ σ80 τ r52 (r52.toInt) rfl w100 (by omega) (by omega) (by omega) (by omega) (by omega)) cw_RX12_296 (jc_55 cI cL ad σ80 τ) rfl ⟨Nat.le_of_ble_eq_true rfl, Nat.le_of_ble_eq_true rfl⟩ rfl rfl rfl hl.1 rfl (Nat.le_of_ble_eq_true rfl) dX12_meanFrom_48 ⟨Nat.zero_le _, Nat.zero_le _⟩ (fun r116 σ115 τ115 H locs h115 hP hS => ?_)
    obtain ⟨rfl, f117, f118, w119, w120, w121, h115⟩ := h115
    obtain ⟨k122, k123, k124, h115⟩ := h115
    have h125 := h115
    obtain ⟨q131, k126, k127, k128, k129, k130⟩ := h125
    refine lv_istore (lv' := [(6, .int r116), (5, .int x107), (4, .int r81), (3, .int x62), (2, .int r52), (0, .ref (ad 55)), (1, .int a1)]) hx hb dX12_meanFrom_51 hl (by decide) rfl (fun ls hl => ?_)
    refine lv_aload_n hx hb dX12_meanFrom_53 rfl (lv_at hl 5 rfl) ?_
    refine lv_iload_n hx hb dX12_meanFrom_54 rfl (lv_at hl 6 rfl) ?_
    have z132 : (σ115 55 5).toInt = (σ 55 5).toInt := by rw [(show σ115 55 5 = (σ 55 5) from (by rw [f118 5 (by omega)]; exact (by rw [f83 5 (by omega)]; exact (by rw [f54 5 (by omega)]))))]
    have z133 : (σ115 55 4).toInt = (σ 55 4).toInt := by rw [(show σ115 55 4 = (σ 55 4) from (by rw [f118 4 (by omega)]; exact (by rw [f83 4 (by omega)]; exact (by rw [f54 4 (by omega)]))))]
    have w134 : ∀ k : Nat, k < 68 → (-200) ≤ (σ115 56 k).toInt ∧ (σ115 56 k).toInt ≤ 500 := (by rw [f117 56 (by omega)]; exact w89)
    have w135 : ∀ k : Nat, k < 40 → 0 ≤ (σ115 57 k).toInt ∧ (σ115 57 k).toInt ≤ 67 := (by rw [f117 57 (by omega)]; exact w90)
    have w136 : ∀ k : Nat, k < 40 → (-200) ≤ (σ115 58 k).toInt ∧ (σ115 58 k).toInt ≤ 500 := (by rw [f117 58 (by omega)]; exact w91)
    have w137 : ∀ k : Nat, k < 40 → (-200) ≤ (σ115 59 k).toInt ∧ (σ115 59 k).toInt ≤ 500 := (by rw [f117 59 (by omega)]; exact w92)
    have I138 : jI101 σ115 := ⟨(by omega), (by omega), (by omega), w134, w135, w136, w137⟩
    have z139 : (σ115 55 6).toInt = (σ 55 6).toInt := by rw [(show σ115 55 6 = (σ 55 6) from (by rw [f118 6 (by omega)]; exact (by rw [f83 6 (by omega)]; exact (by rw [f54 6 (by omega)]))))]
    have w140 : ∀ k : Nat, k < 4 → 0 ≤ (σ115 60 k).toInt ∧ (σ115 60 k).toInt ≤ 50 := (by rw [f117 60 (by omega)]; exact w95)
    have w141 : ∀ k : Nat, k < 4 → 0 ≤ (σ115 61 k).toInt ∧ (σ115 61 k).toInt ≤ 20 := (by rw [f117 61 (by omega)]; exact w96)
    have I142 : jI102 σ115 := ⟨(by omega), w140, w141⟩
    have z143 : (σ115 55 9).toInt = (σ 55 9).toInt := by rw [(show σ115 55 9 = (σ 55 9) from (by rw [f118 9 (by omega)]; exact (by rw [f83 9 (by omega)]; exact (by rw [f54 9 (by omega)]))))]
    have I144 : jI103 σ115 := (show 0 ≤ (σ115 55 9).toInt ∧ (σ115 55 9).toInt ≤ 3 by omega)
    have z145 : (σ115 55 10).toInt = (σ 55 10).toInt := by rw [(show σ115 55 10 = (σ 55 10) from (by rw [f118 10 (by omega)]; exact (by rw [f83 10 (by omega)]; exact (by rw [f54 10 (by omega)]))))]
    have z146 : (σ115 55 12).toInt = (σ 55 12).toInt := by rw [(show σ115 55 12 = (σ 55 12) from (by rw [f118 12 (by omega)]; exact (by rw [f83 12 (by omega)]; exact (by rw [f54 12 (by omega)]))))]
    have z147 : (σ115 55 13).toInt = (σ 55 13).toInt := by rw [(show σ115 55 13 = (σ 55 13) from (by rw [f118 13 (by omega)]; exact (by rw [f83 13 (by omega)]; exact (by rw [f54 13 (by omega)]))))]
    have w148 : ∀ k : Nat, k < 8 → 0 ≤ (σ115 62 k).toInt ∧ (σ115 62 k).toInt ≤ 3 := (by rw [f117 62 (by omega)]; exact (by rw [f82 62 (by omega)]; exact w60))
    have w149 : ∀ k : Nat, k < 8 → 0 ≤ (σ115 67 k).toInt ∧ (σ115 67 k).toInt ≤ 3 := (by rw [f117 67 (by omega)]; exact (by rw [f82 67 (by omega)]; exact (by rw [f53 67 (by omega)]; exact w16)))
    have I150 : jI104 σ115 := ⟨(by omega), (by omega), (by omega), w148, w149⟩
    have z151 : (σ115 55 15).toInt = (σ 55 15).toInt := by rw [(show σ115 55 15 = (σ 55 15) from (by rw [f118 15 (by omega)]; exact (by rw [f83 15 (by omega)]; exact (by rw [f54 15 (by omega)]))))]
    have w152 : ∀ k : Nat, k < 2 → (-1) ≤ (σ115 65 k).toInt ∧ (σ115 65 k).toInt ≤ 80 := (by rw [f117 65 (by omega)]; exact (by rw [f82 65 (by omega)]; exact w77))
    have I153 : jI105 σ115 := ⟨(by omega), w152⟩
    have z154 : (σ115 55 32).toInt = (σ 55 32).toInt := by rw [(show σ115 55 32 = (σ 55 32) from (by rw [f118 32 (by omega)]; exact (by rw [f83 32 (by omega)]; exact (by rw [f54 32 (by omega)]))))]
    have w155 : ∀ k : Nat, k < 20 → 0 ≤ (σ115 70 k).toInt ∧ (σ115 70 k).toInt ≤ 6 := (by rw [f117 70 (by omega)]; exact (by rw [f82 70 (by omega)]; exact (by rw [f53 70 (by omega)]; exact w20)))
    have w156 : ∀ k : Nat, k < 20 → 0 ≤ (σ115 71 k).toInt ∧ (σ115 71 k).toInt ≤ 8 := (by rw [f117 71 (by omega)]; exact (by rw [f82 71 (by omega)]; exact (by rw [f53 71 (by omega)]; exact w21)))
    have w157 : ∀ k : Nat, k < 160 → 0 ≤ (σ115 72 k).toInt ∧ (σ115 72 k).toInt ≤ 3 := (by rw [f117 72 (by omega)]; exact (by rw [f82 72 (by omega)]; exact (by rw [f53 72 (by omega)]; exact w22)))
    have I158 : jI106 σ115 := ⟨(by omega), w155, w156, w157⟩
    have I159 : jI120 σ115 := ⟨(by omega), (by omega), (by omega), (by omega), (by omega), w119⟩
    have p160 : jKept σ115 := jKept.fr (by rw [f117 75 (by omega), f82 75 (by omega)]) (by rw [f117 76 (by omega), f82 76 (by omega)]) (by rw [f117 77 (by omega), f82 77 (by omega)]) p55
    refine jcallV (As := [.int a1]) (rest := []) ⟨hx, hb, hml, hown, hts⟩ hK hP hA hS hZ (c_X12_meanFrom_7 l D cI cL ad zz hJ σ115 τ a1 (A1) t1 I138 I142 I144 I150 I153 I158 I159 p160 (by omega) (by omega)) cw_RX12_324 (jc_55 cI cL ad σ115 τ) rfl ⟨Nat.le_of_ble_eq_true rfl, Nat.le_of_ble_eq_true rfl⟩ rfl rfl rfl hl.1 rfl (Nat.le_of_ble_eq_true rfl) dX12_meanFrom_55 ⟨Nat.zero_le _, Nat.zero_le _⟩ (fun r162 σ161 τ161 H locs h161 hP hS => ?_)
    obtain ⟨rfl, f163, f164, p165, h161⟩ := h161
    refine lv_istore (lv' := [(7, .int r162), (6, .int r116), (5, .int x107), (4, .int r81), (3, .int x62), (2, .int r52), (0, .ref (ad 55)), (1, .int a1)]) hx hb dX12_meanFrom_58 hl (by decide) rfl (fun ls hl => ?_)
    refine lv_aload_n hx hb dX12_meanFrom_60 rfl (lv_at hl 6 rfl) ?_
    refine lv_iload_n hx hb dX12_meanFrom_61 rfl (lv_at hl 5 rfl) ?_
    refine lv_iconst (v := 1) hx hb dX12_meanFrom_62 (by decide) ?_
    refine lv_iload hx hb dX12_meanFrom_63 (lv_at hl 1 rfl) ?_
    have w166 : ∀ k : Nat, k < 4 → 0 ≤ (σ161 68 k).toInt ∧ (σ161 68 k).toInt ≤ 3 := (by rw [f163 68 (by omega)]; exact w119)
    have z167 : (σ161 55 25).toInt = (σ115 55 25).toInt := by rw [(show σ161 55 25 = (σ115 55 25) from (by rw [f164 25 (by omega)]))]
    have z168 : (σ161 55 26).toInt = (σ115 55 26).toInt := by rw [(show σ161 55 26 = (σ115 55 26) from (by rw [f164 26 (by omega)]))]
    have z169 : (σ161 55 6).toInt = (σ 55 6).toInt := by rw [(show σ161 55 6 = (σ 55 6) from (by rw [f164 6 (by omega)]; exact (by rw [f118 6 (by omega)]; exact (by rw [f83 6 (by omega)]; exact (by rw [f54 6 (by omega)])))))]
    have w170 : ∀ k : Nat, k < 4 → 0 ≤ (σ80 68 k).toInt ∧ (σ80 68 k).toInt ≤ 3 := w100
    have z172 : (σ80 55 27).toInt = (σ 55 27).toInt := by rw [(show σ80 55 27 = (σ 55 27) from (by rw [f83 27 (by omega)]; exact (by rw [f54 27 (by omega)])))]
    have k171 := jwas (by omega) (w170 0 (by decide)) (w170 1 (by decide)) (w170 2 (by decide)) (w170 3 (by decide)) k126
    rw [← (show σ161 55 6 = σ80 55 6 from (by rw [f164 6 (by omega), f118 6 (by omega)]))] at k171
    refine jcallVv (As := [.int r52, .int 1, .int r116]) (rest := []) ⟨hx, hb, hml, hown, hts⟩ hK hP hA hS hZ (c_X12_goesBack_1 l D cI cL ad zz hJ σ161 τ r52 (r52.toInt) rfl r116 (r116.toInt) rfl w166 (by omega) (by omega) (by omega) k171) cw_RX12_300 (jc_55 cI cL ad σ161 τ) rfl ⟨Nat.le_of_ble_eq_true rfl, Nat.le_of_ble_eq_true rfl⟩ rfl rfl rfl hl.1 rfl (Nat.le_of_ble_eq_true rfl) dX12_meanFrom_65 ⟨Nat.zero_le _, Nat.zero_le _⟩ (fun σ173 τ173 H locs h173 hP hS => ?_)
    obtain ⟨rfl, f175, f176, w177, w178, w179, h173⟩ := h173
    obtain ⟨k180, k181, k182, k183, h173⟩ := h173
    have p184 : jKept σ173 := jKept.fr (by rw [f175 75 (by omega)]) (by rw [f175 76 (by omega)]) (by rw [f175 77 (by omega)]) p165
    have e185 : σ161 69 = σ115 69 := (by rw [f163 69 (by omega)])
    have e186 : σ173 69 = σ80 69 := jback69 w120 e185 w178
    have e187 : σ161 68 = σ115 68 := (by rw [f163 68 (by omega)])
    have e188 : σ161 55 6 = σ80 55 6 := (by rw [f164 6 (by omega), f118 6 (by omega)])
    have w196 : ∀ k : Nat, k < 4 → 0 ≤ (σ80 68 k).toInt ∧ (σ80 68 k).toInt ≤ 3 := w100
    have w197 : ∀ k : Nat, k < 4 → 0 ≤ (σ173 68 k).toInt ∧ (σ173 68 k).toInt ≤ 3 := w177
    have k198 := k183
    rw [e188] at k198
    have D189 := jdig (w196 0 (by decide)) (w196 1 (by decide)) (w196 2 (by decide)) (w196 3 (by decide)) (w197 0 (by decide)) (w197 1 (by decide)) (w197 2 (by decide)) (w197 3 (by decide)) k126 k198
    have e190 : σ173 55 27 = σ80 55 27 := Int32.toInt_inj.mp (by have h9 := D189.1; omega)
    have z199 : (σ161 55 26).toInt = (σ115 55 26).toInt := by rw [(show σ161 55 26 = (σ115 55 26) from (by rw [f164 26 (by omega)]))]
    have z200 : (σ80 55 26).toInt = (σ 55 26).toInt := by rw [(show σ80 55 26 = (σ 55 26) from (by rw [f83 26 (by omega)]; exact (by rw [f54 26 (by omega)])))]
    have z201 : (σ161 55 25).toInt = (σ115 55 25).toInt := by rw [(show σ161 55 25 = (σ115 55 25) from (by rw [f164 25 (by omega)]))]
    have z202 : (σ80 55 25).toInt = (σ 55 25).toInt := by rw [(show σ80 55 25 = (σ 55 25) from (by rw [f83 25 (by omega)]; exact (by rw [f54 25 (by omega)])))]
    have e191 : σ173 55 26 = σ80 55 26 := Int32.toInt_inj.mp (by omega)
    have e192 : σ173 55 25 = σ80 55 25 := Int32.toInt_inj.mp (by omega)
    have z203 : (σ80 55 6).toInt = (σ 55 6).toInt := by rw [(show σ80 55 6 = (σ 55 6) from (by rw [f83 6 (by omega)]; exact (by rw [f54 6 (by omega)])))]
    have e193 : σ173 68 = σ80 68 := jback68 (nb := (σ80 55 6).toInt) (by omega) w121 e187 (fun k hk => w179 k (by rw [e188]; exact hk)) D189.2
    have f194 : (∀ i : Nat, (i < 55 ∨ 55 < i) ∧ (i < 66 ∨ 66 < i) ∧ (i < 74 ∨ 78 < i) → σ173 i = σ80 i) := fun i hi => by
      by_cases h8 : i = 68
      · rw [h8]; exact e193
      by_cases h9 : i = 69
      · rw [h9]; exact e186
      rw [f175 i (by omega), f163 i (by omega), f117 i (by omega)]
    have f195 : ∀ k : Nat, (k < 18 ∨ 18 < k) ∧ (k < 19 ∨ 19 < k) ∧ (k < 20 ∨ 20 < k) ∧ (k < 21 ∨ 21 < k) ∧ (k < 22 ∨ 22 < k) ∧ (k < 37 ∨ 37 < k) → σ173 55 k = σ80 55 k := fun k hk => by
      by_cases h25 : k = 25
      · rw [h25]; exact e192
      by_cases h26 : k = 26
      · rw [h26]; exact e191
      by_cases h27 : k = 27
      · rw [h27]; exact e190
      rw [f176 k (by omega), f164 k (by omega), f118 k (by omega)]
    clear k198 k183 k126
    refine lv_aload_n hx hb dX12_meanFrom_68 rfl (lv_at hl 6 rfl) ?_
    refine lv_iload_n hx hb dX12_meanFrom_69 rfl (lv_at hl 5 rfl) ?_
    refine lv_iconst (v := 0) hx hb dX12_meanFrom_70 (by decide) ?_
    have w204 : ∀ k : Nat, k < 4 → 0 ≤ (σ173 68 k).toInt ∧ (σ173 68 k).toInt ≤ 3 := (by rw [f194 68 (by omega)]; exact w100)
    have z205 : (σ173 55 6).toInt = (σ 55 6).toInt := by rw [(show σ173 55 6 = (σ 55 6) from (by rw [f195 6 (by omega)]; exact (by rw [f83 6 (by omega)]; exact (by rw [f54 6 (by omega)]))))]
    have z206 : (σ173 55 27).toInt = (σ 55 27).toInt := by rw [(show σ173 55 27 = (σ 55 27) from (by rw [f195 27 (by omega)]; exact (by rw [f83 27 (by omega)]; exact (by rw [f54 27 (by omega)]))))]
    have z207 : (σ173 55 25).toInt = (σ 55 25).toInt := by rw [(show σ173 55 25 = (σ 55 25) from (by rw [f195 25 (by omega)]; exact (by rw [f83 25 (by omega)]; exact m59)))]
    have z208 : (σ173 55 26).toInt = (σ 55 26).toInt := by rw [(show σ173 55 26 = (σ 55 26) from (by rw [f195 26 (by omega)]; exact (by rw [f83 26 (by omega)]; exact (by rw [f54 26 (by omega)]))))]
    have z209 : (σ173 68 0).toInt = (σ 68 0).toInt := by rw [(show σ173 68 0 = (σ 68 0) from (by rw [f194 68 (by omega)]; exact (by rw [f82 68 (by omega)]; exact (by rw [f53 68 (by omega)]))))]
    have z210 : (σ173 68 1).toInt = (σ 68 1).toInt := by rw [(show σ173 68 1 = (σ 68 1) from (by rw [f194 68 (by omega)]; exact (by rw [f82 68 (by omega)]; exact (by rw [f53 68 (by omega)]))))]
    have z211 : (σ173 68 2).toInt = (σ 68 2).toInt := by rw [(show σ173 68 2 = (σ 68 2) from (by rw [f194 68 (by omega)]; exact (by rw [f82 68 (by omega)]; exact (by rw [f53 68 (by omega)]))))]
    have z212 : (σ173 68 3).toInt = (σ 68 3).toInt := by rw [(show σ173 68 3 = (σ 68 3) from (by rw [f194 68 (by omega)]; exact (by rw [f82 68 (by omega)]; exact (by rw [f53 68 (by omega)]))))]
    refine jcallV (As := [.int r52, .int 0]) (rest := []) ⟨hx, hb, hml, hown, hts⟩ hK hP hA hS hZ (c_X12_goes_0 l D cI cL ad zz hJ σ173 τ r52 (r52.toInt) rfl w204 (by omega) (by omega) (by omega) (by omega) (by omega)) cw_RX12_296 (jc_55 cI cL ad σ173 τ) rfl ⟨Nat.le_of_ble_eq_true rfl, Nat.le_of_ble_eq_true rfl⟩ rfl rfl rfl hl.1 rfl (Nat.le_of_ble_eq_true rfl) dX12_meanFrom_71 ⟨Nat.zero_le _, Nat.zero_le _⟩ (fun r214 σ213 τ213 H locs h213 hP hS => ?_)
    obtain ⟨rfl, f215, f216, w217, w218, w219, h213⟩ := h213
    obtain ⟨k220, k221, k222, h213⟩ := h213
    have h223 := h213
    obtain ⟨q229, k224, k225, k226, k227, k228⟩ := h223
    refine lv_istore (lv' := [(6, .int r214), (7, .int r162), (5, .int x107), (4, .int r81), (3, .int x62), (2, .int r52), (0, .ref (ad 55)), (1, .int a1)]) hx hb dX12_meanFrom_74 hl (by decide) rfl (fun ls hl => ?_)
    refine lv_aload_n hx hb dX12_meanFrom_76 rfl (lv_at hl 6 rfl) ?_
    refine lv_iload_n hx hb dX12_meanFrom_77 rfl (lv_at hl 7 rfl) ?_
    have z230 : (σ213 55 5).toInt = (σ 55 5).toInt := by rw [(show σ213 55 5 = (σ 55 5) from (by rw [f216 5 (by omega)]; exact (by rw [f195 5 (by omega)]; exact (by rw [f83 5 (by omega)]; exact (by rw [f54 5 (by omega)])))))]
    have z231 : (σ213 55 4).toInt = (σ 55 4).toInt := by rw [(show σ213 55 4 = (σ 55 4) from (by rw [f216 4 (by omega)]; exact (by rw [f195 4 (by omega)]; exact (by rw [f83 4 (by omega)]; exact (by rw [f54 4 (by omega)])))))]
    have w232 : ∀ k : Nat, k < 68 → (-200) ≤ (σ213 56 k).toInt ∧ (σ213 56 k).toInt ≤ 500 := (by rw [f215 56 (by omega)]; exact (by rw [f194 56 (by omega)]; exact w89))
    have w233 : ∀ k : Nat, k < 40 → 0 ≤ (σ213 57 k).toInt ∧ (σ213 57 k).toInt ≤ 67 := (by rw [f215 57 (by omega)]; exact (by rw [f194 57 (by omega)]; exact w90))
    have w234 : ∀ k : Nat, k < 40 → (-200) ≤ (σ213 58 k).toInt ∧ (σ213 58 k).toInt ≤ 500 := (by rw [f215 58 (by omega)]; exact (by rw [f194 58 (by omega)]; exact w91))
    have w235 : ∀ k : Nat, k < 40 → (-200) ≤ (σ213 59 k).toInt ∧ (σ213 59 k).toInt ≤ 500 := (by rw [f215 59 (by omega)]; exact (by rw [f194 59 (by omega)]; exact w92))
    have I236 : jI101 σ213 := ⟨(by omega), (by omega), (by omega), w232, w233, w234, w235⟩
    have z237 : (σ213 55 6).toInt = (σ 55 6).toInt := by rw [(show σ213 55 6 = (σ 55 6) from (by rw [f216 6 (by omega)]; exact (by rw [f195 6 (by omega)]; exact (by rw [f83 6 (by omega)]; exact (by rw [f54 6 (by omega)])))))]
    have w238 : ∀ k : Nat, k < 4 → 0 ≤ (σ213 60 k).toInt ∧ (σ213 60 k).toInt ≤ 50 := (by rw [f215 60 (by omega)]; exact (by rw [f194 60 (by omega)]; exact w95))
    have w239 : ∀ k : Nat, k < 4 → 0 ≤ (σ213 61 k).toInt ∧ (σ213 61 k).toInt ≤ 20 := (by rw [f215 61 (by omega)]; exact (by rw [f194 61 (by omega)]; exact w96))
    have I240 : jI102 σ213 := ⟨(by omega), w238, w239⟩
    have z241 : (σ213 55 9).toInt = (σ 55 9).toInt := by rw [(show σ213 55 9 = (σ 55 9) from (by rw [f216 9 (by omega)]; exact (by rw [f195 9 (by omega)]; exact (by rw [f83 9 (by omega)]; exact (by rw [f54 9 (by omega)])))))]
    have I242 : jI103 σ213 := (show 0 ≤ (σ213 55 9).toInt ∧ (σ213 55 9).toInt ≤ 3 by omega)
    have z243 : (σ213 55 10).toInt = (σ 55 10).toInt := by rw [(show σ213 55 10 = (σ 55 10) from (by rw [f216 10 (by omega)]; exact (by rw [f195 10 (by omega)]; exact (by rw [f83 10 (by omega)]; exact (by rw [f54 10 (by omega)])))))]
    have z244 : (σ213 55 12).toInt = (σ 55 12).toInt := by rw [(show σ213 55 12 = (σ 55 12) from (by rw [f216 12 (by omega)]; exact (by rw [f195 12 (by omega)]; exact (by rw [f83 12 (by omega)]; exact (by rw [f54 12 (by omega)])))))]
    have z245 : (σ213 55 13).toInt = (σ 55 13).toInt := by rw [(show σ213 55 13 = (σ 55 13) from (by rw [f216 13 (by omega)]; exact (by rw [f195 13 (by omega)]; exact (by rw [f83 13 (by omega)]; exact (by rw [f54 13 (by omega)])))))]
    have w246 : ∀ k : Nat, k < 8 → 0 ≤ (σ213 62 k).toInt ∧ (σ213 62 k).toInt ≤ 3 := (by rw [f215 62 (by omega)]; exact (by rw [f194 62 (by omega)]; exact (by rw [f82 62 (by omega)]; exact w60)))
    have w247 : ∀ k : Nat, k < 8 → 0 ≤ (σ213 67 k).toInt ∧ (σ213 67 k).toInt ≤ 3 := (by rw [f215 67 (by omega)]; exact (by rw [f194 67 (by omega)]; exact (by rw [f82 67 (by omega)]; exact (by rw [f53 67 (by omega)]; exact w16))))
    have I248 : jI104 σ213 := ⟨(by omega), (by omega), (by omega), w246, w247⟩
    have z249 : (σ213 55 15).toInt = (σ 55 15).toInt := by rw [(show σ213 55 15 = (σ 55 15) from (by rw [f216 15 (by omega)]; exact (by rw [f195 15 (by omega)]; exact (by rw [f83 15 (by omega)]; exact (by rw [f54 15 (by omega)])))))]
    have w250 : ∀ k : Nat, k < 2 → (-1) ≤ (σ213 65 k).toInt ∧ (σ213 65 k).toInt ≤ 80 := (by rw [f215 65 (by omega)]; exact (by rw [f194 65 (by omega)]; exact (by rw [f82 65 (by omega)]; exact w77)))
    have I251 : jI105 σ213 := ⟨(by omega), w250⟩
    have z252 : (σ213 55 32).toInt = (σ 55 32).toInt := by rw [(show σ213 55 32 = (σ 55 32) from (by rw [f216 32 (by omega)]; exact (by rw [f195 32 (by omega)]; exact (by rw [f83 32 (by omega)]; exact (by rw [f54 32 (by omega)])))))]
    have w253 : ∀ k : Nat, k < 20 → 0 ≤ (σ213 70 k).toInt ∧ (σ213 70 k).toInt ≤ 6 := (by rw [f215 70 (by omega)]; exact (by rw [f194 70 (by omega)]; exact (by rw [f82 70 (by omega)]; exact (by rw [f53 70 (by omega)]; exact w20))))
    have w254 : ∀ k : Nat, k < 20 → 0 ≤ (σ213 71 k).toInt ∧ (σ213 71 k).toInt ≤ 8 := (by rw [f215 71 (by omega)]; exact (by rw [f194 71 (by omega)]; exact (by rw [f82 71 (by omega)]; exact (by rw [f53 71 (by omega)]; exact w21))))
    have w255 : ∀ k : Nat, k < 160 → 0 ≤ (σ213 72 k).toInt ∧ (σ213 72 k).toInt ≤ 3 := (by rw [f215 72 (by omega)]; exact (by rw [f194 72 (by omega)]; exact (by rw [f82 72 (by omega)]; exact (by rw [f53 72 (by omega)]; exact w22))))
    have I256 : jI106 σ213 := ⟨(by omega), w253, w254, w255⟩
    have I257 : jI120 σ213 := ⟨(by omega), (by omega), (by omega), (by omega), (by omega), w217⟩
    have p258 : jKept σ213 := jKept.fr (by rw [f215 75 (by omega)]) (by rw [f215 76 (by omega)]) (by rw [f215 77 (by omega)]) p184
    refine jcallV (As := [.int a1]) (rest := []) ⟨hx, hb, hml, hown, hts⟩ hK hP hA hS hZ (c_X12_meanFrom_7 l D cI cL ad zz hJ σ213 τ a1 (A1) t1 I236 I240 I242 I248 I251 I256 I257 p258 (by omega) (by omega)) cw_RX12_324 (jc_55 cI cL ad σ213 τ) rfl ⟨Nat.le_of_ble_eq_true rfl, Nat.le_of_ble_eq_true rfl⟩ rfl rfl rfl hl.1 rfl (Nat.le_of_ble_eq_true rfl) dX12_meanFrom_78 ⟨Nat.zero_le _, Nat.zero_le _⟩ (fun r260 σ259 τ259 H locs h259 hP hS => ?_)
    obtain ⟨rfl, f261, f262, p263, h259⟩ := h259
    refine lv_istore (lv' := [(8, .int r260), (6, .int r214), (7, .int r162), (5, .int x107), (4, .int r81), (3, .int x62), (2, .int r52), (0, .ref (ad 55)), (1, .int a1)]) hx hb dX12_meanFrom_81 hl (by decide) rfl (fun ls hl => ?_)
    refine lv_aload_n hx hb dX12_meanFrom_83 rfl (lv_at hl 7 rfl) ?_
    refine lv_iload_n hx hb dX12_meanFrom_84 rfl (lv_at hl 6 rfl) ?_
    refine lv_iconst (v := 0) hx hb dX12_meanFrom_85 (by decide) ?_
    refine lv_iload hx hb dX12_meanFrom_86 (lv_at hl 1 rfl) ?_
    have w264 : ∀ k : Nat, k < 4 → 0 ≤ (σ259 68 k).toInt ∧ (σ259 68 k).toInt ≤ 3 := (by rw [f261 68 (by omega)]; exact w217)
    have z265 : (σ259 55 25).toInt = (σ213 55 25).toInt := by rw [(show σ259 55 25 = (σ213 55 25) from (by rw [f262 25 (by omega)]))]
    have z266 : (σ259 55 26).toInt = (σ213 55 26).toInt := by rw [(show σ259 55 26 = (σ213 55 26) from (by rw [f262 26 (by omega)]))]
    have z267 : (σ259 55 6).toInt = (σ 55 6).toInt := by rw [(show σ259 55 6 = (σ 55 6) from (by rw [f262 6 (by omega)]; exact (by rw [f216 6 (by omega)]; exact (by rw [f195 6 (by omega)]; exact (by rw [f83 6 (by omega)]; exact (by rw [f54 6 (by omega)]))))))]
    have w268 : ∀ k : Nat, k < 4 → 0 ≤ (σ173 68 k).toInt ∧ (σ173 68 k).toInt ≤ 3 := w204
    have z270 : (σ173 55 27).toInt = (σ 55 27).toInt := by rw [(show σ173 55 27 = (σ 55 27) from (by rw [f195 27 (by omega)]; exact (by rw [f83 27 (by omega)]; exact (by rw [f54 27 (by omega)]))))]
    have k269 := jwas (by omega) (w268 0 (by decide)) (w268 1 (by decide)) (w268 2 (by decide)) (w268 3 (by decide)) k224
    rw [← (show σ259 55 6 = σ173 55 6 from (by rw [f262 6 (by omega), f216 6 (by omega)]))] at k269
    refine jcallVv (As := [.int r52, .int 0, .int r214]) (rest := []) ⟨hx, hb, hml, hown, hts⟩ hK hP hA hS hZ (c_X12_goesBack_0 l D cI cL ad zz hJ σ259 τ r52 (r52.toInt) rfl r214 (r214.toInt) rfl w264 (by omega) (by omega) (by omega) k269) cw_RX12_300 (jc_55 cI cL ad σ259 τ) rfl ⟨Nat.le_of_ble_eq_true rfl, Nat.le_of_ble_eq_true rfl⟩ rfl rfl rfl hl.1 rfl (Nat.le_of_ble_eq_true rfl) dX12_meanFrom_88 ⟨Nat.zero_le _, Nat.zero_le _⟩ (fun σ271 τ271 H locs h271 hP hS => ?_)
    obtain ⟨rfl, f273, f274, w275, w276, w277, h271⟩ := h271
    obtain ⟨k278, k279, k280, k281, h271⟩ := h271
    have p282 : jKept σ271 := jKept.fr (by rw [f273 75 (by omega)]) (by rw [f273 76 (by omega)]) (by rw [f273 77 (by omega)]) p263
    have e283 : σ259 69 = σ213 69 := (by rw [f261 69 (by omega)])
    have e284 : σ271 69 = σ173 69 := jback69 w218 e283 w276
    have e285 : σ259 68 = σ213 68 := (by rw [f261 68 (by omega)])
    have e286 : σ259 55 6 = σ173 55 6 := (by rw [f262 6 (by omega), f216 6 (by omega)])
    have w294 : ∀ k : Nat, k < 4 → 0 ≤ (σ173 68 k).toInt ∧ (σ173 68 k).toInt ≤ 3 := w204
    have w295 : ∀ k : Nat, k < 4 → 0 ≤ (σ271 68 k).toInt ∧ (σ271 68 k).toInt ≤ 3 := w275
    have k296 := k281
    rw [e286] at k296
    have D287 := jdig (w294 0 (by decide)) (w294 1 (by decide)) (w294 2 (by decide)) (w294 3 (by decide)) (w295 0 (by decide)) (w295 1 (by decide)) (w295 2 (by decide)) (w295 3 (by decide)) k224 k296
    have e288 : σ271 55 27 = σ173 55 27 := Int32.toInt_inj.mp (by have h9 := D287.1; omega)
    have z297 : (σ259 55 26).toInt = (σ213 55 26).toInt := by rw [(show σ259 55 26 = (σ213 55 26) from (by rw [f262 26 (by omega)]))]
    have z298 : (σ173 55 26).toInt = (σ 55 26).toInt := by rw [(show σ173 55 26 = (σ 55 26) from (by rw [f195 26 (by omega)]; exact (by rw [f83 26 (by omega)]; exact (by rw [f54 26 (by omega)]))))]
    have z299 : (σ259 55 25).toInt = (σ213 55 25).toInt := by rw [(show σ259 55 25 = (σ213 55 25) from (by rw [f262 25 (by omega)]))]
    have z300 : (σ173 55 25).toInt = (σ 55 25).toInt := by rw [(show σ173 55 25 = (σ 55 25) from (by rw [f195 25 (by omega)]; exact (by rw [f83 25 (by omega)]; exact (by rw [f54 25 (by omega)]))))]
    have e289 : σ271 55 26 = σ173 55 26 := Int32.toInt_inj.mp (by omega)
    have e290 : σ271 55 25 = σ173 55 25 := Int32.toInt_inj.mp (by omega)
    have z301 : (σ173 55 6).toInt = (σ 55 6).toInt := by rw [(show σ173 55 6 = (σ 55 6) from (by rw [f195 6 (by omega)]; exact (by rw [f83 6 (by omega)]; exact (by rw [f54 6 (by omega)]))))]
    have e291 : σ271 68 = σ173 68 := jback68 (nb := (σ173 55 6).toInt) (by omega) w219 e285 (fun k hk => w277 k (by rw [e286]; exact hk)) D287.2
    have f292 : (∀ i : Nat, (i < 55 ∨ 55 < i) ∧ (i < 66 ∨ 66 < i) ∧ (i < 74 ∨ 78 < i) → σ271 i = σ173 i) := fun i hi => by
      by_cases h8 : i = 68
      · rw [h8]; exact e291
      by_cases h9 : i = 69
      · rw [h9]; exact e284
      rw [f273 i (by omega), f261 i (by omega), f215 i (by omega)]
    have f293 : ∀ k : Nat, (k < 18 ∨ 18 < k) ∧ (k < 19 ∨ 19 < k) ∧ (k < 20 ∨ 20 < k) ∧ (k < 21 ∨ 21 < k) ∧ (k < 22 ∨ 22 < k) ∧ (k < 37 ∨ 37 < k) → σ271 55 k = σ173 55 k := fun k hk => by
      by_cases h25 : k = 25
      · rw [h25]; exact e290
      by_cases h26 : k = 26
      · rw [h26]; exact e289
      by_cases h27 : k = 27
      · rw [h27]; exact e288
      rw [f274 k (by omega), f262 k (by omega), f216 k (by omega)]
    clear k296 k281 k224
    refine lv_iload hx hb dX12_meanFrom_91 (lv_at hl 3 rfl) ?_
    refine lv_sipush (v := 1000) hx hb dX12_meanFrom_93 (by decide) ?_
    refine lv_aload_n hx hb dX12_meanFrom_96 rfl (lv_at hl 7 rfl) ?_
    refine va_get (D := D) hx hb hts inlX12 hown hK hP 55 (jc_55 cI cL ad σ271 τ) rfl 13 (by decide) (hts _ kw_15_14) (fun _ h9 => h9) rfl dX12_meanFrom_97 ?_
    have m302 : σ271 55 13 = (σ 55 13) := (by rw [f293 13 (by omega)]; exact (by rw [f195 13 (by omega)]; exact (by rw [f83 13 (by omega)]; exact (by rw [f54 13 (by omega)]))))
    refine jtopr m302 ?_
    have g303 := jrg (rfl : (σ 55 13).toInt = (σ 55 13).toInt)
    refine lv_isub hx hb dX12_meanFrom_100 ?_
    refine lv_topi (fun x304 ex304 => ?_)
    have tx304 : x304.toInt = -(σ 55 13).toInt + 1000 := (jsub ex304 jz_1000 rfl (by omega) (by omega)).trans (by omega)
    refine lv_i2l (v := x304.toInt64) hx hb dX12_meanFrom_101 rfl ?_
    refine lv_iload hx hb dX12_meanFrom_102 (lv_at hl 2 rfl) ?_
    refine lv_iload hx hb dX12_meanFrom_104 (lv_at hl 0 rfl) ?_
    refine lv_iload hx hb dX12_meanFrom_106 (lv_at hl 4 rfl) ?_
    refine jcallS (As := [.int r162, .int r260, .int r81]) (rest := [.long x304.toInt64, .int x107]) ⟨hx, hb, hml, hown, hts⟩ hK hP hA hS hZ (c_X12_mixed l D cI cL ad zz hJ σ271 τ r162 (r162.toInt) rfl r260 (r260.toInt) rfl r81 (r81.toInt) rfl) cw_RX12_304 ⟨Nat.le_of_ble_eq_true rfl, Nat.le_of_ble_eq_true rfl⟩ rfl rfl rfl hl.1 rfl (Nat.le_of_ble_eq_true rfl) dX12_meanFrom_108 ⟨Nat.zero_le _, Nat.zero_le _⟩ (fun r306 σ305 τ305 H locs h305 hP hS => ?_)
    obtain ⟨⟨rfl, rfl⟩, h305⟩ := h305
    refine lv_i2l (v := r306.toInt64) hx hb dX12_meanFrom_111 rfl ?_
    refine lv_lmul hx hb dX12_meanFrom_112 ?_
    refine lv_topl (fun lx307 elx307 => ?_)
    refine lv_ldc2 (v := 1000) hx hb hown (hts _ kw_34_19) dX12_meanFrom_113 ?_
    refine lv_ldiv hx hb dX12_meanFrom_116 (by decide) ?_
    refine lv_topl (fun lx308 elx308 => ?_)
    refine lv_l2i hx hb dX12_meanFrom_117 rfl ?_
    refine lv_topi (fun x309 ex309 => ?_)
    have gx309 := jrg (rfl : x309.toInt = x309.toInt)
    have g310 := jrg (rfl : x309.toInt = x309.toInt)
    refine lv_iadd hx hb dX12_meanFrom_118 ?_
    refine lv_topi (fun x311 ex311 => ?_)
    have gx311 := jrg (rfl : x311.toInt = x311.toInt)
    exact hret x311 σ271 τ _ _ _ _ rfl ⟨rfl, (fun i hi => by rw [f292 i (by omega), f194 i (by omega), f82 i (by omega), f53 i (by omega)]), (fun k hk => by rw [f293 k (by omega), f195 k (by omega), f83 k (by omega), f54 k (by omega)]), p282, trivial⟩ hP hS dX12_meanFrom_119
set_option maxHeartbeats 4000000 in
set_option maxRecDepth 100000 in
theorem c_X12_likelyFrom_0 (l : Launch) (D : va_G) (cI cL : ClassId) (ad zz : Nat → Nat) (hJ : jD ad) (σ : Nat → Nat → Int32) (τ : Nat → Nat → Int64) (a1 : Int32) (A1 : Int) (t1 : a1.toInt = A1) (a2 : Int32) (A2 : Int) (t2 : a2.toInt = A2) (hI101 : jI101 σ) (hI102 : jI102 σ) (hI103 : jI103 σ) (hI104 : jI104 σ) (hI105 : jI105 σ) (hI106 : jI106 σ) (hI120 : jI120 σ) (hs_jKept : jKept σ) (hp0 : 0 ≤ A1 ∧ A1 ≤ 19) (hp1 : (σ 55 12).toInt - (σ 55 26).toInt ≤ 0) : jM l yX12_likelyFrom cX12_likelyFrom 10 (some .int) ({ frames := 3, cells := 0, slots := 0, locals := 63 }) D cI cL ad zz [.ref (ad 55), .int a1, .int a2] σ τ (fun r σ' τ' => τ = τ' ∧ (∀ i : Nat, (i < 55 ∨ 55 < i) ∧ (i < 66 ∨ 66 < i) ∧ (i < 74 ∨ 78 < i) → σ' i = σ i) ∧ (∀ k : Nat, (k < 18 ∨ 18 < k) ∧ (k < 19 ∨ 19 < k) ∧ (k < 20 ∨ 20 < k) ∧ (k < 21 ∨ 21 < k) ∧ (k < 22 ∨ 22 < k) ∧ (k < 37 ∨ 37 < k) → σ' 55 k = σ 55 k) ∧ (jKept σ') ∧ True) := by
  refine jM.of hJ (by decide +kernel) (nt := .int) rfl (Nat.le_of_ble_eq_true rfl) ?_
  intro p e s m args below meth c Q ls hC hret hl hP
  obtain ⟨hx, hb, hr, hml, hown, hts, hK, -, hlocks, hZ⟩ := hC
  have hown : s.vm.findClass RX12 = some m.cls := hown
  have hS : va_S (jA ad) s.heap s.heap [] := va_S.rf
  have hA : ∀ q, jA ad q → jA ad q := fun _ h => h
  have hl : lv_has ls 10 [(0, .ref (ad 55)), (1, .int a1), (2, .int a2)] := hl
  have g1 := jrg t1
  have g2 := jrg t2
  obtain ⟨i1, i2, i3, w4, w5, w6, w7⟩ : (0 ≤ (σ 55 5).toInt) ∧ ((σ 55 5).toInt ≤ (σ 55 4).toInt) ∧ ((σ 55 4).toInt ≤ 40) ∧ (∀ k : Nat, k < 68 → (-200) ≤ (σ 56 k).toInt ∧ (σ 56 k).toInt ≤ 500) ∧ (∀ k : Nat, k < 40 → 0 ≤ (σ 57 k).toInt ∧ (σ 57 k).toInt ≤ 67) ∧ (∀ k : Nat, k < 40 → (-200) ≤ (σ 58 k).toInt ∧ (σ 58 k).toInt ≤ 500) ∧ (∀ k : Nat, k < 40 → (-200) ≤ (σ 59 k).toInt ∧ (σ 59 k).toInt ≤ 500) := id hI101
  obtain ⟨i8, w9, w10⟩ : (0 ≤ (σ 55 6).toInt ∧ (σ 55 6).toInt ≤ 4) ∧ (∀ k : Nat, k < 4 → 0 ≤ (σ 60 k).toInt ∧ (σ 60 k).toInt ≤ 50) ∧ (∀ k : Nat, k < 4 → 0 ≤ (σ 61 k).toInt ∧ (σ 61 k).toInt ≤ 20) := id hI102
  have i11 : 0 ≤ (σ 55 9).toInt ∧ (σ 55 9).toInt ≤ 3 := hI103
  obtain ⟨i12, i13, i14, w15, w16⟩ : (1 ≤ (σ 55 10).toInt ∧ (σ 55 10).toInt ≤ 8) ∧ (1 ≤ (σ 55 12).toInt ∧ (σ 55 12).toInt ≤ 12) ∧ (0 ≤ (σ 55 13).toInt ∧ (σ 55 13).toInt ≤ 999) ∧ (∀ k : Nat, k < 8 → 0 ≤ (σ 62 k).toInt ∧ (σ 62 k).toInt ≤ 3) ∧ (∀ k : Nat, k < 8 → 0 ≤ (σ 67 k).toInt ∧ (σ 67 k).toInt ≤ 3) := id hI104
  obtain ⟨i17, w18⟩ : (0 ≤ (σ 55 15).toInt ∧ (σ 55 15).toInt ≤ 80) ∧ (∀ k : Nat, k < 2 → (-1) ≤ (σ 65 k).toInt ∧ (σ 65 k).toInt ≤ 80) := id hI105
  obtain ⟨i19, w20, w21, w22⟩ : (0 ≤ (σ 55 32).toInt ∧ (σ 55 32).toInt ≤ 20) ∧ (∀ k : Nat, k < 20 → 0 ≤ (σ 70 k).toInt ∧ (σ 70 k).toInt ≤ 6) ∧ (∀ k : Nat, k < 20 → 0 ≤ (σ 71 k).toInt ∧ (σ 71 k).toInt ≤ 8) ∧ (∀ k : Nat, k < 160 → 0 ≤ (σ 72 k).toInt ∧ (σ 72 k).toInt ≤ 3) := id hI106
  obtain ⟨i23, i24, i25, i26, i27, w28⟩ : (0 ≤ (σ 55 25).toInt) ∧ ((σ 55 25).toInt ≤ (σ 55 10).toInt) ∧ (0 ≤ (σ 55 26).toInt) ∧ ((σ 55 26).toInt ≤ (σ 55 12).toInt) ∧ ((-1) ≤ (σ 55 27).toInt ∧ (σ 55 27).toInt ≤ 3) ∧ (∀ k : Nat, k < 4 → 0 ≤ (σ 68 k).toInt ∧ (σ 68 k).toInt ≤ 3) := id hI120
  refine lv_aload_n hx hb dX12_likelyFrom_0 rfl (lv_at hl 0 rfl) ?_
  have I29 : jI102 σ := ⟨(by omega), w9, w10⟩
  have I30 : jI104 σ := ⟨(by omega), (by omega), (by omega), w15, w16⟩
  have I31 : jI120 σ := ⟨(by omega), (by omega), (by omega), (by omega), (by omega), w28⟩
  refine jcallV (As := []) (rest := []) ⟨hx, hb, hml, hown, hts⟩ hK hP hA hS hZ (c_X12_isEnded l D cI cL ad zz hJ σ τ I29 I30 I31) cw_RX12_307 (jc_55 cI cL ad σ τ) rfl ⟨Nat.le_of_ble_eq_true rfl, Nat.le_of_ble_eq_true rfl⟩ rfl rfl rfl hl.1 rfl (Nat.le_of_ble_eq_true rfl) dX12_likelyFrom_1 ⟨Nat.zero_le _, Nat.zero_le _⟩ (fun r33 σ32 τ32 H locs h32 hP hS => ?_)
  obtain ⟨⟨rfl, rfl⟩, h32⟩ := h32
  rcases h32 with h34 | h35
  · obtain ⟨q37, k36⟩ := h34
    have q37 := q37.symm
    subst q37
    refine lv_if_eq (tgt := 19) hx hb dX12_likelyFrom_4 (by decide) (fun c => absurd c (by decide)) (fun _ => ?_)
    refine lv_iload_n hx hb dX12_likelyFrom_7 rfl (lv_at hl 2 rfl) ?_
    refine lv_if_le (tgt := 17) hx hb dX12_likelyFrom_8 (by decide) (fun c38 => ?_) (fun c38 => ?_)
    · have kc38 := jle c38 t2 jz_0
      refine lv_iconst (v := 0) hx hb dX12_likelyFrom_17 (by decide) ?_
      exact hret 0 σ τ _ _ _ _ rfl ⟨rfl, (fun _ _ => rfl), (fun _ _ => rfl), hs_jKept, trivial⟩ hP hS dX12_likelyFrom_18
    · have kc38 := jnle c38 t2 jz_0
      refine lv_ldcw (v := 1000000) hx hb hown (hts _ kw_37_13) dX12_likelyFrom_11 ?_
      refine lv_goto (tgt := 18) hx hb dX12_likelyFrom_14 (by decide) ?_
      exact hret 1000000 σ τ _ _ _ _ rfl ⟨rfl, (fun _ _ => rfl), (fun _ _ => rfl), hs_jKept, trivial⟩ hP hS dX12_likelyFrom_18
  · obtain ⟨q42, k39, k40, k41⟩ := h35
    exact absurd (by omega : False) id
set_option maxHeartbeats 4000000 in
set_option maxRecDepth 100000 in
theorem c_X12_likelyFrom_1 (l : Launch) (D : va_G) (cI cL : ClassId) (ad zz : Nat → Nat) (hJ : jD ad) (σ : Nat → Nat → Int32) (τ : Nat → Nat → Int64) (a1 : Int32) (A1 : Int) (t1 : a1.toInt = A1) (a2 : Int32) (A2 : Int) (t2 : a2.toInt = A2) (hI101 : jI101 σ) (hI102 : jI102 σ) (hI103 : jI103 σ) (hI104 : jI104 σ) (hI105 : jI105 σ) (hI106 : jI106 σ) (hI120 : jI120 σ) (hs_jKept : jKept σ) (hp0 : 0 ≤ A1 ∧ A1 ≤ 19) (hp1 : (σ 55 12).toInt - (σ 55 26).toInt ≤ 1) : jM l yX12_likelyFrom cX12_likelyFrom 10 (some .int) ({ frames := 63, cells := 0, slots := 0, locals := 1513 }) D cI cL ad zz [.ref (ad 55), .int a1, .int a2] σ τ (fun r σ' τ' => τ = τ' ∧ (∀ i : Nat, (i < 55 ∨ 55 < i) ∧ (i < 66 ∨ 66 < i) ∧ (i < 74 ∨ 78 < i) → σ' i = σ i) ∧ (∀ k : Nat, (k < 18 ∨ 18 < k) ∧ (k < 19 ∨ 19 < k) ∧ (k < 20 ∨ 20 < k) ∧ (k < 21 ∨ 21 < k) ∧ (k < 22 ∨ 22 < k) ∧ (k < 37 ∨ 37 < k) → σ' 55 k = σ 55 k) ∧ (jKept σ') ∧ True) := by
  refine jM.of hJ (by decide +kernel) (nt := .int) rfl (Nat.le_of_ble_eq_true rfl) ?_
  intro p e s m args below meth c Q ls hC hret hl hP
  obtain ⟨hx, hb, hr, hml, hown, hts, hK, -, hlocks, hZ⟩ := hC
  have hown : s.vm.findClass RX12 = some m.cls := hown
  have hS : va_S (jA ad) s.heap s.heap [] := va_S.rf
  have hA : ∀ q, jA ad q → jA ad q := fun _ h => h
  have hl : lv_has ls 10 [(0, .ref (ad 55)), (1, .int a1), (2, .int a2)] := hl
  have g1 := jrg t1
  have g2 := jrg t2
  obtain ⟨i1, i2, i3, w4, w5, w6, w7⟩ : (0 ≤ (σ 55 5).toInt) ∧ ((σ 55 5).toInt ≤ (σ 55 4).toInt) ∧ ((σ 55 4).toInt ≤ 40) ∧ (∀ k : Nat, k < 68 → (-200) ≤ (σ 56 k).toInt ∧ (σ 56 k).toInt ≤ 500) ∧ (∀ k : Nat, k < 40 → 0 ≤ (σ 57 k).toInt ∧ (σ 57 k).toInt ≤ 67) ∧ (∀ k : Nat, k < 40 → (-200) ≤ (σ 58 k).toInt ∧ (σ 58 k).toInt ≤ 500) ∧ (∀ k : Nat, k < 40 → (-200) ≤ (σ 59 k).toInt ∧ (σ 59 k).toInt ≤ 500) := id hI101
  obtain ⟨i8, w9, w10⟩ : (0 ≤ (σ 55 6).toInt ∧ (σ 55 6).toInt ≤ 4) ∧ (∀ k : Nat, k < 4 → 0 ≤ (σ 60 k).toInt ∧ (σ 60 k).toInt ≤ 50) ∧ (∀ k : Nat, k < 4 → 0 ≤ (σ 61 k).toInt ∧ (σ 61 k).toInt ≤ 20) := id hI102
  have i11 : 0 ≤ (σ 55 9).toInt ∧ (σ 55 9).toInt ≤ 3 := hI103
  obtain ⟨i12, i13, i14, w15, w16⟩ : (1 ≤ (σ 55 10).toInt ∧ (σ 55 10).toInt ≤ 8) ∧ (1 ≤ (σ 55 12).toInt ∧ (σ 55 12).toInt ≤ 12) ∧ (0 ≤ (σ 55 13).toInt ∧ (σ 55 13).toInt ≤ 999) ∧ (∀ k : Nat, k < 8 → 0 ≤ (σ 62 k).toInt ∧ (σ 62 k).toInt ≤ 3) ∧ (∀ k : Nat, k < 8 → 0 ≤ (σ 67 k).toInt ∧ (σ 67 k).toInt ≤ 3) := id hI104
  obtain ⟨i17, w18⟩ : (0 ≤ (σ 55 15).toInt ∧ (σ 55 15).toInt ≤ 80) ∧ (∀ k : Nat, k < 2 → (-1) ≤ (σ 65 k).toInt ∧ (σ 65 k).toInt ≤ 80) := id hI105
  obtain ⟨i19, w20, w21, w22⟩ : (0 ≤ (σ 55 32).toInt ∧ (σ 55 32).toInt ≤ 20) ∧ (∀ k : Nat, k < 20 → 0 ≤ (σ 70 k).toInt ∧ (σ 70 k).toInt ≤ 6) ∧ (∀ k : Nat, k < 20 → 0 ≤ (σ 71 k).toInt ∧ (σ 71 k).toInt ≤ 8) ∧ (∀ k : Nat, k < 160 → 0 ≤ (σ 72 k).toInt ∧ (σ 72 k).toInt ≤ 3) := id hI106
  obtain ⟨i23, i24, i25, i26, i27, w28⟩ : (0 ≤ (σ 55 25).toInt) ∧ ((σ 55 25).toInt ≤ (σ 55 10).toInt) ∧ (0 ≤ (σ 55 26).toInt) ∧ ((σ 55 26).toInt ≤ (σ 55 12).toInt) ∧ ((-1) ≤ (σ 55 27).toInt ∧ (σ 55 27).toInt ≤ 3) ∧ (∀ k : Nat, k < 4 → 0 ≤ (σ 68 k).toInt ∧ (σ 68 k).toInt ≤ 3) := id hI120
  refine lv_aload_n hx hb dX12_likelyFrom_0 rfl (lv_at hl 0 rfl) ?_
  have I29 : jI102 σ := ⟨(by omega), w9, w10⟩
  have I30 : jI104 σ := ⟨(by omega), (by omega), (by omega), w15, w16⟩
  have I31 : jI120 σ := ⟨(by omega), (by omega), (by omega), (by omega), (by omega), w28⟩
  refine jcallV (As := []) (rest := []) ⟨hx, hb, hml, hown, hts⟩ hK hP hA hS hZ (c_X12_isEnded l D cI cL ad zz hJ σ τ I29 I30 I31) cw_RX12_307 (jc_55 cI cL ad σ τ) rfl ⟨Nat.le_of_ble_eq_true rfl, Nat.le_of_ble_eq_true rfl⟩ rfl rfl rfl hl.1 rfl (Nat.le_of_ble_eq_true rfl) dX12_likelyFrom_1 ⟨Nat.zero_le _, Nat.zero_le _⟩ (fun r33 σ32 τ32 H locs h32 hP hS => ?_)
  obtain ⟨⟨rfl, rfl⟩, h32⟩ := h32
  rcases h32 with h34 | h35
  · obtain ⟨q37, k36⟩ := h34
    have q37 := q37.symm
    subst q37
    refine lv_if_eq (tgt := 19) hx hb dX12_likelyFrom_4 (by decide) (fun c => absurd c (by decide)) (fun _ => ?_)
    refine lv_iload_n hx hb dX12_likelyFrom_7 rfl (lv_at hl 2 rfl) ?_
    refine lv_if_le (tgt := 17) hx hb dX12_likelyFrom_8 (by decide) (fun c38 => ?_) (fun c38 => ?_)
    · have kc38 := jle c38 t2 jz_0
      refine lv_iconst (v := 0) hx hb dX12_likelyFrom_17 (by decide) ?_
      exact hret 0 σ τ _ _ _ _ rfl ⟨rfl, (fun _ _ => rfl), (fun _ _ => rfl), hs_jKept, trivial⟩ hP hS dX12_likelyFrom_18
    · have kc38 := jnle c38 t2 jz_0
      refine lv_ldcw (v := 1000000) hx hb hown (hts _ kw_37_13) dX12_likelyFrom_11 ?_
      refine lv_goto (tgt := 18) hx hb dX12_likelyFrom_14 (by decide) ?_
      exact hret 1000000 σ τ _ _ _ _ rfl ⟨rfl, (fun _ _ => rfl), (fun _ _ => rfl), hs_jKept, trivial⟩ hP hS dX12_likelyFrom_18
  · obtain ⟨q42, k39, k40, k41⟩ := h35
    have q42 := q42.symm
    subst q42
    obtain ⟨B43, k44, k45, w46⟩ := k41
    refine lv_if_eq (tgt := 19) hx hb dX12_likelyFrom_4 (by decide) (fun _ => ?_) (fun c => absurd (by decide) c)
    refine lv_aload_n hx hb dX12_likelyFrom_19 rfl (lv_at hl 0 rfl) ?_
    refine lv_iload_n hx hb dX12_likelyFrom_20 rfl (lv_at hl 1 rfl) ?_
    have p47 : jmb σ B43 = 1 := (jmb_fr rfl rfl rfl rfl rfl B43).trans w46
    have I48 : jI101 σ := ⟨(by omega), (by omega), (by omega), w4, w5, w6, w7⟩
    have I49 : jI103 σ := (show 0 ≤ (σ 55 9).toInt ∧ (σ 55 9).toInt ≤ 3 by omega)
    have I50 : jI105 σ := ⟨(by omega), w18⟩
    have I51 : jI106 σ := ⟨(by omega), w20, w21, w22⟩
    refine jcallV (As := [.int a1]) (rest := []) ⟨hx, hb, hml, hown, hts⟩ hK hP hA hS hZ (c_X12_putsOn l D cI cL ad zz hJ σ τ B43 p47 a1 (A1) t1 I48 I29 I49 I30 I50 I51 I31 hs_jKept (by omega) (by omega) (by omega) (by omega) (by omega)) cw_RX12_321 (jc_55 cI cL ad σ τ) rfl ⟨Nat.le_of_ble_eq_true rfl, Nat.le_of_ble_eq_true rfl⟩ rfl rfl rfl hl.1 rfl (Nat.le_of_ble_eq_true rfl) dX12_likelyFrom_21 ⟨Nat.zero_le _, Nat.zero_le _⟩ (fun r53 σ52 τ52 H locs h52 hP hS => ?_)
    obtain ⟨rfl, f54, f55, p56, h52⟩ := h52
    have h57 := h52
    obtain ⟨q59, k58⟩ := h57
    refine lv_istore_n (lv' := [(3, .int r53), (0, .ref (ad 55)), (1, .int a1), (2, .int a2)]) hx hb dX12_likelyFrom_24 rfl hl (by decide) rfl (fun ls hl => ?_)
    refine lv_aload_n hx hb dX12_likelyFrom_25 rfl (lv_at hl 1 rfl) ?_
    refine va_get (D := D) hx hb hts inlX12 hown hK hP 55 (jc_55 cI cL ad σ52 τ) rfl 11 (by decide) (hts _ kw_7_8) (fun _ h9 => h9) rfl dX12_likelyFrom_26 ?_
    refine lv_aload_n hx hb dX12_likelyFrom_29 rfl (lv_at hl 1 rfl) ?_
    refine va_get (D := D) hx hb hts inlX12 hown hK hP 55 (jc_55 cI cL ad σ52 τ) rfl 25 (by decide) (hts _ kw_23_6) (fun _ h9 => h9) rfl dX12_likelyFrom_30 ?_
    have m60 : σ52 55 25 = (σ 55 25) := (by rw [f55 25 (by omega)])
    refine jtopr m60 ?_
    refine jald hx hb hK hP (jc_62 cI cL ad σ52 τ) (jin rfl (by omega) (by omega)) dX12_likelyFrom_33 ?_
    have w61 : ∀ k : Nat, k < 8 → 0 ≤ (σ52 62 k).toInt ∧ (σ52 62 k).toInt ≤ 3 := (by rw [f54 62 (by omega)]; exact w15)
    have g62 := w61 _ (jnat (x := (σ 55 25)) rfl (n := 8) (by omega) (by decide))
    refine lv_topi (fun x63 ex63 => ?_)
    rw [← ex63] at g62
    refine lv_istore (lv' := [(4, .int x63), (3, .int r53), (0, .ref (ad 55)), (1, .int a1), (2, .int a2)]) hx hb dX12_likelyFrom_34 hl (by decide) rfl (fun ls hl => ?_)
    refine lv_aload_n hx hb dX12_likelyFrom_36 rfl (lv_at hl 2 rfl) ?_
    refine lv_iload_n hx hb dX12_likelyFrom_37 rfl (lv_at hl 1 rfl) ?_
    refine lv_iload hx hb dX12_likelyFrom_38 (lv_at hl 0 rfl) ?_
    have z64 : (σ52 55 5).toInt = (σ 55 5).toInt := by rw [(show σ52 55 5 = (σ 55 5) from (by rw [f55 5 (by omega)]))]
    have z65 : (σ52 55 4).toInt = (σ 55 4).toInt := by rw [(show σ52 55 4 = (σ 55 4) from (by rw [f55 4 (by omega)]))]
    have w66 : ∀ k : Nat, k < 68 → (-200) ≤ (σ52 56 k).toInt ∧ (σ52 56 k).toInt ≤ 500 := (by rw [f54 56 (by omega)]; exact w4)
    have w67 : ∀ k : Nat, k < 40 → 0 ≤ (σ52 57 k).toInt ∧ (σ52 57 k).toInt ≤ 67 := (by rw [f54 57 (by omega)]; exact w5)
    have w68 : ∀ k : Nat, k < 40 → (-200) ≤ (σ52 58 k).toInt ∧ (σ52 58 k).toInt ≤ 500 := (by rw [f54 58 (by omega)]; exact w6)
    have w69 : ∀ k : Nat, k < 40 → (-200) ≤ (σ52 59 k).toInt ∧ (σ52 59 k).toInt ≤ 500 := (by rw [f54 59 (by omega)]; exact w7)
    have I70 : jI101 σ52 := ⟨(by omega), (by omega), (by omega), w66, w67, w68, w69⟩
    have z71 : (σ52 55 6).toInt = (σ 55 6).toInt := by rw [(show σ52 55 6 = (σ 55 6) from (by rw [f55 6 (by omega)]))]
    have w72 : ∀ k : Nat, k < 4 → 0 ≤ (σ52 60 k).toInt ∧ (σ52 60 k).toInt ≤ 50 := (by rw [f54 60 (by omega)]; exact w9)
    have w73 : ∀ k : Nat, k < 4 → 0 ≤ (σ52 61 k).toInt ∧ (σ52 61 k).toInt ≤ 20 := (by rw [f54 61 (by omega)]; exact w10)
    have I74 : jI102 σ52 := ⟨(by omega), w72, w73⟩
    have z75 : (σ52 55 9).toInt = (σ 55 9).toInt := by rw [(show σ52 55 9 = (σ 55 9) from (by rw [f55 9 (by omega)]))]
    have I76 : jI103 σ52 := (show 0 ≤ (σ52 55 9).toInt ∧ (σ52 55 9).toInt ≤ 3 by omega)
    have z77 : (σ52 55 15).toInt = (σ 55 15).toInt := by rw [(show σ52 55 15 = (σ 55 15) from (by rw [f55 15 (by omega)]))]
    have w78 : ∀ k : Nat, k < 2 → (-1) ≤ (σ52 65 k).toInt ∧ (σ52 65 k).toInt ≤ 80 := (by rw [f54 65 (by omega)]; exact w18)
    have I79 : jI105 σ52 := ⟨(by omega), w78⟩
    have w80 : ∀ k : Nat, k < 4 → 0 ≤ (σ52 68 k).toInt ∧ (σ52 68 k).toInt ≤ 3 := (by rw [f54 68 (by omega)]; exact w28)
    refine jcallV (As := [.int r53, .int x63]) (rest := []) ⟨hx, hb, hml, hown, hts⟩ hK hP hA hS hZ (c_X12_outBy l D cI cL ad zz hJ σ52 τ r53 (r53.toInt) rfl x63 (x63.toInt) rfl I70 I74 I76 I79 w80 (by omega) (by omega)) cw_RX12_259 (jc_55 cI cL ad σ52 τ) rfl ⟨Nat.le_of_ble_eq_true rfl, Nat.le_of_ble_eq_true rfl⟩ rfl rfl rfl hl.1 rfl (Nat.le_of_ble_eq_true rfl) dX12_likelyFrom_40 ⟨Nat.zero_le _, Nat.zero_le _⟩ (fun r82 σ81 τ81 H locs h81 hP hS => ?_)
    obtain ⟨rfl, f83, f84, h81⟩ := h81
    have h85 := h81
    obtain ⟨q87, k86⟩ := h85
    refine lv_istore (lv' := [(5, .int r82), (4, .int x63), (3, .int r53), (0, .ref (ad 55)), (1, .int a1), (2, .int a2)]) hx hb dX12_likelyFrom_43 hl (by decide) rfl (fun ls hl => ?_)
    refine lv_iload_n hx hb dX12_likelyFrom_45 rfl (lv_at hl 5 rfl) ?_
    refine lv_aload_n hx hb dX12_likelyFrom_46 rfl (lv_at hl 3 rfl) ?_
    refine lv_iload_n hx hb dX12_likelyFrom_47 rfl (lv_at hl 2 rfl) ?_
    refine lv_iload hx hb dX12_likelyFrom_48 (lv_at hl 1 rfl) ?_
    have z88 : (σ81 55 5).toInt = (σ 55 5).toInt := by rw [(show σ81 55 5 = (σ 55 5) from (by rw [f84 5 (by omega)]; exact (by rw [f55 5 (by omega)])))]
    have z89 : (σ81 55 4).toInt = (σ 55 4).toInt := by rw [(show σ81 55 4 = (σ 55 4) from (by rw [f84 4 (by omega)]; exact (by rw [f55 4 (by omega)])))]
    have w90 : ∀ k : Nat, k < 68 → (-200) ≤ (σ81 56 k).toInt ∧ (σ81 56 k).toInt ≤ 500 := (by rw [f83 56 (by omega)]; exact w66)
    have w91 : ∀ k : Nat, k < 40 → 0 ≤ (σ81 57 k).toInt ∧ (σ81 57 k).toInt ≤ 67 := (by rw [f83 57 (by omega)]; exact w67)
    have w92 : ∀ k : Nat, k < 40 → (-200) ≤ (σ81 58 k).toInt ∧ (σ81 58 k).toInt ≤ 500 := (by rw [f83 58 (by omega)]; exact w68)
    have w93 : ∀ k : Nat, k < 40 → (-200) ≤ (σ81 59 k).toInt ∧ (σ81 59 k).toInt ≤ 500 := (by rw [f83 59 (by omega)]; exact w69)
    have I94 : jI101 σ81 := ⟨(by omega), (by omega), (by omega), w90, w91, w92, w93⟩
    have z95 : (σ81 55 6).toInt = (σ 55 6).toInt := by rw [(show σ81 55 6 = (σ 55 6) from (by rw [f84 6 (by omega)]; exact (by rw [f55 6 (by omega)])))]
    have w96 : ∀ k : Nat, k < 4 → 0 ≤ (σ81 60 k).toInt ∧ (σ81 60 k).toInt ≤ 50 := (by rw [f83 60 (by omega)]; exact w72)
    have w97 : ∀ k : Nat, k < 4 → 0 ≤ (σ81 61 k).toInt ∧ (σ81 61 k).toInt ≤ 20 := (by rw [f83 61 (by omega)]; exact w73)
    have I98 : jI102 σ81 := ⟨(by omega), w96, w97⟩
    have z99 : (σ81 55 9).toInt = (σ 55 9).toInt := by rw [(show σ81 55 9 = (σ 55 9) from (by rw [f84 9 (by omega)]; exact (by rw [f55 9 (by omega)])))]
    have I100 : jI103 σ81 := (show 0 ≤ (σ81 55 9).toInt ∧ (σ81 55 9).toInt ≤ 3 by omega)
    have w101 : ∀ k : Nat, k < 4 → 0 ≤ (σ81 68 k).toInt ∧ (σ81 68 k).toInt ≤ 3 := (by rw [f83 68 (by omega)]; exact w80)
    refine jcallV (As := [.int r53, .int x63]) (rest := [.int a2]) ⟨hx, hb, hml, hown, hts⟩ hK hP hA hS hZ (c_X12_runsBy l D cI cL ad zz hJ σ81 τ r53 (r53.toInt) rfl x63 (x63.toInt) rfl I94 I98 I100 w101 (by omega) (by omega)) cw_RX12_262 (jc_55 cI cL ad σ81 τ) rfl ⟨Nat.le_of_ble_eq_true rfl, Nat.le_of_ble_eq_true rfl⟩ rfl rfl rfl hl.1 rfl (Nat.le_of_ble_eq_true rfl) dX12_likelyFrom_50 ⟨Nat.zero_le _, Nat.zero_le _⟩ (fun r103 σ102 τ102 H locs h102 hP hS => ?_)
    obtain ⟨⟨rfl, rfl⟩, h102⟩ := h102
    have h104 := h102
    obtain ⟨q106, k105⟩ := h104
    have g107 := jrg (rfl : r103.toInt = r103.toInt)
    refine lv_isub hx hb dX12_likelyFrom_53 ?_
    refine lv_topi (fun x108 ex108 => ?_)
    have gx108 := jrg (rfl : x108.toInt = x108.toInt)
    refine lv_istore (lv' := [(6, .int x108), (5, .int r82), (4, .int x63), (3, .int r53), (0, .ref (ad 55)), (1, .int a1), (2, .int a2)]) hx hb dX12_likelyFrom_54 hl (by decide) rfl (fun ls hl => ?_)
    refine lv_aload_n hx hb dX12_likelyFrom_56 rfl (lv_at hl 4 rfl) ?_
    refine lv_iload_n hx hb dX12_likelyFrom_57 rfl (lv_at hl 3 rfl) ?_
    refine lv_iconst (v := 1) hx hb dX12_likelyFrom_58 (by decide) ?_
    have z109 : (σ81 55 27).toInt = (σ 55 27).toInt := by rw [(show σ81 55 27 = (σ 55 27) from (by rw [f84 27 (by omega)]; exact (by rw [f55 27 (by omega)])))]
    have z110 : (σ81 55 25).toInt = (σ 55 25).toInt := by rw [(show σ81 55 25 = (σ 55 25) from (by rw [f84 25 (by omega)]; exact m60))]
    have z111 : (σ81 55 26).toInt = (σ 55 26).toInt := by rw [(show σ81 55 26 = (σ 55 26) from (by rw [f84 26 (by omega)]; exact (by rw [f55 26 (by omega)])))]
    have z112 : (σ81 68 0).toInt = (σ 68 0).toInt := by rw [(show σ81 68 0 = (σ 68 0) from (by rw [f83 68 (by omega)]; exact (by rw [f54 68 (by omega)])))]
    have z113 : (σ81 68 1).toInt = (σ 68 1).toInt := by rw [(show σ81 68 1 = (σ 68 1) from (by rw [f83 68 (by omega)]; exact (by rw [f54 68 (by omega)])))]
    have z114 : (σ81 68 2).toInt = (σ 68 2).toInt := by rw [(show σ81 68 2 = (σ 68 2) from (by rw [f83 68 (by omega)]; exact (by rw [f54 68 (by omega)])))]
    have z115 : (σ81 68 3).toInt = (σ 68 3).toInt := by rw [(show σ81 68 3 = (σ 68 3) from (by rw [f83 68 (by omega)]; exact (by rw [f54 68 (by omega)])))]
    refine jcallV (As := [.int r53, .int 1]) (rest := []) ⟨hx, hb, hml, hown, hts⟩ hK hP hA hS hZ (c_X12_goes_1 l D cI cL ad zz hJ σ81 τ r53 (r53.toInt) rfl w101 (by omega) (by omega) (by omega) (by omega) (by omega)) cw_RX12_296 (jc_55 cI cL ad σ81 τ) rfl ⟨Nat.le_of_ble_eq_true rfl, Nat.le_of_ble_eq_true rfl⟩ rfl rfl rfl hl.1 rfl (Nat.le_of_ble_eq_true rfl) dX12_likelyFrom_59 ⟨Nat.zero_le _, Nat.zero_le _⟩ (fun r117 σ116 τ116 H locs h116 hP hS => ?_)
    obtain ⟨rfl, f118, f119, w120, w121, w122, h116⟩ := h116
    obtain ⟨k123, k124, k125, h116⟩ := h116
    have h126 := h116
    obtain ⟨q132, k127, k128, k129, k130, k131⟩ := h126
    refine lv_istore (lv' := [(7, .int r117), (6, .int x108), (5, .int r82), (4, .int x63), (3, .int r53), (0, .ref (ad 55)), (1, .int a1), (2, .int a2)]) hx hb dX12_likelyFrom_62 hl (by decide) rfl (fun ls hl => ?_)
    refine lv_aload_n hx hb dX12_likelyFrom_64 rfl (lv_at hl 5 rfl) ?_
    refine lv_iload_n hx hb dX12_likelyFrom_65 rfl (lv_at hl 6 rfl) ?_
    refine lv_iload hx hb dX12_likelyFrom_66 (lv_at hl 1 rfl) ?_
    have z133 : (σ116 55 5).toInt = (σ 55 5).toInt := by rw [(show σ116 55 5 = (σ 55 5) from (by rw [f119 5 (by omega)]; exact (by rw [f84 5 (by omega)]; exact (by rw [f55 5 (by omega)]))))]
    have z134 : (σ116 55 4).toInt = (σ 55 4).toInt := by rw [(show σ116 55 4 = (σ 55 4) from (by rw [f119 4 (by omega)]; exact (by rw [f84 4 (by omega)]; exact (by rw [f55 4 (by omega)]))))]
    have w135 : ∀ k : Nat, k < 68 → (-200) ≤ (σ116 56 k).toInt ∧ (σ116 56 k).toInt ≤ 500 := (by rw [f118 56 (by omega)]; exact w90)
    have w136 : ∀ k : Nat, k < 40 → 0 ≤ (σ116 57 k).toInt ∧ (σ116 57 k).toInt ≤ 67 := (by rw [f118 57 (by omega)]; exact w91)
    have w137 : ∀ k : Nat, k < 40 → (-200) ≤ (σ116 58 k).toInt ∧ (σ116 58 k).toInt ≤ 500 := (by rw [f118 58 (by omega)]; exact w92)
    have w138 : ∀ k : Nat, k < 40 → (-200) ≤ (σ116 59 k).toInt ∧ (σ116 59 k).toInt ≤ 500 := (by rw [f118 59 (by omega)]; exact w93)
    have I139 : jI101 σ116 := ⟨(by omega), (by omega), (by omega), w135, w136, w137, w138⟩
    have z140 : (σ116 55 6).toInt = (σ 55 6).toInt := by rw [(show σ116 55 6 = (σ 55 6) from (by rw [f119 6 (by omega)]; exact (by rw [f84 6 (by omega)]; exact (by rw [f55 6 (by omega)]))))]
    have w141 : ∀ k : Nat, k < 4 → 0 ≤ (σ116 60 k).toInt ∧ (σ116 60 k).toInt ≤ 50 := (by rw [f118 60 (by omega)]; exact w96)
    have w142 : ∀ k : Nat, k < 4 → 0 ≤ (σ116 61 k).toInt ∧ (σ116 61 k).toInt ≤ 20 := (by rw [f118 61 (by omega)]; exact w97)
    have I143 : jI102 σ116 := ⟨(by omega), w141, w142⟩
    have z144 : (σ116 55 9).toInt = (σ 55 9).toInt := by rw [(show σ116 55 9 = (σ 55 9) from (by rw [f119 9 (by omega)]; exact (by rw [f84 9 (by omega)]; exact (by rw [f55 9 (by omega)]))))]
    have I145 : jI103 σ116 := (show 0 ≤ (σ116 55 9).toInt ∧ (σ116 55 9).toInt ≤ 3 by omega)
    have z146 : (σ116 55 10).toInt = (σ 55 10).toInt := by rw [(show σ116 55 10 = (σ 55 10) from (by rw [f119 10 (by omega)]; exact (by rw [f84 10 (by omega)]; exact (by rw [f55 10 (by omega)]))))]
    have z147 : (σ116 55 12).toInt = (σ 55 12).toInt := by rw [(show σ116 55 12 = (σ 55 12) from (by rw [f119 12 (by omega)]; exact (by rw [f84 12 (by omega)]; exact (by rw [f55 12 (by omega)]))))]
    have z148 : (σ116 55 13).toInt = (σ 55 13).toInt := by rw [(show σ116 55 13 = (σ 55 13) from (by rw [f119 13 (by omega)]; exact (by rw [f84 13 (by omega)]; exact (by rw [f55 13 (by omega)]))))]
    have w149 : ∀ k : Nat, k < 8 → 0 ≤ (σ116 62 k).toInt ∧ (σ116 62 k).toInt ≤ 3 := (by rw [f118 62 (by omega)]; exact (by rw [f83 62 (by omega)]; exact w61))
    have w150 : ∀ k : Nat, k < 8 → 0 ≤ (σ116 67 k).toInt ∧ (σ116 67 k).toInt ≤ 3 := (by rw [f118 67 (by omega)]; exact (by rw [f83 67 (by omega)]; exact (by rw [f54 67 (by omega)]; exact w16)))
    have I151 : jI104 σ116 := ⟨(by omega), (by omega), (by omega), w149, w150⟩
    have z152 : (σ116 55 15).toInt = (σ 55 15).toInt := by rw [(show σ116 55 15 = (σ 55 15) from (by rw [f119 15 (by omega)]; exact (by rw [f84 15 (by omega)]; exact (by rw [f55 15 (by omega)]))))]
    have w153 : ∀ k : Nat, k < 2 → (-1) ≤ (σ116 65 k).toInt ∧ (σ116 65 k).toInt ≤ 80 := (by rw [f118 65 (by omega)]; exact (by rw [f83 65 (by omega)]; exact w78))
    have I154 : jI105 σ116 := ⟨(by omega), w153⟩
    have z155 : (σ116 55 32).toInt = (σ 55 32).toInt := by rw [(show σ116 55 32 = (σ 55 32) from (by rw [f119 32 (by omega)]; exact (by rw [f84 32 (by omega)]; exact (by rw [f55 32 (by omega)]))))]
    have w156 : ∀ k : Nat, k < 20 → 0 ≤ (σ116 70 k).toInt ∧ (σ116 70 k).toInt ≤ 6 := (by rw [f118 70 (by omega)]; exact (by rw [f83 70 (by omega)]; exact (by rw [f54 70 (by omega)]; exact w20)))
    have w157 : ∀ k : Nat, k < 20 → 0 ≤ (σ116 71 k).toInt ∧ (σ116 71 k).toInt ≤ 8 := (by rw [f118 71 (by omega)]; exact (by rw [f83 71 (by omega)]; exact (by rw [f54 71 (by omega)]; exact w21)))
    have w158 : ∀ k : Nat, k < 160 → 0 ≤ (σ116 72 k).toInt ∧ (σ116 72 k).toInt ≤ 3 := (by rw [f118 72 (by omega)]; exact (by rw [f83 72 (by omega)]; exact (by rw [f54 72 (by omega)]; exact w22)))
    have I159 : jI106 σ116 := ⟨(by omega), w156, w157, w158⟩
    have I160 : jI120 σ116 := ⟨(by omega), (by omega), (by omega), (by omega), (by omega), w120⟩
    have p161 : jKept σ116 := jKept.fr (by rw [f118 75 (by omega), f83 75 (by omega)]) (by rw [f118 76 (by omega), f83 76 (by omega)]) (by rw [f118 77 (by omega), f83 77 (by omega)]) p56
    refine jcallV (As := [.int a1, .int x108]) (rest := []) ⟨hx, hb, hml, hown, hts⟩ hK hP hA hS hZ (c_X12_likelyFrom_0 l D cI cL ad zz hJ σ116 τ a1 (A1) t1 x108 (x108.toInt) rfl I139 I143 I145 I151 I154 I159 I160 p161 (by omega) (by omega)) cw_RX12_328 (jc_55 cI cL ad σ116 τ) rfl ⟨Nat.le_of_ble_eq_true rfl, Nat.le_of_ble_eq_true rfl⟩ rfl rfl rfl hl.1 rfl (Nat.le_of_ble_eq_true rfl) dX12_likelyFrom_68 ⟨Nat.zero_le _, Nat.zero_le _⟩ (fun r163 σ162 τ162 H locs h162 hP hS => ?_)
    obtain ⟨rfl, f164, f165, p166, h162⟩ := h162
    refine lv_istore (lv' := [(8, .int r163), (7, .int r117), (6, .int x108), (5, .int r82), (4, .int x63), (3, .int r53), (0, .ref (ad 55)), (1, .int a1), (2, .int a2)]) hx hb dX12_likelyFrom_71 hl (by decide) rfl (fun ls hl => ?_)
    refine lv_aload_n hx hb dX12_likelyFrom_73 rfl (lv_at hl 6 rfl) ?_
    refine lv_iload_n hx hb dX12_likelyFrom_74 rfl (lv_at hl 5 rfl) ?_
    refine lv_iconst (v := 1) hx hb dX12_likelyFrom_75 (by decide) ?_
    refine lv_iload hx hb dX12_likelyFrom_76 (lv_at hl 1 rfl) ?_
    have w167 : ∀ k : Nat, k < 4 → 0 ≤ (σ162 68 k).toInt ∧ (σ162 68 k).toInt ≤ 3 := (by rw [f164 68 (by omega)]; exact w120)
    have z168 : (σ162 55 25).toInt = (σ116 55 25).toInt := by rw [(show σ162 55 25 = (σ116 55 25) from (by rw [f165 25 (by omega)]))]
    have z169 : (σ162 55 26).toInt = (σ116 55 26).toInt := by rw [(show σ162 55 26 = (σ116 55 26) from (by rw [f165 26 (by omega)]))]
    have z170 : (σ162 55 6).toInt = (σ 55 6).toInt := by rw [(show σ162 55 6 = (σ 55 6) from (by rw [f165 6 (by omega)]; exact (by rw [f119 6 (by omega)]; exact (by rw [f84 6 (by omega)]; exact (by rw [f55 6 (by omega)])))))]
    have w171 : ∀ k : Nat, k < 4 → 0 ≤ (σ81 68 k).toInt ∧ (σ81 68 k).toInt ≤ 3 := w101
    have z173 : (σ81 55 27).toInt = (σ 55 27).toInt := by rw [(show σ81 55 27 = (σ 55 27) from (by rw [f84 27 (by omega)]; exact (by rw [f55 27 (by omega)])))]
    have k172 := jwas (by omega) (w171 0 (by decide)) (w171 1 (by decide)) (w171 2 (by decide)) (w171 3 (by decide)) k127
    rw [← (show σ162 55 6 = σ81 55 6 from (by rw [f165 6 (by omega), f119 6 (by omega)]))] at k172
    refine jcallVv (As := [.int r53, .int 1, .int r117]) (rest := []) ⟨hx, hb, hml, hown, hts⟩ hK hP hA hS hZ (c_X12_goesBack_1 l D cI cL ad zz hJ σ162 τ r53 (r53.toInt) rfl r117 (r117.toInt) rfl w167 (by omega) (by omega) (by omega) k172) cw_RX12_300 (jc_55 cI cL ad σ162 τ) rfl ⟨Nat.le_of_ble_eq_true rfl, Nat.le_of_ble_eq_true rfl⟩ rfl rfl rfl hl.1 rfl (Nat.le_of_ble_eq_true rfl) dX12_likelyFrom_78 ⟨Nat.zero_le _, Nat.zero_le _⟩ (fun σ174 τ174 H locs h174 hP hS => ?_)
    obtain ⟨rfl, f176, f177, w178, w179, w180, h174⟩ := h174
    obtain ⟨k181, k182, k183, k184, h174⟩ := h174
    have p185 : jKept σ174 := jKept.fr (by rw [f176 75 (by omega)]) (by rw [f176 76 (by omega)]) (by rw [f176 77 (by omega)]) p166
    have e186 : σ162 69 = σ116 69 := (by rw [f164 69 (by omega)])
    have e187 : σ174 69 = σ81 69 := jback69 w121 e186 w179
    have e188 : σ162 68 = σ116 68 := (by rw [f164 68 (by omega)])
    have e189 : σ162 55 6 = σ81 55 6 := (by rw [f165 6 (by omega), f119 6 (by omega)])
    have w197 : ∀ k : Nat, k < 4 → 0 ≤ (σ81 68 k).toInt ∧ (σ81 68 k).toInt ≤ 3 := w101
    have w198 : ∀ k : Nat, k < 4 → 0 ≤ (σ174 68 k).toInt ∧ (σ174 68 k).toInt ≤ 3 := w178
    have k199 := k184
    rw [e189] at k199
    have D190 := jdig (w197 0 (by decide)) (w197 1 (by decide)) (w197 2 (by decide)) (w197 3 (by decide)) (w198 0 (by decide)) (w198 1 (by decide)) (w198 2 (by decide)) (w198 3 (by decide)) k127 k199
    have e191 : σ174 55 27 = σ81 55 27 := Int32.toInt_inj.mp (by have h9 := D190.1; omega)
    have z200 : (σ162 55 26).toInt = (σ116 55 26).toInt := by rw [(show σ162 55 26 = (σ116 55 26) from (by rw [f165 26 (by omega)]))]
    have z201 : (σ81 55 26).toInt = (σ 55 26).toInt := by rw [(show σ81 55 26 = (σ 55 26) from (by rw [f84 26 (by omega)]; exact (by rw [f55 26 (by omega)])))]
    have z202 : (σ162 55 25).toInt = (σ116 55 25).toInt := by rw [(show σ162 55 25 = (σ116 55 25) from (by rw [f165 25 (by omega)]))]
    have z203 : (σ81 55 25).toInt = (σ 55 25).toInt := by rw [(show σ81 55 25 = (σ 55 25) from (by rw [f84 25 (by omega)]; exact (by rw [f55 25 (by omega)])))]
    have e192 : σ174 55 26 = σ81 55 26 := Int32.toInt_inj.mp (by omega)
    have e193 : σ174 55 25 = σ81 55 25 := Int32.toInt_inj.mp (by omega)
    have z204 : (σ81 55 6).toInt = (σ 55 6).toInt := by rw [(show σ81 55 6 = (σ 55 6) from (by rw [f84 6 (by omega)]; exact (by rw [f55 6 (by omega)])))]
    have e194 : σ174 68 = σ81 68 := jback68 (nb := (σ81 55 6).toInt) (by omega) w122 e188 (fun k hk => w180 k (by rw [e189]; exact hk)) D190.2
    have f195 : (∀ i : Nat, (i < 55 ∨ 55 < i) ∧ (i < 66 ∨ 66 < i) ∧ (i < 74 ∨ 78 < i) → σ174 i = σ81 i) := fun i hi => by
      by_cases h8 : i = 68
      · rw [h8]; exact e194
      by_cases h9 : i = 69
      · rw [h9]; exact e187
      rw [f176 i (by omega), f164 i (by omega), f118 i (by omega)]
    have f196 : ∀ k : Nat, (k < 18 ∨ 18 < k) ∧ (k < 19 ∨ 19 < k) ∧ (k < 20 ∨ 20 < k) ∧ (k < 21 ∨ 21 < k) ∧ (k < 22 ∨ 22 < k) ∧ (k < 37 ∨ 37 < k) → σ174 55 k = σ81 55 k := fun k hk => by
      by_cases h25 : k = 25
      · rw [h25]; exact e193
      by_cases h26 : k = 26
      · rw [h26]; exact e192
      by_cases h27 : k = 27
      · rw [h27]; exact e191
      rw [f177 k (by omega), f165 k (by omega), f119 k (by omega)]
    clear k199 k184 k127
    refine lv_aload_n hx hb dX12_likelyFrom_81 rfl (lv_at hl 6 rfl) ?_
    refine lv_iload_n hx hb dX12_likelyFrom_82 rfl (lv_at hl 5 rfl) ?_
    refine lv_iconst (v := 0) hx hb dX12_likelyFrom_83 (by decide) ?_
    have w205 : ∀ k : Nat, k < 4 → 0 ≤ (σ174 68 k).toInt ∧ (σ174 68 k).toInt ≤ 3 := (by rw [f195 68 (by omega)]; exact w101)
    have z206 : (σ174 55 6).toInt = (σ 55 6).toInt := by rw [(show σ174 55 6 = (σ 55 6) from (by rw [f196 6 (by omega)]; exact (by rw [f84 6 (by omega)]; exact (by rw [f55 6 (by omega)]))))]
    have z207 : (σ174 55 27).toInt = (σ 55 27).toInt := by rw [(show σ174 55 27 = (σ 55 27) from (by rw [f196 27 (by omega)]; exact (by rw [f84 27 (by omega)]; exact (by rw [f55 27 (by omega)]))))]
    have z208 : (σ174 55 25).toInt = (σ 55 25).toInt := by rw [(show σ174 55 25 = (σ 55 25) from (by rw [f196 25 (by omega)]; exact (by rw [f84 25 (by omega)]; exact m60)))]
    have z209 : (σ174 55 26).toInt = (σ 55 26).toInt := by rw [(show σ174 55 26 = (σ 55 26) from (by rw [f196 26 (by omega)]; exact (by rw [f84 26 (by omega)]; exact (by rw [f55 26 (by omega)]))))]
    have z210 : (σ174 68 0).toInt = (σ 68 0).toInt := by rw [(show σ174 68 0 = (σ 68 0) from (by rw [f195 68 (by omega)]; exact (by rw [f83 68 (by omega)]; exact (by rw [f54 68 (by omega)]))))]
    have z211 : (σ174 68 1).toInt = (σ 68 1).toInt := by rw [(show σ174 68 1 = (σ 68 1) from (by rw [f195 68 (by omega)]; exact (by rw [f83 68 (by omega)]; exact (by rw [f54 68 (by omega)]))))]
    have z212 : (σ174 68 2).toInt = (σ 68 2).toInt := by rw [(show σ174 68 2 = (σ 68 2) from (by rw [f195 68 (by omega)]; exact (by rw [f83 68 (by omega)]; exact (by rw [f54 68 (by omega)]))))]
    have z213 : (σ174 68 3).toInt = (σ 68 3).toInt := by rw [(show σ174 68 3 = (σ 68 3) from (by rw [f195 68 (by omega)]; exact (by rw [f83 68 (by omega)]; exact (by rw [f54 68 (by omega)]))))]
    refine jcallV (As := [.int r53, .int 0]) (rest := []) ⟨hx, hb, hml, hown, hts⟩ hK hP hA hS hZ (c_X12_goes_0 l D cI cL ad zz hJ σ174 τ r53 (r53.toInt) rfl w205 (by omega) (by omega) (by omega) (by omega) (by omega)) cw_RX12_296 (jc_55 cI cL ad σ174 τ) rfl ⟨Nat.le_of_ble_eq_true rfl, Nat.le_of_ble_eq_true rfl⟩ rfl rfl rfl hl.1 rfl (Nat.le_of_ble_eq_true rfl) dX12_likelyFrom_84 ⟨Nat.zero_le _, Nat.zero_le _⟩ (fun r215 σ214 τ214 H locs h214 hP hS => ?_)
    obtain ⟨rfl, f216, f217, w218, w219, w220, h214⟩ := h214
    obtain ⟨k221, k222, k223, h214⟩ := h214
    have h224 := h214
    obtain ⟨q230, k225, k226, k227, k228, k229⟩ := h224
    refine lv_istore (lv' := [(7, .int r215), (8, .int r163), (6, .int x108), (5, .int r82), (4, .int x63), (3, .int r53), (0, .ref (ad 55)), (1, .int a1), (2, .int a2)]) hx hb dX12_likelyFrom_87 hl (by decide) rfl (fun ls hl => ?_)
    refine lv_aload_n hx hb dX12_likelyFrom_89 rfl (lv_at hl 6 rfl) ?_
    refine lv_iload_n hx hb dX12_likelyFrom_90 rfl (lv_at hl 7 rfl) ?_
    refine lv_iload hx hb dX12_likelyFrom_91 (lv_at hl 2 rfl) ?_
    have z231 : (σ214 55 5).toInt = (σ 55 5).toInt := by rw [(show σ214 55 5 = (σ 55 5) from (by rw [f217 5 (by omega)]; exact (by rw [f196 5 (by omega)]; exact (by rw [f84 5 (by omega)]; exact (by rw [f55 5 (by omega)])))))]
    have z232 : (σ214 55 4).toInt = (σ 55 4).toInt := by rw [(show σ214 55 4 = (σ 55 4) from (by rw [f217 4 (by omega)]; exact (by rw [f196 4 (by omega)]; exact (by rw [f84 4 (by omega)]; exact (by rw [f55 4 (by omega)])))))]
    have w233 : ∀ k : Nat, k < 68 → (-200) ≤ (σ214 56 k).toInt ∧ (σ214 56 k).toInt ≤ 500 := (by rw [f216 56 (by omega)]; exact (by rw [f195 56 (by omega)]; exact w90))
    have w234 : ∀ k : Nat, k < 40 → 0 ≤ (σ214 57 k).toInt ∧ (σ214 57 k).toInt ≤ 67 := (by rw [f216 57 (by omega)]; exact (by rw [f195 57 (by omega)]; exact w91))
    have w235 : ∀ k : Nat, k < 40 → (-200) ≤ (σ214 58 k).toInt ∧ (σ214 58 k).toInt ≤ 500 := (by rw [f216 58 (by omega)]; exact (by rw [f195 58 (by omega)]; exact w92))
    have w236 : ∀ k : Nat, k < 40 → (-200) ≤ (σ214 59 k).toInt ∧ (σ214 59 k).toInt ≤ 500 := (by rw [f216 59 (by omega)]; exact (by rw [f195 59 (by omega)]; exact w93))
    have I237 : jI101 σ214 := ⟨(by omega), (by omega), (by omega), w233, w234, w235, w236⟩
    have z238 : (σ214 55 6).toInt = (σ 55 6).toInt := by rw [(show σ214 55 6 = (σ 55 6) from (by rw [f217 6 (by omega)]; exact (by rw [f196 6 (by omega)]; exact (by rw [f84 6 (by omega)]; exact (by rw [f55 6 (by omega)])))))]
    have w239 : ∀ k : Nat, k < 4 → 0 ≤ (σ214 60 k).toInt ∧ (σ214 60 k).toInt ≤ 50 := (by rw [f216 60 (by omega)]; exact (by rw [f195 60 (by omega)]; exact w96))
    have w240 : ∀ k : Nat, k < 4 → 0 ≤ (σ214 61 k).toInt ∧ (σ214 61 k).toInt ≤ 20 := (by rw [f216 61 (by omega)]; exact (by rw [f195 61 (by omega)]; exact w97))
    have I241 : jI102 σ214 := ⟨(by omega), w239, w240⟩
    have z242 : (σ214 55 9).toInt = (σ 55 9).toInt := by rw [(show σ214 55 9 = (σ 55 9) from (by rw [f217 9 (by omega)]; exact (by rw [f196 9 (by omega)]; exact (by rw [f84 9 (by omega)]; exact (by rw [f55 9 (by omega)])))))]
    have I243 : jI103 σ214 := (show 0 ≤ (σ214 55 9).toInt ∧ (σ214 55 9).toInt ≤ 3 by omega)
    have z244 : (σ214 55 10).toInt = (σ 55 10).toInt := by rw [(show σ214 55 10 = (σ 55 10) from (by rw [f217 10 (by omega)]; exact (by rw [f196 10 (by omega)]; exact (by rw [f84 10 (by omega)]; exact (by rw [f55 10 (by omega)])))))]
    have z245 : (σ214 55 12).toInt = (σ 55 12).toInt := by rw [(show σ214 55 12 = (σ 55 12) from (by rw [f217 12 (by omega)]; exact (by rw [f196 12 (by omega)]; exact (by rw [f84 12 (by omega)]; exact (by rw [f55 12 (by omega)])))))]
    have z246 : (σ214 55 13).toInt = (σ 55 13).toInt := by rw [(show σ214 55 13 = (σ 55 13) from (by rw [f217 13 (by omega)]; exact (by rw [f196 13 (by omega)]; exact (by rw [f84 13 (by omega)]; exact (by rw [f55 13 (by omega)])))))]
    have w247 : ∀ k : Nat, k < 8 → 0 ≤ (σ214 62 k).toInt ∧ (σ214 62 k).toInt ≤ 3 := (by rw [f216 62 (by omega)]; exact (by rw [f195 62 (by omega)]; exact (by rw [f83 62 (by omega)]; exact w61)))
    have w248 : ∀ k : Nat, k < 8 → 0 ≤ (σ214 67 k).toInt ∧ (σ214 67 k).toInt ≤ 3 := (by rw [f216 67 (by omega)]; exact (by rw [f195 67 (by omega)]; exact (by rw [f83 67 (by omega)]; exact (by rw [f54 67 (by omega)]; exact w16))))
    have I249 : jI104 σ214 := ⟨(by omega), (by omega), (by omega), w247, w248⟩
    have z250 : (σ214 55 15).toInt = (σ 55 15).toInt := by rw [(show σ214 55 15 = (σ 55 15) from (by rw [f217 15 (by omega)]; exact (by rw [f196 15 (by omega)]; exact (by rw [f84 15 (by omega)]; exact (by rw [f55 15 (by omega)])))))]
    have w251 : ∀ k : Nat, k < 2 → (-1) ≤ (σ214 65 k).toInt ∧ (σ214 65 k).toInt ≤ 80 := (by rw [f216 65 (by omega)]; exact (by rw [f195 65 (by omega)]; exact (by rw [f83 65 (by omega)]; exact w78)))
    have I252 : jI105 σ214 := ⟨(by omega), w251⟩
    have z253 : (σ214 55 32).toInt = (σ 55 32).toInt := by rw [(show σ214 55 32 = (σ 55 32) from (by rw [f217 32 (by omega)]; exact (by rw [f196 32 (by omega)]; exact (by rw [f84 32 (by omega)]; exact (by rw [f55 32 (by omega)])))))]
    have w254 : ∀ k : Nat, k < 20 → 0 ≤ (σ214 70 k).toInt ∧ (σ214 70 k).toInt ≤ 6 := (by rw [f216 70 (by omega)]; exact (by rw [f195 70 (by omega)]; exact (by rw [f83 70 (by omega)]; exact (by rw [f54 70 (by omega)]; exact w20))))
    have w255 : ∀ k : Nat, k < 20 → 0 ≤ (σ214 71 k).toInt ∧ (σ214 71 k).toInt ≤ 8 := (by rw [f216 71 (by omega)]; exact (by rw [f195 71 (by omega)]; exact (by rw [f83 71 (by omega)]; exact (by rw [f54 71 (by omega)]; exact w21))))
    have w256 : ∀ k : Nat, k < 160 → 0 ≤ (σ214 72 k).toInt ∧ (σ214 72 k).toInt ≤ 3 := (by rw [f216 72 (by omega)]; exact (by rw [f195 72 (by omega)]; exact (by rw [f83 72 (by omega)]; exact (by rw [f54 72 (by omega)]; exact w22))))
    have I257 : jI106 σ214 := ⟨(by omega), w254, w255, w256⟩
    have I258 : jI120 σ214 := ⟨(by omega), (by omega), (by omega), (by omega), (by omega), w218⟩
    have p259 : jKept σ214 := jKept.fr (by rw [f216 75 (by omega)]) (by rw [f216 76 (by omega)]) (by rw [f216 77 (by omega)]) p185
    refine jcallV (As := [.int a1, .int x108]) (rest := []) ⟨hx, hb, hml, hown, hts⟩ hK hP hA hS hZ (c_X12_likelyFrom_0 l D cI cL ad zz hJ σ214 τ a1 (A1) t1 x108 (x108.toInt) rfl I237 I241 I243 I249 I252 I257 I258 p259 (by omega) (by omega)) cw_RX12_328 (jc_55 cI cL ad σ214 τ) rfl ⟨Nat.le_of_ble_eq_true rfl, Nat.le_of_ble_eq_true rfl⟩ rfl rfl rfl hl.1 rfl (Nat.le_of_ble_eq_true rfl) dX12_likelyFrom_93 ⟨Nat.zero_le _, Nat.zero_le _⟩ (fun r261 σ260 τ260 H locs h260 hP hS => ?_)
    obtain ⟨rfl, f262, f263, p264, h260⟩ := h260
    refine lv_istore (lv' := [(9, .int r261), (7, .int r215), (8, .int r163), (6, .int x108), (5, .int r82), (4, .int x63), (3, .int r53), (0, .ref (ad 55)), (1, .int a1), (2, .int a2)]) hx hb dX12_likelyFrom_96 hl (by decide) rfl (fun ls hl => ?_)
    refine lv_aload_n hx hb dX12_likelyFrom_98 rfl (lv_at hl 7 rfl) ?_
    refine lv_iload_n hx hb dX12_likelyFrom_99 rfl (lv_at hl 6 rfl) ?_
    refine lv_iconst (v := 0) hx hb dX12_likelyFrom_100 (by decide) ?_
    refine lv_iload hx hb dX12_likelyFrom_101 (lv_at hl 1 rfl) ?_
    have w265 : ∀ k : Nat, k < 4 → 0 ≤ (σ260 68 k).toInt ∧ (σ260 68 k).toInt ≤ 3 := (by rw [f262 68 (by omega)]; exact w218)
    have z266 : (σ260 55 25).toInt = (σ214 55 25).toInt := by rw [(show σ260 55 25 = (σ214 55 25) from (by rw [f263 25 (by omega)]))]
    have z267 : (σ260 55 26).toInt = (σ214 55 26).toInt := by rw [(show σ260 55 26 = (σ214 55 26) from (by rw [f263 26 (by omega)]))]
    have z268 : (σ260 55 6).toInt = (σ 55 6).toInt := by rw [(show σ260 55 6 = (σ 55 6) from (by rw [f263 6 (by omega)]; exact (by rw [f217 6 (by omega)]; exact (by rw [f196 6 (by omega)]; exact (by rw [f84 6 (by omega)]; exact (by rw [f55 6 (by omega)]))))))]
    have w269 : ∀ k : Nat, k < 4 → 0 ≤ (σ174 68 k).toInt ∧ (σ174 68 k).toInt ≤ 3 := w205
    have z271 : (σ174 55 27).toInt = (σ 55 27).toInt := by rw [(show σ174 55 27 = (σ 55 27) from (by rw [f196 27 (by omega)]; exact (by rw [f84 27 (by omega)]; exact (by rw [f55 27 (by omega)]))))]
    have k270 := jwas (by omega) (w269 0 (by decide)) (w269 1 (by decide)) (w269 2 (by decide)) (w269 3 (by decide)) k225
    rw [← (show σ260 55 6 = σ174 55 6 from (by rw [f263 6 (by omega), f217 6 (by omega)]))] at k270
    refine jcallVv (As := [.int r53, .int 0, .int r215]) (rest := []) ⟨hx, hb, hml, hown, hts⟩ hK hP hA hS hZ (c_X12_goesBack_0 l D cI cL ad zz hJ σ260 τ r53 (r53.toInt) rfl r215 (r215.toInt) rfl w265 (by omega) (by omega) (by omega) k270) cw_RX12_300 (jc_55 cI cL ad σ260 τ) rfl ⟨Nat.le_of_ble_eq_true rfl, Nat.le_of_ble_eq_true rfl⟩ rfl rfl rfl hl.1 rfl (Nat.le_of_ble_eq_true rfl) dX12_likelyFrom_103 ⟨Nat.zero_le _, Nat.zero_le _⟩ (fun σ272 τ272 H locs h272 hP hS => ?_)
    obtain ⟨rfl, f274, f275, w276, w277, w278, h272⟩ := h272
    obtain ⟨k279, k280, k281, k282, h272⟩ := h272
    have p283 : jKept σ272 := jKept.fr (by rw [f274 75 (by omega)]) (by rw [f274 76 (by omega)]) (by rw [f274 77 (by omega)]) p264
    have e284 : σ260 69 = σ214 69 := (by rw [f262 69 (by omega)])
    have e285 : σ272 69 = σ174 69 := jback69 w219 e284 w277
    have e286 : σ260 68 = σ214 68 := (by rw [f262 68 (by omega)])
    have e287 : σ260 55 6 = σ174 55 6 := (by rw [f263 6 (by omega), f217 6 (by omega)])
    have w295 : ∀ k : Nat, k < 4 → 0 ≤ (σ174 68 k).toInt ∧ (σ174 68 k).toInt ≤ 3 := w205
    have w296 : ∀ k : Nat, k < 4 → 0 ≤ (σ272 68 k).toInt ∧ (σ272 68 k).toInt ≤ 3 := w276
    have k297 := k282
    rw [e287] at k297
    have D288 := jdig (w295 0 (by decide)) (w295 1 (by decide)) (w295 2 (by decide)) (w295 3 (by decide)) (w296 0 (by decide)) (w296 1 (by decide)) (w296 2 (by decide)) (w296 3 (by decide)) k225 k297
    have e289 : σ272 55 27 = σ174 55 27 := Int32.toInt_inj.mp (by have h9 := D288.1; omega)
    have z298 : (σ260 55 26).toInt = (σ214 55 26).toInt := by rw [(show σ260 55 26 = (σ214 55 26) from (by rw [f263 26 (by omega)]))]
    have z299 : (σ174 55 26).toInt = (σ 55 26).toInt := by rw [(show σ174 55 26 = (σ 55 26) from (by rw [f196 26 (by omega)]; exact (by rw [f84 26 (by omega)]; exact (by rw [f55 26 (by omega)]))))]
    have z300 : (σ260 55 25).toInt = (σ214 55 25).toInt := by rw [(show σ260 55 25 = (σ214 55 25) from (by rw [f263 25 (by omega)]))]
    have z301 : (σ174 55 25).toInt = (σ 55 25).toInt := by rw [(show σ174 55 25 = (σ 55 25) from (by rw [f196 25 (by omega)]; exact (by rw [f84 25 (by omega)]; exact (by rw [f55 25 (by omega)]))))]
    have e290 : σ272 55 26 = σ174 55 26 := Int32.toInt_inj.mp (by omega)
    have e291 : σ272 55 25 = σ174 55 25 := Int32.toInt_inj.mp (by omega)
    have z302 : (σ174 55 6).toInt = (σ 55 6).toInt := by rw [(show σ174 55 6 = (σ 55 6) from (by rw [f196 6 (by omega)]; exact (by rw [f84 6 (by omega)]; exact (by rw [f55 6 (by omega)]))))]
    have e292 : σ272 68 = σ174 68 := jback68 (nb := (σ174 55 6).toInt) (by omega) w220 e286 (fun k hk => w278 k (by rw [e287]; exact hk)) D288.2
    have f293 : (∀ i : Nat, (i < 55 ∨ 55 < i) ∧ (i < 66 ∨ 66 < i) ∧ (i < 74 ∨ 78 < i) → σ272 i = σ174 i) := fun i hi => by
      by_cases h8 : i = 68
      · rw [h8]; exact e292
      by_cases h9 : i = 69
      · rw [h9]; exact e285
      rw [f274 i (by omega), f262 i (by omega), f216 i (by omega)]
    have f294 : ∀ k : Nat, (k < 18 ∨ 18 < k) ∧ (k < 19 ∨ 19 < k) ∧ (k < 20 ∨ 20 < k) ∧ (k < 21 ∨ 21 < k) ∧ (k < 22 ∨ 22 < k) ∧ (k < 37 ∨ 37 < k) → σ272 55 k = σ174 55 k := fun k hk => by
      by_cases h25 : k = 25
      · rw [h25]; exact e291
      by_cases h26 : k = 26
      · rw [h26]; exact e290
      by_cases h27 : k = 27
      · rw [h27]; exact e289
      rw [f275 k (by omega), f263 k (by omega), f217 k (by omega)]
    clear k297 k282 k225
    refine lv_iload hx hb dX12_likelyFrom_106 (lv_at hl 3 rfl) ?_
    refine lv_if_le (tgt := 117) hx hb dX12_likelyFrom_108 (by decide) (fun c303 => ?_) (fun c303 => ?_)
    · have kc303 := jle c303 rfl jz_0
      refine lv_iconst (v := 0) hx hb dX12_likelyFrom_117 (by decide) ?_
      refine lv_iload hx hb dX12_likelyFrom_118 (lv_at hl 2 rfl) ?_
      refine lv_iload hx hb dX12_likelyFrom_120 (lv_at hl 0 rfl) ?_
      refine lv_iload hx hb dX12_likelyFrom_122 (lv_at hl 4 rfl) ?_
      refine jcallS (As := [.int r163, .int r261, .int r82]) (rest := [.int 0]) ⟨hx, hb, hml, hown, hts⟩ hK hP hA hS hZ (c_X12_mixed l D cI cL ad zz hJ σ272 τ r163 (r163.toInt) rfl r261 (r261.toInt) rfl r82 (r82.toInt) rfl) cw_RX12_304 ⟨Nat.le_of_ble_eq_true rfl, Nat.le_of_ble_eq_true rfl⟩ rfl rfl rfl hl.1 rfl (Nat.le_of_ble_eq_true rfl) dX12_likelyFrom_124 ⟨Nat.zero_le _, Nat.zero_le _⟩ (fun r305 σ304 τ304 H locs h304 hP hS => ?_)
      obtain ⟨⟨rfl, rfl⟩, h304⟩ := h304
      refine lv_aload_n hx hb dX12_likelyFrom_127 rfl (lv_at hl 7 rfl) ?_
      refine va_get (D := D) hx hb hts inlX12 hown hK hP 55 (jc_55 cI cL ad σ272 τ) rfl 13 (by decide) (hts _ kw_15_14) (fun _ h9 => h9) rfl dX12_likelyFrom_128 ?_
      have m306 : σ272 55 13 = (σ 55 13) := (by rw [f294 13 (by omega)]; exact (by rw [f196 13 (by omega)]; exact (by rw [f84 13 (by omega)]; exact (by rw [f55 13 (by omega)]))))
      refine jtopr m306 ?_
      refine jcallS (As := [.int 0, .int r305, .int (σ 55 13)]) (rest := []) ⟨hx, hb, hml, hown, hts⟩ hK hP hA hS hZ (c_X12_mixed l D cI cL ad zz hJ σ272 τ 0 (0) jz_0 r305 (r305.toInt) rfl (σ 55 13) ((σ 55 13).toInt) rfl) cw_RX12_304 ⟨Nat.le_of_ble_eq_true rfl, Nat.le_of_ble_eq_true rfl⟩ rfl rfl rfl hl.1 rfl (Nat.le_of_ble_eq_true rfl) dX12_likelyFrom_131 ⟨Nat.zero_le _, Nat.zero_le _⟩ (fun r308 σ307 τ307 H locs h307 hP hS => ?_)
      obtain ⟨⟨rfl, rfl⟩, h307⟩ := h307
      exact hret r308 σ272 τ _ _ _ _ rfl ⟨rfl, (fun i hi => by rw [f293 i (by omega), f195 i (by omega), f83 i (by omega), f54 i (by omega)]), (fun k hk => by rw [f294 k (by omega), f196 k (by omega), f84 k (by omega), f55 k (by omega)]), p283, trivial⟩ hP hS dX12_likelyFrom_134
    · have kc303 := jnle c303 rfl jz_0
      refine lv_ldcw (v := 1000000) hx hb hown (hts _ kw_37_13) dX12_likelyFrom_111 ?_
      refine lv_goto (tgt := 118) hx hb dX12_likelyFrom_114 (by decide) ?_
      refine lv_iload hx hb dX12_likelyFrom_118 (lv_at hl 2 rfl) ?_
      refine lv_iload hx hb dX12_likelyFrom_120 (lv_at hl 0 rfl) ?_
      refine lv_iload hx hb dX12_likelyFrom_122 (lv_at hl 4 rfl) ?_
      refine jcallS (As := [.int r163, .int r261, .int r82]) (rest := [.int 1000000]) ⟨hx, hb, hml, hown, hts⟩ hK hP hA hS hZ (c_X12_mixed l D cI cL ad zz hJ σ272 τ r163 (r163.toInt) rfl r261 (r261.toInt) rfl r82 (r82.toInt) rfl) cw_RX12_304 ⟨Nat.le_of_ble_eq_true rfl, Nat.le_of_ble_eq_true rfl⟩ rfl rfl rfl hl.1 rfl (Nat.le_of_ble_eq_true rfl) dX12_likelyFrom_124 ⟨Nat.zero_le _, Nat.zero_le _⟩ (fun r310 σ309 τ309 H locs h309 hP hS => ?_)
      obtain ⟨⟨rfl, rfl⟩, h309⟩ := h309
      refine lv_aload_n hx hb dX12_likelyFrom_127 rfl (lv_at hl 7 rfl) ?_
      refine va_get (D := D) hx hb hts inlX12 hown hK hP 55 (jc_55 cI cL ad σ272 τ) rfl 13 (by decide) (hts _ kw_15_14) (fun _ h9 => h9) rfl dX12_likelyFrom_128 ?_
      have m311 : σ272 55 13 = (σ 55 13) := (by rw [f294 13 (by omega)]; exact (by rw [f196 13 (by omega)]; exact (by rw [f84 13 (by omega)]; exact (by rw [f55 13 (by omega)]))))
      refine jtopr m311 ?_
      refine jcallS (As := [.int 1000000, .int r310, .int (σ 55 13)]) (rest := []) ⟨hx, hb, hml, hown, hts⟩ hK hP hA hS hZ (c_X12_mixed l D cI cL ad zz hJ σ272 τ 1000000 (1000000) jz_1000000 r310 (r310.toInt) rfl (σ 55 13) ((σ 55 13).toInt) rfl) cw_RX12_304 ⟨Nat.le_of_ble_eq_true rfl, Nat.le_of_ble_eq_true rfl⟩ rfl rfl rfl hl.1 rfl (Nat.le_of_ble_eq_true rfl) dX12_likelyFrom_131 ⟨Nat.zero_le _, Nat.zero_le _⟩ (fun r313 σ312 τ312 H locs h312 hP hS => ?_)
      obtain ⟨⟨rfl, rfl⟩, h312⟩ := h312
      exact hret r313 σ272 τ _ _ _ _ rfl ⟨rfl, (fun i hi => by rw [f293 i (by omega), f195 i (by omega), f83 i (by omega), f54 i (by omega)]), (fun k hk => by rw [f294 k (by omega), f196 k (by omega), f84 k (by omega), f55 k (by omega)]), p283, trivial⟩ hP hS dX12_likelyFrom_134
set_option maxHeartbeats 4000000 in
set_option maxRecDepth 100000 in
theorem c_X12_likelyFrom_2 (l : Launch) (D : va_G) (cI cL : ClassId) (ad zz : Nat → Nat) (hJ : jD ad) (σ : Nat → Nat → Int32) (τ : Nat → Nat → Int64) (a1 : Int32) (A1 : Int) (t1 : a1.toInt = A1) (a2 : Int32) (A2 : Int) (t2 : a2.toInt = A2) (hI101 : jI101 σ) (hI102 : jI102 σ) (hI103 : jI103 σ) (hI104 : jI104 σ) (hI105 : jI105 σ) (hI106 : jI106 σ) (hI120 : jI120 σ) (hs_jKept : jKept σ) (hp0 : 0 ≤ A1 ∧ A1 ≤ 19) (hp1 : (σ 55 12).toInt - (σ 55 26).toInt ≤ 2) : jM l yX12_likelyFrom cX12_likelyFrom 10 (some .int) ({ frames := 64, cells := 0, slots := 0, locals := 1542 }) D cI cL ad zz [.ref (ad 55), .int a1, .int a2] σ τ (fun r σ' τ' => τ = τ' ∧ (∀ i : Nat, (i < 55 ∨ 55 < i) ∧ (i < 66 ∨ 66 < i) ∧ (i < 74 ∨ 78 < i) → σ' i = σ i) ∧ (∀ k : Nat, (k < 18 ∨ 18 < k) ∧ (k < 19 ∨ 19 < k) ∧ (k < 20 ∨ 20 < k) ∧ (k < 21 ∨ 21 < k) ∧ (k < 22 ∨ 22 < k) ∧ (k < 37 ∨ 37 < k) → σ' 55 k = σ 55 k) ∧ (jKept σ') ∧ True) := by
  refine jM.of hJ (by decide +kernel) (nt := .int) rfl (Nat.le_of_ble_eq_true rfl) ?_
  intro p e s m args below meth c Q ls hC hret hl hP
  obtain ⟨hx, hb, hr, hml, hown, hts, hK, -, hlocks, hZ⟩ := hC
  have hown : s.vm.findClass RX12 = some m.cls := hown
  have hS : va_S (jA ad) s.heap s.heap [] := va_S.rf
  have hA : ∀ q, jA ad q → jA ad q := fun _ h => h
  have hl : lv_has ls 10 [(0, .ref (ad 55)), (1, .int a1), (2, .int a2)] := hl
  have g1 := jrg t1
  have g2 := jrg t2
  obtain ⟨i1, i2, i3, w4, w5, w6, w7⟩ : (0 ≤ (σ 55 5).toInt) ∧ ((σ 55 5).toInt ≤ (σ 55 4).toInt) ∧ ((σ 55 4).toInt ≤ 40) ∧ (∀ k : Nat, k < 68 → (-200) ≤ (σ 56 k).toInt ∧ (σ 56 k).toInt ≤ 500) ∧ (∀ k : Nat, k < 40 → 0 ≤ (σ 57 k).toInt ∧ (σ 57 k).toInt ≤ 67) ∧ (∀ k : Nat, k < 40 → (-200) ≤ (σ 58 k).toInt ∧ (σ 58 k).toInt ≤ 500) ∧ (∀ k : Nat, k < 40 → (-200) ≤ (σ 59 k).toInt ∧ (σ 59 k).toInt ≤ 500) := id hI101
  obtain ⟨i8, w9, w10⟩ : (0 ≤ (σ 55 6).toInt ∧ (σ 55 6).toInt ≤ 4) ∧ (∀ k : Nat, k < 4 → 0 ≤ (σ 60 k).toInt ∧ (σ 60 k).toInt ≤ 50) ∧ (∀ k : Nat, k < 4 → 0 ≤ (σ 61 k).toInt ∧ (σ 61 k).toInt ≤ 20) := id hI102
  have i11 : 0 ≤ (σ 55 9).toInt ∧ (σ 55 9).toInt ≤ 3 := hI103
  obtain ⟨i12, i13, i14, w15, w16⟩ : (1 ≤ (σ 55 10).toInt ∧ (σ 55 10).toInt ≤ 8) ∧ (1 ≤ (σ 55 12).toInt ∧ (σ 55 12).toInt ≤ 12) ∧ (0 ≤ (σ 55 13).toInt ∧ (σ 55 13).toInt ≤ 999) ∧ (∀ k : Nat, k < 8 → 0 ≤ (σ 62 k).toInt ∧ (σ 62 k).toInt ≤ 3) ∧ (∀ k : Nat, k < 8 → 0 ≤ (σ 67 k).toInt ∧ (σ 67 k).toInt ≤ 3) := id hI104
  obtain ⟨i17, w18⟩ : (0 ≤ (σ 55 15).toInt ∧ (σ 55 15).toInt ≤ 80) ∧ (∀ k : Nat, k < 2 → (-1) ≤ (σ 65 k).toInt ∧ (σ 65 k).toInt ≤ 80) := id hI105
  obtain ⟨i19, w20, w21, w22⟩ : (0 ≤ (σ 55 32).toInt ∧ (σ 55 32).toInt ≤ 20) ∧ (∀ k : Nat, k < 20 → 0 ≤ (σ 70 k).toInt ∧ (σ 70 k).toInt ≤ 6) ∧ (∀ k : Nat, k < 20 → 0 ≤ (σ 71 k).toInt ∧ (σ 71 k).toInt ≤ 8) ∧ (∀ k : Nat, k < 160 → 0 ≤ (σ 72 k).toInt ∧ (σ 72 k).toInt ≤ 3) := id hI106
  obtain ⟨i23, i24, i25, i26, i27, w28⟩ : (0 ≤ (σ 55 25).toInt) ∧ ((σ 55 25).toInt ≤ (σ 55 10).toInt) ∧ (0 ≤ (σ 55 26).toInt) ∧ ((σ 55 26).toInt ≤ (σ 55 12).toInt) ∧ ((-1) ≤ (σ 55 27).toInt ∧ (σ 55 27).toInt ≤ 3) ∧ (∀ k : Nat, k < 4 → 0 ≤ (σ 68 k).toInt ∧ (σ 68 k).toInt ≤ 3) := id hI120
  refine lv_aload_n hx hb dX12_likelyFrom_0 rfl (lv_at hl 0 rfl) ?_
  have I29 : jI102 σ := ⟨(by omega), w9, w10⟩
  have I30 : jI104 σ := ⟨(by omega), (by omega), (by omega), w15, w16⟩
  have I31 : jI120 σ := ⟨(by omega), (by omega), (by omega), (by omega), (by omega), w28⟩
  refine jcallV (As := []) (rest := []) ⟨hx, hb, hml, hown, hts⟩ hK hP hA hS hZ (c_X12_isEnded l D cI cL ad zz hJ σ τ I29 I30 I31) cw_RX12_307 (jc_55 cI cL ad σ τ) rfl ⟨Nat.le_of_ble_eq_true rfl, Nat.le_of_ble_eq_true rfl⟩ rfl rfl rfl hl.1 rfl (Nat.le_of_ble_eq_true rfl) dX12_likelyFrom_1 ⟨Nat.zero_le _, Nat.zero_le _⟩ (fun r33 σ32 τ32 H locs h32 hP hS => ?_)
  obtain ⟨⟨rfl, rfl⟩, h32⟩ := h32
  rcases h32 with h34 | h35
  · obtain ⟨q37, k36⟩ := h34
    have q37 := q37.symm
    subst q37
    refine lv_if_eq (tgt := 19) hx hb dX12_likelyFrom_4 (by decide) (fun c => absurd c (by decide)) (fun _ => ?_)
    refine lv_iload_n hx hb dX12_likelyFrom_7 rfl (lv_at hl 2 rfl) ?_
    refine lv_if_le (tgt := 17) hx hb dX12_likelyFrom_8 (by decide) (fun c38 => ?_) (fun c38 => ?_)
    · have kc38 := jle c38 t2 jz_0
      refine lv_iconst (v := 0) hx hb dX12_likelyFrom_17 (by decide) ?_
      exact hret 0 σ τ _ _ _ _ rfl ⟨rfl, (fun _ _ => rfl), (fun _ _ => rfl), hs_jKept, trivial⟩ hP hS dX12_likelyFrom_18
    · have kc38 := jnle c38 t2 jz_0
      refine lv_ldcw (v := 1000000) hx hb hown (hts _ kw_37_13) dX12_likelyFrom_11 ?_
      refine lv_goto (tgt := 18) hx hb dX12_likelyFrom_14 (by decide) ?_
      exact hret 1000000 σ τ _ _ _ _ rfl ⟨rfl, (fun _ _ => rfl), (fun _ _ => rfl), hs_jKept, trivial⟩ hP hS dX12_likelyFrom_18
  · obtain ⟨q42, k39, k40, k41⟩ := h35
    have q42 := q42.symm
    subst q42
    obtain ⟨B43, k44, k45, w46⟩ := k41
    refine lv_if_eq (tgt := 19) hx hb dX12_likelyFrom_4 (by decide) (fun _ => ?_) (fun c => absurd (by decide) c)
    refine lv_aload_n hx hb dX12_likelyFrom_19 rfl (lv_at hl 0 rfl) ?_
    refine lv_iload_n hx hb dX12_likelyFrom_20 rfl (lv_at hl 1 rfl) ?_
    have p47 : jmb σ B43 = 1 := (jmb_fr rfl rfl rfl rfl rfl B43).trans w46
    have I48 : jI101 σ := ⟨(by omega), (by omega), (by omega), w4, w5, w6, w7⟩
    have I49 : jI103 σ := (show 0 ≤ (σ 55 9).toInt ∧ (σ 55 9).toInt ≤ 3 by omega)
    have I50 : jI105 σ := ⟨(by omega), w18⟩
    have I51 : jI106 σ := ⟨(by omega), w20, w21, w22⟩
    refine jcallV (As := [.int a1]) (rest := []) ⟨hx, hb, hml, hown, hts⟩ hK hP hA hS hZ (c_X12_putsOn l D cI cL ad zz hJ σ τ B43 p47 a1 (A1) t1 I48 I29 I49 I30 I50 I51 I31 hs_jKept (by omega) (by omega) (by omega) (by omega) (by omega)) cw_RX12_321 (jc_55 cI cL ad σ τ) rfl ⟨Nat.le_of_ble_eq_true rfl, Nat.le_of_ble_eq_true rfl⟩ rfl rfl rfl hl.1 rfl (Nat.le_of_ble_eq_true rfl) dX12_likelyFrom_21 ⟨Nat.zero_le _, Nat.zero_le _⟩ (fun r53 σ52 τ52 H locs h52 hP hS => ?_)
    obtain ⟨rfl, f54, f55, p56, h52⟩ := h52
    have h57 := h52
    obtain ⟨q59, k58⟩ := h57
    refine lv_istore_n (lv' := [(3, .int r53), (0, .ref (ad 55)), (1, .int a1), (2, .int a2)]) hx hb dX12_likelyFrom_24 rfl hl (by decide) rfl (fun ls hl => ?_)
    refine lv_aload_n hx hb dX12_likelyFrom_25 rfl (lv_at hl 1 rfl) ?_
    refine va_get (D := D) hx hb hts inlX12 hown hK hP 55 (jc_55 cI cL ad σ52 τ) rfl 11 (by decide) (hts _ kw_7_8) (fun _ h9 => h9) rfl dX12_likelyFrom_26 ?_
    refine lv_aload_n hx hb dX12_likelyFrom_29 rfl (lv_at hl 1 rfl) ?_
    refine va_get (D := D) hx hb hts inlX12 hown hK hP 55 (jc_55 cI cL ad σ52 τ) rfl 25 (by decide) (hts _ kw_23_6) (fun _ h9 => h9) rfl dX12_likelyFrom_30 ?_
    have m60 : σ52 55 25 = (σ 55 25) := (by rw [f55 25 (by omega)])
    refine jtopr m60 ?_
    refine jald hx hb hK hP (jc_62 cI cL ad σ52 τ) (jin rfl (by omega) (by omega)) dX12_likelyFrom_33 ?_
    have w61 : ∀ k : Nat, k < 8 → 0 ≤ (σ52 62 k).toInt ∧ (σ52 62 k).toInt ≤ 3 := (by rw [f54 62 (by omega)]; exact w15)
    have g62 := w61 _ (jnat (x := (σ 55 25)) rfl (n := 8) (by omega) (by decide))
    refine lv_topi (fun x63 ex63 => ?_)
    rw [← ex63] at g62
    refine lv_istore (lv' := [(4, .int x63), (3, .int r53), (0, .ref (ad 55)), (1, .int a1), (2, .int a2)]) hx hb dX12_likelyFrom_34 hl (by decide) rfl (fun ls hl => ?_)
    refine lv_aload_n hx hb dX12_likelyFrom_36 rfl (lv_at hl 2 rfl) ?_
    refine lv_iload_n hx hb dX12_likelyFrom_37 rfl (lv_at hl 1 rfl) ?_
    refine lv_iload hx hb dX12_likelyFrom_38 (lv_at hl 0 rfl) ?_
    have z64 : (σ52 55 5).toInt = (σ 55 5).toInt := by rw [(show σ52 55 5 = (σ 55 5) from (by rw [f55 5 (by omega)]))]
    have z65 : (σ52 55 4).toInt = (σ 55 4).toInt := by rw [(show σ52 55 4 = (σ 55 4) from (by rw [f55 4 (by omega)]))]
    have w66 : ∀ k : Nat, k < 68 → (-200) ≤ (σ52 56 k).toInt ∧ (σ52 56 k).toInt ≤ 500 := (by rw [f54 56 (by omega)]; exact w4)
    have w67 : ∀ k : Nat, k < 40 → 0 ≤ (σ52 57 k).toInt ∧ (σ52 57 k).toInt ≤ 67 := (by rw [f54 57 (by omega)]; exact w5)
    have w68 : ∀ k : Nat, k < 40 → (-200) ≤ (σ52 58 k).toInt ∧ (σ52 58 k).toInt ≤ 500 := (by rw [f54 58 (by omega)]; exact w6)
    have w69 : ∀ k : Nat, k < 40 → (-200) ≤ (σ52 59 k).toInt ∧ (σ52 59 k).toInt ≤ 500 := (by rw [f54 59 (by omega)]; exact w7)
    have I70 : jI101 σ52 := ⟨(by omega), (by omega), (by omega), w66, w67, w68, w69⟩
    have z71 : (σ52 55 6).toInt = (σ 55 6).toInt := by rw [(show σ52 55 6 = (σ 55 6) from (by rw [f55 6 (by omega)]))]
    have w72 : ∀ k : Nat, k < 4 → 0 ≤ (σ52 60 k).toInt ∧ (σ52 60 k).toInt ≤ 50 := (by rw [f54 60 (by omega)]; exact w9)
    have w73 : ∀ k : Nat, k < 4 → 0 ≤ (σ52 61 k).toInt ∧ (σ52 61 k).toInt ≤ 20 := (by rw [f54 61 (by omega)]; exact w10)
    have I74 : jI102 σ52 := ⟨(by omega), w72, w73⟩
    have z75 : (σ52 55 9).toInt = (σ 55 9).toInt := by rw [(show σ52 55 9 = (σ 55 9) from (by rw [f55 9 (by omega)]))]
    have I76 : jI103 σ52 := (show 0 ≤ (σ52 55 9).toInt ∧ (σ52 55 9).toInt ≤ 3 by omega)
    have z77 : (σ52 55 15).toInt = (σ 55 15).toInt := by rw [(show σ52 55 15 = (σ 55 15) from (by rw [f55 15 (by omega)]))]
    have w78 : ∀ k : Nat, k < 2 → (-1) ≤ (σ52 65 k).toInt ∧ (σ52 65 k).toInt ≤ 80 := (by rw [f54 65 (by omega)]; exact w18)
    have I79 : jI105 σ52 := ⟨(by omega), w78⟩
    have w80 : ∀ k : Nat, k < 4 → 0 ≤ (σ52 68 k).toInt ∧ (σ52 68 k).toInt ≤ 3 := (by rw [f54 68 (by omega)]; exact w28)
    refine jcallV (As := [.int r53, .int x63]) (rest := []) ⟨hx, hb, hml, hown, hts⟩ hK hP hA hS hZ (c_X12_outBy l D cI cL ad zz hJ σ52 τ r53 (r53.toInt) rfl x63 (x63.toInt) rfl I70 I74 I76 I79 w80 (by omega) (by omega)) cw_RX12_259 (jc_55 cI cL ad σ52 τ) rfl ⟨Nat.le_of_ble_eq_true rfl, Nat.le_of_ble_eq_true rfl⟩ rfl rfl rfl hl.1 rfl (Nat.le_of_ble_eq_true rfl) dX12_likelyFrom_40 ⟨Nat.zero_le _, Nat.zero_le _⟩ (fun r82 σ81 τ81 H locs h81 hP hS => ?_)
    obtain ⟨rfl, f83, f84, h81⟩ := h81
    have h85 := h81
    obtain ⟨q87, k86⟩ := h85
    refine lv_istore (lv' := [(5, .int r82), (4, .int x63), (3, .int r53), (0, .ref (ad 55)), (1, .int a1), (2, .int a2)]) hx hb dX12_likelyFrom_43 hl (by decide) rfl (fun ls hl => ?_)
    refine lv_iload_n hx hb dX12_likelyFrom_45 rfl (lv_at hl 5 rfl) ?_
    refine lv_aload_n hx hb dX12_likelyFrom_46 rfl (lv_at hl 3 rfl) ?_
    refine lv_iload_n hx hb dX12_likelyFrom_47 rfl (lv_at hl 2 rfl) ?_
    refine lv_iload hx hb dX12_likelyFrom_48 (lv_at hl 1 rfl) ?_
    have z88 : (σ81 55 5).toInt = (σ 55 5).toInt := by rw [(show σ81 55 5 = (σ 55 5) from (by rw [f84 5 (by omega)]; exact (by rw [f55 5 (by omega)])))]
    have z89 : (σ81 55 4).toInt = (σ 55 4).toInt := by rw [(show σ81 55 4 = (σ 55 4) from (by rw [f84 4 (by omega)]; exact (by rw [f55 4 (by omega)])))]
    have w90 : ∀ k : Nat, k < 68 → (-200) ≤ (σ81 56 k).toInt ∧ (σ81 56 k).toInt ≤ 500 := (by rw [f83 56 (by omega)]; exact w66)
    have w91 : ∀ k : Nat, k < 40 → 0 ≤ (σ81 57 k).toInt ∧ (σ81 57 k).toInt ≤ 67 := (by rw [f83 57 (by omega)]; exact w67)
    have w92 : ∀ k : Nat, k < 40 → (-200) ≤ (σ81 58 k).toInt ∧ (σ81 58 k).toInt ≤ 500 := (by rw [f83 58 (by omega)]; exact w68)
    have w93 : ∀ k : Nat, k < 40 → (-200) ≤ (σ81 59 k).toInt ∧ (σ81 59 k).toInt ≤ 500 := (by rw [f83 59 (by omega)]; exact w69)
    have I94 : jI101 σ81 := ⟨(by omega), (by omega), (by omega), w90, w91, w92, w93⟩
    have z95 : (σ81 55 6).toInt = (σ 55 6).toInt := by rw [(show σ81 55 6 = (σ 55 6) from (by rw [f84 6 (by omega)]; exact (by rw [f55 6 (by omega)])))]
    have w96 : ∀ k : Nat, k < 4 → 0 ≤ (σ81 60 k).toInt ∧ (σ81 60 k).toInt ≤ 50 := (by rw [f83 60 (by omega)]; exact w72)
    have w97 : ∀ k : Nat, k < 4 → 0 ≤ (σ81 61 k).toInt ∧ (σ81 61 k).toInt ≤ 20 := (by rw [f83 61 (by omega)]; exact w73)
    have I98 : jI102 σ81 := ⟨(by omega), w96, w97⟩
    have z99 : (σ81 55 9).toInt = (σ 55 9).toInt := by rw [(show σ81 55 9 = (σ 55 9) from (by rw [f84 9 (by omega)]; exact (by rw [f55 9 (by omega)])))]
    have I100 : jI103 σ81 := (show 0 ≤ (σ81 55 9).toInt ∧ (σ81 55 9).toInt ≤ 3 by omega)
    have w101 : ∀ k : Nat, k < 4 → 0 ≤ (σ81 68 k).toInt ∧ (σ81 68 k).toInt ≤ 3 := (by rw [f83 68 (by omega)]; exact w80)
    refine jcallV (As := [.int r53, .int x63]) (rest := [.int a2]) ⟨hx, hb, hml, hown, hts⟩ hK hP hA hS hZ (c_X12_runsBy l D cI cL ad zz hJ σ81 τ r53 (r53.toInt) rfl x63 (x63.toInt) rfl I94 I98 I100 w101 (by omega) (by omega)) cw_RX12_262 (jc_55 cI cL ad σ81 τ) rfl ⟨Nat.le_of_ble_eq_true rfl, Nat.le_of_ble_eq_true rfl⟩ rfl rfl rfl hl.1 rfl (Nat.le_of_ble_eq_true rfl) dX12_likelyFrom_50 ⟨Nat.zero_le _, Nat.zero_le _⟩ (fun r103 σ102 τ102 H locs h102 hP hS => ?_)
    obtain ⟨⟨rfl, rfl⟩, h102⟩ := h102
    have h104 := h102
    obtain ⟨q106, k105⟩ := h104
    have g107 := jrg (rfl : r103.toInt = r103.toInt)
    refine lv_isub hx hb dX12_likelyFrom_53 ?_
    refine lv_topi (fun x108 ex108 => ?_)
    have gx108 := jrg (rfl : x108.toInt = x108.toInt)
    refine lv_istore (lv' := [(6, .int x108), (5, .int r82), (4, .int x63), (3, .int r53), (0, .ref (ad 55)), (1, .int a1), (2, .int a2)]) hx hb dX12_likelyFrom_54 hl (by decide) rfl (fun ls hl => ?_)
    refine lv_aload_n hx hb dX12_likelyFrom_56 rfl (lv_at hl 4 rfl) ?_
    refine lv_iload_n hx hb dX12_likelyFrom_57 rfl (lv_at hl 3 rfl) ?_
    refine lv_iconst (v := 1) hx hb dX12_likelyFrom_58 (by decide) ?_
    have z109 : (σ81 55 27).toInt = (σ 55 27).toInt := by rw [(show σ81 55 27 = (σ 55 27) from (by rw [f84 27 (by omega)]; exact (by rw [f55 27 (by omega)])))]
    have z110 : (σ81 55 25).toInt = (σ 55 25).toInt := by rw [(show σ81 55 25 = (σ 55 25) from (by rw [f84 25 (by omega)]; exact m60))]
    have z111 : (σ81 55 26).toInt = (σ 55 26).toInt := by rw [(show σ81 55 26 = (σ 55 26) from (by rw [f84 26 (by omega)]; exact (by rw [f55 26 (by omega)])))]
    have z112 : (σ81 68 0).toInt = (σ 68 0).toInt := by rw [(show σ81 68 0 = (σ 68 0) from (by rw [f83 68 (by omega)]; exact (by rw [f54 68 (by omega)])))]
    have z113 : (σ81 68 1).toInt = (σ 68 1).toInt := by rw [(show σ81 68 1 = (σ 68 1) from (by rw [f83 68 (by omega)]; exact (by rw [f54 68 (by omega)])))]
    have z114 : (σ81 68 2).toInt = (σ 68 2).toInt := by rw [(show σ81 68 2 = (σ 68 2) from (by rw [f83 68 (by omega)]; exact (by rw [f54 68 (by omega)])))]
    have z115 : (σ81 68 3).toInt = (σ 68 3).toInt := by rw [(show σ81 68 3 = (σ 68 3) from (by rw [f83 68 (by omega)]; exact (by rw [f54 68 (by omega)])))]
    refine jcallV (As := [.int r53, .int 1]) (rest := []) ⟨hx, hb, hml, hown, hts⟩ hK hP hA hS hZ (c_X12_goes_1 l D cI cL ad zz hJ σ81 τ r53 (r53.toInt) rfl w101 (by omega) (by omega) (by omega) (by omega) (by omega)) cw_RX12_296 (jc_55 cI cL ad σ81 τ) rfl ⟨Nat.le_of_ble_eq_true rfl, Nat.le_of_ble_eq_true rfl⟩ rfl rfl rfl hl.1 rfl (Nat.le_of_ble_eq_true rfl) dX12_likelyFrom_59 ⟨Nat.zero_le _, Nat.zero_le _⟩ (fun r117 σ116 τ116 H locs h116 hP hS => ?_)
    obtain ⟨rfl, f118, f119, w120, w121, w122, h116⟩ := h116
    obtain ⟨k123, k124, k125, h116⟩ := h116
    have h126 := h116
    obtain ⟨q132, k127, k128, k129, k130, k131⟩ := h126
    refine lv_istore (lv' := [(7, .int r117), (6, .int x108), (5, .int r82), (4, .int x63), (3, .int r53), (0, .ref (ad 55)), (1, .int a1), (2, .int a2)]) hx hb dX12_likelyFrom_62 hl (by decide) rfl (fun ls hl => ?_)
    refine lv_aload_n hx hb dX12_likelyFrom_64 rfl (lv_at hl 5 rfl) ?_
    refine lv_iload_n hx hb dX12_likelyFrom_65 rfl (lv_at hl 6 rfl) ?_
    refine lv_iload hx hb dX12_likelyFrom_66 (lv_at hl 1 rfl) ?_
    have z133 : (σ116 55 5).toInt = (σ 55 5).toInt := by rw [(show σ116 55 5 = (σ 55 5) from (by rw [f119 5 (by omega)]; exact (by rw [f84 5 (by omega)]; exact (by rw [f55 5 (by omega)]))))]
    have z134 : (σ116 55 4).toInt = (σ 55 4).toInt := by rw [(show σ116 55 4 = (σ 55 4) from (by rw [f119 4 (by omega)]; exact (by rw [f84 4 (by omega)]; exact (by rw [f55 4 (by omega)]))))]
    have w135 : ∀ k : Nat, k < 68 → (-200) ≤ (σ116 56 k).toInt ∧ (σ116 56 k).toInt ≤ 500 := (by rw [f118 56 (by omega)]; exact w90)
    have w136 : ∀ k : Nat, k < 40 → 0 ≤ (σ116 57 k).toInt ∧ (σ116 57 k).toInt ≤ 67 := (by rw [f118 57 (by omega)]; exact w91)
    have w137 : ∀ k : Nat, k < 40 → (-200) ≤ (σ116 58 k).toInt ∧ (σ116 58 k).toInt ≤ 500 := (by rw [f118 58 (by omega)]; exact w92)
    have w138 : ∀ k : Nat, k < 40 → (-200) ≤ (σ116 59 k).toInt ∧ (σ116 59 k).toInt ≤ 500 := (by rw [f118 59 (by omega)]; exact w93)
    have I139 : jI101 σ116 := ⟨(by omega), (by omega), (by omega), w135, w136, w137, w138⟩
    have z140 : (σ116 55 6).toInt = (σ 55 6).toInt := by rw [(show σ116 55 6 = (σ 55 6) from (by rw [f119 6 (by omega)]; exact (by rw [f84 6 (by omega)]; exact (by rw [f55 6 (by omega)]))))]
    have w141 : ∀ k : Nat, k < 4 → 0 ≤ (σ116 60 k).toInt ∧ (σ116 60 k).toInt ≤ 50 := (by rw [f118 60 (by omega)]; exact w96)
    have w142 : ∀ k : Nat, k < 4 → 0 ≤ (σ116 61 k).toInt ∧ (σ116 61 k).toInt ≤ 20 := (by rw [f118 61 (by omega)]; exact w97)
    have I143 : jI102 σ116 := ⟨(by omega), w141, w142⟩
    have z144 : (σ116 55 9).toInt = (σ 55 9).toInt := by rw [(show σ116 55 9 = (σ 55 9) from (by rw [f119 9 (by omega)]; exact (by rw [f84 9 (by omega)]; exact (by rw [f55 9 (by omega)]))))]
    have I145 : jI103 σ116 := (show 0 ≤ (σ116 55 9).toInt ∧ (σ116 55 9).toInt ≤ 3 by omega)
    have z146 : (σ116 55 10).toInt = (σ 55 10).toInt := by rw [(show σ116 55 10 = (σ 55 10) from (by rw [f119 10 (by omega)]; exact (by rw [f84 10 (by omega)]; exact (by rw [f55 10 (by omega)]))))]
    have z147 : (σ116 55 12).toInt = (σ 55 12).toInt := by rw [(show σ116 55 12 = (σ 55 12) from (by rw [f119 12 (by omega)]; exact (by rw [f84 12 (by omega)]; exact (by rw [f55 12 (by omega)]))))]
    have z148 : (σ116 55 13).toInt = (σ 55 13).toInt := by rw [(show σ116 55 13 = (σ 55 13) from (by rw [f119 13 (by omega)]; exact (by rw [f84 13 (by omega)]; exact (by rw [f55 13 (by omega)]))))]
    have w149 : ∀ k : Nat, k < 8 → 0 ≤ (σ116 62 k).toInt ∧ (σ116 62 k).toInt ≤ 3 := (by rw [f118 62 (by omega)]; exact (by rw [f83 62 (by omega)]; exact w61))
    have w150 : ∀ k : Nat, k < 8 → 0 ≤ (σ116 67 k).toInt ∧ (σ116 67 k).toInt ≤ 3 := (by rw [f118 67 (by omega)]; exact (by rw [f83 67 (by omega)]; exact (by rw [f54 67 (by omega)]; exact w16)))
    have I151 : jI104 σ116 := ⟨(by omega), (by omega), (by omega), w149, w150⟩
    have z152 : (σ116 55 15).toInt = (σ 55 15).toInt := by rw [(show σ116 55 15 = (σ 55 15) from (by rw [f119 15 (by omega)]; exact (by rw [f84 15 (by omega)]; exact (by rw [f55 15 (by omega)]))))]
    have w153 : ∀ k : Nat, k < 2 → (-1) ≤ (σ116 65 k).toInt ∧ (σ116 65 k).toInt ≤ 80 := (by rw [f118 65 (by omega)]; exact (by rw [f83 65 (by omega)]; exact w78))
    have I154 : jI105 σ116 := ⟨(by omega), w153⟩
    have z155 : (σ116 55 32).toInt = (σ 55 32).toInt := by rw [(show σ116 55 32 = (σ 55 32) from (by rw [f119 32 (by omega)]; exact (by rw [f84 32 (by omega)]; exact (by rw [f55 32 (by omega)]))))]
    have w156 : ∀ k : Nat, k < 20 → 0 ≤ (σ116 70 k).toInt ∧ (σ116 70 k).toInt ≤ 6 := (by rw [f118 70 (by omega)]; exact (by rw [f83 70 (by omega)]; exact (by rw [f54 70 (by omega)]; exact w20)))
    have w157 : ∀ k : Nat, k < 20 → 0 ≤ (σ116 71 k).toInt ∧ (σ116 71 k).toInt ≤ 8 := (by rw [f118 71 (by omega)]; exact (by rw [f83 71 (by omega)]; exact (by rw [f54 71 (by omega)]; exact w21)))
    have w158 : ∀ k : Nat, k < 160 → 0 ≤ (σ116 72 k).toInt ∧ (σ116 72 k).toInt ≤ 3 := (by rw [f118 72 (by omega)]; exact (by rw [f83 72 (by omega)]; exact (by rw [f54 72 (by omega)]; exact w22)))
    have I159 : jI106 σ116 := ⟨(by omega), w156, w157, w158⟩
    have I160 : jI120 σ116 := ⟨(by omega), (by omega), (by omega), (by omega), (by omega), w120⟩
    have p161 : jKept σ116 := jKept.fr (by rw [f118 75 (by omega), f83 75 (by omega)]) (by rw [f118 76 (by omega), f83 76 (by omega)]) (by rw [f118 77 (by omega), f83 77 (by omega)]) p56
    refine jcallV (As := [.int a1, .int x108]) (rest := []) ⟨hx, hb, hml, hown, hts⟩ hK hP hA hS hZ (c_X12_likelyFrom_1 l D cI cL ad zz hJ σ116 τ a1 (A1) t1 x108 (x108.toInt) rfl I139 I143 I145 I151 I154 I159 I160 p161 (by omega) (by omega)) cw_RX12_328 (jc_55 cI cL ad σ116 τ) rfl ⟨Nat.le_of_ble_eq_true rfl, Nat.le_of_ble_eq_true rfl⟩ rfl rfl rfl hl.1 rfl (Nat.le_of_ble_eq_true rfl) dX12_likelyFrom_68 ⟨Nat.zero_le _, Nat.zero_le _⟩ (fun r163 σ162 τ162 H locs h162 hP hS => ?_)
    obtain ⟨rfl, f164, f165, p166, h162⟩ := h162
    refine lv_istore (lv' := [(8, .int r163), (7, .int r117), (6, .int x108), (5, .int r82), (4, .int x63), (3, .int r53), (0, .ref (ad 55)), (1, .int a1), (2, .int a2)]) hx hb dX12_likelyFrom_71 hl (by decide) rfl (fun ls hl => ?_)
    refine lv_aload_n hx hb dX12_likelyFrom_73 rfl (lv_at hl 6 rfl) ?_
    refine lv_iload_n hx hb dX12_likelyFrom_74 rfl (lv_at hl 5 rfl) ?_
    refine lv_iconst (v := 1) hx hb dX12_likelyFrom_75 (by decide) ?_
    refine lv_iload hx hb dX12_likelyFrom_76 (lv_at hl 1 rfl) ?_
    have w167 : ∀ k : Nat, k < 4 → 0 ≤ (σ162 68 k).toInt ∧ (σ162 68 k).toInt ≤ 3 := (by rw [f164 68 (by omega)]; exact w120)
    have z168 : (σ162 55 25).toInt = (σ116 55 25).toInt := by rw [(show σ162 55 25 = (σ116 55 25) from (by rw [f165 25 (by omega)]))]
    have z169 : (σ162 55 26).toInt = (σ116 55 26).toInt := by rw [(show σ162 55 26 = (σ116 55 26) from (by rw [f165 26 (by omega)]))]
    have z170 : (σ162 55 6).toInt = (σ 55 6).toInt := by rw [(show σ162 55 6 = (σ 55 6) from (by rw [f165 6 (by omega)]; exact (by rw [f119 6 (by omega)]; exact (by rw [f84 6 (by omega)]; exact (by rw [f55 6 (by omega)])))))]
    have w171 : ∀ k : Nat, k < 4 → 0 ≤ (σ81 68 k).toInt ∧ (σ81 68 k).toInt ≤ 3 := w101
    have z173 : (σ81 55 27).toInt = (σ 55 27).toInt := by rw [(show σ81 55 27 = (σ 55 27) from (by rw [f84 27 (by omega)]; exact (by rw [f55 27 (by omega)])))]
    have k172 := jwas (by omega) (w171 0 (by decide)) (w171 1 (by decide)) (w171 2 (by decide)) (w171 3 (by decide)) k127
    rw [← (show σ162 55 6 = σ81 55 6 from (by rw [f165 6 (by omega), f119 6 (by omega)]))] at k172
    refine jcallVv (As := [.int r53, .int 1, .int r117]) (rest := []) ⟨hx, hb, hml, hown, hts⟩ hK hP hA hS hZ (c_X12_goesBack_1 l D cI cL ad zz hJ σ162 τ r53 (r53.toInt) rfl r117 (r117.toInt) rfl w167 (by omega) (by omega) (by omega) k172) cw_RX12_300 (jc_55 cI cL ad σ162 τ) rfl ⟨Nat.le_of_ble_eq_true rfl, Nat.le_of_ble_eq_true rfl⟩ rfl rfl rfl hl.1 rfl (Nat.le_of_ble_eq_true rfl) dX12_likelyFrom_78 ⟨Nat.zero_le _, Nat.zero_le _⟩ (fun σ174 τ174 H locs h174 hP hS => ?_)
    obtain ⟨rfl, f176, f177, w178, w179, w180, h174⟩ := h174
    obtain ⟨k181, k182, k183, k184, h174⟩ := h174
    have p185 : jKept σ174 := jKept.fr (by rw [f176 75 (by omega)]) (by rw [f176 76 (by omega)]) (by rw [f176 77 (by omega)]) p166
    have e186 : σ162 69 = σ116 69 := (by rw [f164 69 (by omega)])
    have e187 : σ174 69 = σ81 69 := jback69 w121 e186 w179
    have e188 : σ162 68 = σ116 68 := (by rw [f164 68 (by omega)])
    have e189 : σ162 55 6 = σ81 55 6 := (by rw [f165 6 (by omega), f119 6 (by omega)])
    have w197 : ∀ k : Nat, k < 4 → 0 ≤ (σ81 68 k).toInt ∧ (σ81 68 k).toInt ≤ 3 := w101
    have w198 : ∀ k : Nat, k < 4 → 0 ≤ (σ174 68 k).toInt ∧ (σ174 68 k).toInt ≤ 3 := w178
    have k199 := k184
    rw [e189] at k199
    have D190 := jdig (w197 0 (by decide)) (w197 1 (by decide)) (w197 2 (by decide)) (w197 3 (by decide)) (w198 0 (by decide)) (w198 1 (by decide)) (w198 2 (by decide)) (w198 3 (by decide)) k127 k199
    have e191 : σ174 55 27 = σ81 55 27 := Int32.toInt_inj.mp (by have h9 := D190.1; omega)
    have z200 : (σ162 55 26).toInt = (σ116 55 26).toInt := by rw [(show σ162 55 26 = (σ116 55 26) from (by rw [f165 26 (by omega)]))]
    have z201 : (σ81 55 26).toInt = (σ 55 26).toInt := by rw [(show σ81 55 26 = (σ 55 26) from (by rw [f84 26 (by omega)]; exact (by rw [f55 26 (by omega)])))]
    have z202 : (σ162 55 25).toInt = (σ116 55 25).toInt := by rw [(show σ162 55 25 = (σ116 55 25) from (by rw [f165 25 (by omega)]))]
    have z203 : (σ81 55 25).toInt = (σ 55 25).toInt := by rw [(show σ81 55 25 = (σ 55 25) from (by rw [f84 25 (by omega)]; exact (by rw [f55 25 (by omega)])))]
    have e192 : σ174 55 26 = σ81 55 26 := Int32.toInt_inj.mp (by omega)
    have e193 : σ174 55 25 = σ81 55 25 := Int32.toInt_inj.mp (by omega)
    have z204 : (σ81 55 6).toInt = (σ 55 6).toInt := by rw [(show σ81 55 6 = (σ 55 6) from (by rw [f84 6 (by omega)]; exact (by rw [f55 6 (by omega)])))]
    have e194 : σ174 68 = σ81 68 := jback68 (nb := (σ81 55 6).toInt) (by omega) w122 e188 (fun k hk => w180 k (by rw [e189]; exact hk)) D190.2
    have f195 : (∀ i : Nat, (i < 55 ∨ 55 < i) ∧ (i < 66 ∨ 66 < i) ∧ (i < 74 ∨ 78 < i) → σ174 i = σ81 i) := fun i hi => by
      by_cases h8 : i = 68
      · rw [h8]; exact e194
      by_cases h9 : i = 69
      · rw [h9]; exact e187
      rw [f176 i (by omega), f164 i (by omega), f118 i (by omega)]
    have f196 : ∀ k : Nat, (k < 18 ∨ 18 < k) ∧ (k < 19 ∨ 19 < k) ∧ (k < 20 ∨ 20 < k) ∧ (k < 21 ∨ 21 < k) ∧ (k < 22 ∨ 22 < k) ∧ (k < 37 ∨ 37 < k) → σ174 55 k = σ81 55 k := fun k hk => by
      by_cases h25 : k = 25
      · rw [h25]; exact e193
      by_cases h26 : k = 26
      · rw [h26]; exact e192
      by_cases h27 : k = 27
      · rw [h27]; exact e191
      rw [f177 k (by omega), f165 k (by omega), f119 k (by omega)]
    clear k199 k184 k127
    refine lv_aload_n hx hb dX12_likelyFrom_81 rfl (lv_at hl 6 rfl) ?_
    refine lv_iload_n hx hb dX12_likelyFrom_82 rfl (lv_at hl 5 rfl) ?_
    refine lv_iconst (v := 0) hx hb dX12_likelyFrom_83 (by decide) ?_
    have w205 : ∀ k : Nat, k < 4 → 0 ≤ (σ174 68 k).toInt ∧ (σ174 68 k).toInt ≤ 3 := (by rw [f195 68 (by omega)]; exact w101)
    have z206 : (σ174 55 6).toInt = (σ 55 6).toInt := by rw [(show σ174 55 6 = (σ 55 6) from (by rw [f196 6 (by omega)]; exact (by rw [f84 6 (by omega)]; exact (by rw [f55 6 (by omega)]))))]
    have z207 : (σ174 55 27).toInt = (σ 55 27).toInt := by rw [(show σ174 55 27 = (σ 55 27) from (by rw [f196 27 (by omega)]; exact (by rw [f84 27 (by omega)]; exact (by rw [f55 27 (by omega)]))))]
    have z208 : (σ174 55 25).toInt = (σ 55 25).toInt := by rw [(show σ174 55 25 = (σ 55 25) from (by rw [f196 25 (by omega)]; exact (by rw [f84 25 (by omega)]; exact m60)))]
    have z209 : (σ174 55 26).toInt = (σ 55 26).toInt := by rw [(show σ174 55 26 = (σ 55 26) from (by rw [f196 26 (by omega)]; exact (by rw [f84 26 (by omega)]; exact (by rw [f55 26 (by omega)]))))]
    have z210 : (σ174 68 0).toInt = (σ 68 0).toInt := by rw [(show σ174 68 0 = (σ 68 0) from (by rw [f195 68 (by omega)]; exact (by rw [f83 68 (by omega)]; exact (by rw [f54 68 (by omega)]))))]
    have z211 : (σ174 68 1).toInt = (σ 68 1).toInt := by rw [(show σ174 68 1 = (σ 68 1) from (by rw [f195 68 (by omega)]; exact (by rw [f83 68 (by omega)]; exact (by rw [f54 68 (by omega)]))))]
    have z212 : (σ174 68 2).toInt = (σ 68 2).toInt := by rw [(show σ174 68 2 = (σ 68 2) from (by rw [f195 68 (by omega)]; exact (by rw [f83 68 (by omega)]; exact (by rw [f54 68 (by omega)]))))]
    have z213 : (σ174 68 3).toInt = (σ 68 3).toInt := by rw [(show σ174 68 3 = (σ 68 3) from (by rw [f195 68 (by omega)]; exact (by rw [f83 68 (by omega)]; exact (by rw [f54 68 (by omega)]))))]
    refine jcallV (As := [.int r53, .int 0]) (rest := []) ⟨hx, hb, hml, hown, hts⟩ hK hP hA hS hZ (c_X12_goes_0 l D cI cL ad zz hJ σ174 τ r53 (r53.toInt) rfl w205 (by omega) (by omega) (by omega) (by omega) (by omega)) cw_RX12_296 (jc_55 cI cL ad σ174 τ) rfl ⟨Nat.le_of_ble_eq_true rfl, Nat.le_of_ble_eq_true rfl⟩ rfl rfl rfl hl.1 rfl (Nat.le_of_ble_eq_true rfl) dX12_likelyFrom_84 ⟨Nat.zero_le _, Nat.zero_le _⟩ (fun r215 σ214 τ214 H locs h214 hP hS => ?_)
    obtain ⟨rfl, f216, f217, w218, w219, w220, h214⟩ := h214
    obtain ⟨k221, k222, k223, h214⟩ := h214
    have h224 := h214
    obtain ⟨q230, k225, k226, k227, k228, k229⟩ := h224
    refine lv_istore (lv' := [(7, .int r215), (8, .int r163), (6, .int x108), (5, .int r82), (4, .int x63), (3, .int r53), (0, .ref (ad 55)), (1, .int a1), (2, .int a2)]) hx hb dX12_likelyFrom_87 hl (by decide) rfl (fun ls hl => ?_)
    refine lv_aload_n hx hb dX12_likelyFrom_89 rfl (lv_at hl 6 rfl) ?_
    refine lv_iload_n hx hb dX12_likelyFrom_90 rfl (lv_at hl 7 rfl) ?_
    refine lv_iload hx hb dX12_likelyFrom_91 (lv_at hl 2 rfl) ?_
    have z231 : (σ214 55 5).toInt = (σ 55 5).toInt := by rw [(show σ214 55 5 = (σ 55 5) from (by rw [f217 5 (by omega)]; exact (by rw [f196 5 (by omega)]; exact (by rw [f84 5 (by omega)]; exact (by rw [f55 5 (by omega)])))))]
    have z232 : (σ214 55 4).toInt = (σ 55 4).toInt := by rw [(show σ214 55 4 = (σ 55 4) from (by rw [f217 4 (by omega)]; exact (by rw [f196 4 (by omega)]; exact (by rw [f84 4 (by omega)]; exact (by rw [f55 4 (by omega)])))))]
    have w233 : ∀ k : Nat, k < 68 → (-200) ≤ (σ214 56 k).toInt ∧ (σ214 56 k).toInt ≤ 500 := (by rw [f216 56 (by omega)]; exact (by rw [f195 56 (by omega)]; exact w90))
    have w234 : ∀ k : Nat, k < 40 → 0 ≤ (σ214 57 k).toInt ∧ (σ214 57 k).toInt ≤ 67 := (by rw [f216 57 (by omega)]; exact (by rw [f195 57 (by omega)]; exact w91))
    have w235 : ∀ k : Nat, k < 40 → (-200) ≤ (σ214 58 k).toInt ∧ (σ214 58 k).toInt ≤ 500 := (by rw [f216 58 (by omega)]; exact (by rw [f195 58 (by omega)]; exact w92))
    have w236 : ∀ k : Nat, k < 40 → (-200) ≤ (σ214 59 k).toInt ∧ (σ214 59 k).toInt ≤ 500 := (by rw [f216 59 (by omega)]; exact (by rw [f195 59 (by omega)]; exact w93))
    have I237 : jI101 σ214 := ⟨(by omega), (by omega), (by omega), w233, w234, w235, w236⟩
    have z238 : (σ214 55 6).toInt = (σ 55 6).toInt := by rw [(show σ214 55 6 = (σ 55 6) from (by rw [f217 6 (by omega)]; exact (by rw [f196 6 (by omega)]; exact (by rw [f84 6 (by omega)]; exact (by rw [f55 6 (by omega)])))))]
    have w239 : ∀ k : Nat, k < 4 → 0 ≤ (σ214 60 k).toInt ∧ (σ214 60 k).toInt ≤ 50 := (by rw [f216 60 (by omega)]; exact (by rw [f195 60 (by omega)]; exact w96))
    have w240 : ∀ k : Nat, k < 4 → 0 ≤ (σ214 61 k).toInt ∧ (σ214 61 k).toInt ≤ 20 := (by rw [f216 61 (by omega)]; exact (by rw [f195 61 (by omega)]; exact w97))
    have I241 : jI102 σ214 := ⟨(by omega), w239, w240⟩
    have z242 : (σ214 55 9).toInt = (σ 55 9).toInt := by rw [(show σ214 55 9 = (σ 55 9) from (by rw [f217 9 (by omega)]; exact (by rw [f196 9 (by omega)]; exact (by rw [f84 9 (by omega)]; exact (by rw [f55 9 (by omega)])))))]
    have I243 : jI103 σ214 := (show 0 ≤ (σ214 55 9).toInt ∧ (σ214 55 9).toInt ≤ 3 by omega)
    have z244 : (σ214 55 10).toInt = (σ 55 10).toInt := by rw [(show σ214 55 10 = (σ 55 10) from (by rw [f217 10 (by omega)]; exact (by rw [f196 10 (by omega)]; exact (by rw [f84 10 (by omega)]; exact (by rw [f55 10 (by omega)])))))]
    have z245 : (σ214 55 12).toInt = (σ 55 12).toInt := by rw [(show σ214 55 12 = (σ 55 12) from (by rw [f217 12 (by omega)]; exact (by rw [f196 12 (by omega)]; exact (by rw [f84 12 (by omega)]; exact (by rw [f55 12 (by omega)])))))]
    have z246 : (σ214 55 13).toInt = (σ 55 13).toInt := by rw [(show σ214 55 13 = (σ 55 13) from (by rw [f217 13 (by omega)]; exact (by rw [f196 13 (by omega)]; exact (by rw [f84 13 (by omega)]; exact (by rw [f55 13 (by omega)])))))]
    have w247 : ∀ k : Nat, k < 8 → 0 ≤ (σ214 62 k).toInt ∧ (σ214 62 k).toInt ≤ 3 := (by rw [f216 62 (by omega)]; exact (by rw [f195 62 (by omega)]; exact (by rw [f83 62 (by omega)]; exact w61)))
    have w248 : ∀ k : Nat, k < 8 → 0 ≤ (σ214 67 k).toInt ∧ (σ214 67 k).toInt ≤ 3 := (by rw [f216 67 (by omega)]; exact (by rw [f195 67 (by omega)]; exact (by rw [f83 67 (by omega)]; exact (by rw [f54 67 (by omega)]; exact w16))))
    have I249 : jI104 σ214 := ⟨(by omega), (by omega), (by omega), w247, w248⟩
    have z250 : (σ214 55 15).toInt = (σ 55 15).toInt := by rw [(show σ214 55 15 = (σ 55 15) from (by rw [f217 15 (by omega)]; exact (by rw [f196 15 (by omega)]; exact (by rw [f84 15 (by omega)]; exact (by rw [f55 15 (by omega)])))))]
    have w251 : ∀ k : Nat, k < 2 → (-1) ≤ (σ214 65 k).toInt ∧ (σ214 65 k).toInt ≤ 80 := (by rw [f216 65 (by omega)]; exact (by rw [f195 65 (by omega)]; exact (by rw [f83 65 (by omega)]; exact w78)))
    have I252 : jI105 σ214 := ⟨(by omega), w251⟩
    have z253 : (σ214 55 32).toInt = (σ 55 32).toInt := by rw [(show σ214 55 32 = (σ 55 32) from (by rw [f217 32 (by omega)]; exact (by rw [f196 32 (by omega)]; exact (by rw [f84 32 (by omega)]; exact (by rw [f55 32 (by omega)])))))]
    have w254 : ∀ k : Nat, k < 20 → 0 ≤ (σ214 70 k).toInt ∧ (σ214 70 k).toInt ≤ 6 := (by rw [f216 70 (by omega)]; exact (by rw [f195 70 (by omega)]; exact (by rw [f83 70 (by omega)]; exact (by rw [f54 70 (by omega)]; exact w20))))
    have w255 : ∀ k : Nat, k < 20 → 0 ≤ (σ214 71 k).toInt ∧ (σ214 71 k).toInt ≤ 8 := (by rw [f216 71 (by omega)]; exact (by rw [f195 71 (by omega)]; exact (by rw [f83 71 (by omega)]; exact (by rw [f54 71 (by omega)]; exact w21))))
    have w256 : ∀ k : Nat, k < 160 → 0 ≤ (σ214 72 k).toInt ∧ (σ214 72 k).toInt ≤ 3 := (by rw [f216 72 (by omega)]; exact (by rw [f195 72 (by omega)]; exact (by rw [f83 72 (by omega)]; exact (by rw [f54 72 (by omega)]; exact w22))))
    have I257 : jI106 σ214 := ⟨(by omega), w254, w255, w256⟩
    have I258 : jI120 σ214 := ⟨(by omega), (by omega), (by omega), (by omega), (by omega), w218⟩
    have p259 : jKept σ214 := jKept.fr (by rw [f216 75 (by omega)]) (by rw [f216 76 (by omega)]) (by rw [f216 77 (by omega)]) p185
    refine jcallV (As := [.int a1, .int x108]) (rest := []) ⟨hx, hb, hml, hown, hts⟩ hK hP hA hS hZ (c_X12_likelyFrom_1 l D cI cL ad zz hJ σ214 τ a1 (A1) t1 x108 (x108.toInt) rfl I237 I241 I243 I249 I252 I257 I258 p259 (by omega) (by omega)) cw_RX12_328 (jc_55 cI cL ad σ214 τ) rfl ⟨Nat.le_of_ble_eq_true rfl, Nat.le_of_ble_eq_true rfl⟩ rfl rfl rfl hl.1 rfl (Nat.le_of_ble_eq_true rfl) dX12_likelyFrom_93 ⟨Nat.zero_le _, Nat.zero_le _⟩ (fun r261 σ260 τ260 H locs h260 hP hS => ?_)
    obtain ⟨rfl, f262, f263, p264, h260⟩ := h260
    refine lv_istore (lv' := [(9, .int r261), (7, .int r215), (8, .int r163), (6, .int x108), (5, .int r82), (4, .int x63), (3, .int r53), (0, .ref (ad 55)), (1, .int a1), (2, .int a2)]) hx hb dX12_likelyFrom_96 hl (by decide) rfl (fun ls hl => ?_)
    refine lv_aload_n hx hb dX12_likelyFrom_98 rfl (lv_at hl 7 rfl) ?_
    refine lv_iload_n hx hb dX12_likelyFrom_99 rfl (lv_at hl 6 rfl) ?_
    refine lv_iconst (v := 0) hx hb dX12_likelyFrom_100 (by decide) ?_
    refine lv_iload hx hb dX12_likelyFrom_101 (lv_at hl 1 rfl) ?_
    have w265 : ∀ k : Nat, k < 4 → 0 ≤ (σ260 68 k).toInt ∧ (σ260 68 k).toInt ≤ 3 := (by rw [f262 68 (by omega)]; exact w218)
    have z266 : (σ260 55 25).toInt = (σ214 55 25).toInt := by rw [(show σ260 55 25 = (σ214 55 25) from (by rw [f263 25 (by omega)]))]
    have z267 : (σ260 55 26).toInt = (σ214 55 26).toInt := by rw [(show σ260 55 26 = (σ214 55 26) from (by rw [f263 26 (by omega)]))]
    have z268 : (σ260 55 6).toInt = (σ 55 6).toInt := by rw [(show σ260 55 6 = (σ 55 6) from (by rw [f263 6 (by omega)]; exact (by rw [f217 6 (by omega)]; exact (by rw [f196 6 (by omega)]; exact (by rw [f84 6 (by omega)]; exact (by rw [f55 6 (by omega)]))))))]
    have w269 : ∀ k : Nat, k < 4 → 0 ≤ (σ174 68 k).toInt ∧ (σ174 68 k).toInt ≤ 3 := w205
    have z271 : (σ174 55 27).toInt = (σ 55 27).toInt := by rw [(show σ174 55 27 = (σ 55 27) from (by rw [f196 27 (by omega)]; exact (by rw [f84 27 (by omega)]; exact (by rw [f55 27 (by omega)]))))]
    have k270 := jwas (by omega) (w269 0 (by decide)) (w269 1 (by decide)) (w269 2 (by decide)) (w269 3 (by decide)) k225
    rw [← (show σ260 55 6 = σ174 55 6 from (by rw [f263 6 (by omega), f217 6 (by omega)]))] at k270
    refine jcallVv (As := [.int r53, .int 0, .int r215]) (rest := []) ⟨hx, hb, hml, hown, hts⟩ hK hP hA hS hZ (c_X12_goesBack_0 l D cI cL ad zz hJ σ260 τ r53 (r53.toInt) rfl r215 (r215.toInt) rfl w265 (by omega) (by omega) (by omega) k270) cw_RX12_300 (jc_55 cI cL ad σ260 τ) rfl ⟨Nat.le_of_ble_eq_true rfl, Nat.le_of_ble_eq_true rfl⟩ rfl rfl rfl hl.1 rfl (Nat.le_of_ble_eq_true rfl) dX12_likelyFrom_103 ⟨Nat.zero_le _, Nat.zero_le _⟩ (fun σ272 τ272 H locs h272 hP hS => ?_)
    obtain ⟨rfl, f274, f275, w276, w277, w278, h272⟩ := h272
    obtain ⟨k279, k280, k281, k282, h272⟩ := h272
    have p283 : jKept σ272 := jKept.fr (by rw [f274 75 (by omega)]) (by rw [f274 76 (by omega)]) (by rw [f274 77 (by omega)]) p264
    have e284 : σ260 69 = σ214 69 := (by rw [f262 69 (by omega)])
    have e285 : σ272 69 = σ174 69 := jback69 w219 e284 w277
    have e286 : σ260 68 = σ214 68 := (by rw [f262 68 (by omega)])
    have e287 : σ260 55 6 = σ174 55 6 := (by rw [f263 6 (by omega), f217 6 (by omega)])
    have w295 : ∀ k : Nat, k < 4 → 0 ≤ (σ174 68 k).toInt ∧ (σ174 68 k).toInt ≤ 3 := w205
    have w296 : ∀ k : Nat, k < 4 → 0 ≤ (σ272 68 k).toInt ∧ (σ272 68 k).toInt ≤ 3 := w276
    have k297 := k282
    rw [e287] at k297
    have D288 := jdig (w295 0 (by decide)) (w295 1 (by decide)) (w295 2 (by decide)) (w295 3 (by decide)) (w296 0 (by decide)) (w296 1 (by decide)) (w296 2 (by decide)) (w296 3 (by decide)) k225 k297
    have e289 : σ272 55 27 = σ174 55 27 := Int32.toInt_inj.mp (by have h9 := D288.1; omega)
    have z298 : (σ260 55 26).toInt = (σ214 55 26).toInt := by rw [(show σ260 55 26 = (σ214 55 26) from (by rw [f263 26 (by omega)]))]
    have z299 : (σ174 55 26).toInt = (σ 55 26).toInt := by rw [(show σ174 55 26 = (σ 55 26) from (by rw [f196 26 (by omega)]; exact (by rw [f84 26 (by omega)]; exact (by rw [f55 26 (by omega)]))))]
    have z300 : (σ260 55 25).toInt = (σ214 55 25).toInt := by rw [(show σ260 55 25 = (σ214 55 25) from (by rw [f263 25 (by omega)]))]
    have z301 : (σ174 55 25).toInt = (σ 55 25).toInt := by rw [(show σ174 55 25 = (σ 55 25) from (by rw [f196 25 (by omega)]; exact (by rw [f84 25 (by omega)]; exact (by rw [f55 25 (by omega)]))))]
    have e290 : σ272 55 26 = σ174 55 26 := Int32.toInt_inj.mp (by omega)
    have e291 : σ272 55 25 = σ174 55 25 := Int32.toInt_inj.mp (by omega)
    have z302 : (σ174 55 6).toInt = (σ 55 6).toInt := by rw [(show σ174 55 6 = (σ 55 6) from (by rw [f196 6 (by omega)]; exact (by rw [f84 6 (by omega)]; exact (by rw [f55 6 (by omega)]))))]
    have e292 : σ272 68 = σ174 68 := jback68 (nb := (σ174 55 6).toInt) (by omega) w220 e286 (fun k hk => w278 k (by rw [e287]; exact hk)) D288.2
    have f293 : (∀ i : Nat, (i < 55 ∨ 55 < i) ∧ (i < 66 ∨ 66 < i) ∧ (i < 74 ∨ 78 < i) → σ272 i = σ174 i) := fun i hi => by
      by_cases h8 : i = 68
      · rw [h8]; exact e292
      by_cases h9 : i = 69
      · rw [h9]; exact e285
      rw [f274 i (by omega), f262 i (by omega), f216 i (by omega)]
    have f294 : ∀ k : Nat, (k < 18 ∨ 18 < k) ∧ (k < 19 ∨ 19 < k) ∧ (k < 20 ∨ 20 < k) ∧ (k < 21 ∨ 21 < k) ∧ (k < 22 ∨ 22 < k) ∧ (k < 37 ∨ 37 < k) → σ272 55 k = σ174 55 k := fun k hk => by
      by_cases h25 : k = 25
      · rw [h25]; exact e291
      by_cases h26 : k = 26
      · rw [h26]; exact e290
      by_cases h27 : k = 27
      · rw [h27]; exact e289
      rw [f275 k (by omega), f263 k (by omega), f217 k (by omega)]
    clear k297 k282 k225
    refine lv_iload hx hb dX12_likelyFrom_106 (lv_at hl 3 rfl) ?_
    refine lv_if_le (tgt := 117) hx hb dX12_likelyFrom_108 (by decide) (fun c303 => ?_) (fun c303 => ?_)
    · have kc303 := jle c303 rfl jz_0
      refine lv_iconst (v := 0) hx hb dX12_likelyFrom_117 (by decide) ?_
      refine lv_iload hx hb dX12_likelyFrom_118 (lv_at hl 2 rfl) ?_
      refine lv_iload hx hb dX12_likelyFrom_120 (lv_at hl 0 rfl) ?_
      refine lv_iload hx hb dX12_likelyFrom_122 (lv_at hl 4 rfl) ?_
      refine jcallS (As := [.int r163, .int r261, .int r82]) (rest := [.int 0]) ⟨hx, hb, hml, hown, hts⟩ hK hP hA hS hZ (c_X12_mixed l D cI cL ad zz hJ σ272 τ r163 (r163.toInt) rfl r261 (r261.toInt) rfl r82 (r82.toInt) rfl) cw_RX12_304 ⟨Nat.le_of_ble_eq_true rfl, Nat.le_of_ble_eq_true rfl⟩ rfl rfl rfl hl.1 rfl (Nat.le_of_ble_eq_true rfl) dX12_likelyFrom_124 ⟨Nat.zero_le _, Nat.zero_le _⟩ (fun r305 σ304 τ304 H locs h304 hP hS => ?_)
      obtain ⟨⟨rfl, rfl⟩, h304⟩ := h304
      refine lv_aload_n hx hb dX12_likelyFrom_127 rfl (lv_at hl 7 rfl) ?_
      refine va_get (D := D) hx hb hts inlX12 hown hK hP 55 (jc_55 cI cL ad σ272 τ) rfl 13 (by decide) (hts _ kw_15_14) (fun _ h9 => h9) rfl dX12_likelyFrom_128 ?_
      have m306 : σ272 55 13 = (σ 55 13) := (by rw [f294 13 (by omega)]; exact (by rw [f196 13 (by omega)]; exact (by rw [f84 13 (by omega)]; exact (by rw [f55 13 (by omega)]))))
      refine jtopr m306 ?_
      refine jcallS (As := [.int 0, .int r305, .int (σ 55 13)]) (rest := []) ⟨hx, hb, hml, hown, hts⟩ hK hP hA hS hZ (c_X12_mixed l D cI cL ad zz hJ σ272 τ 0 (0) jz_0 r305 (r305.toInt) rfl (σ 55 13) ((σ 55 13).toInt) rfl) cw_RX12_304 ⟨Nat.le_of_ble_eq_true rfl, Nat.le_of_ble_eq_true rfl⟩ rfl rfl rfl hl.1 rfl (Nat.le_of_ble_eq_true rfl) dX12_likelyFrom_131 ⟨Nat.zero_le _, Nat.zero_le _⟩ (fun r308 σ307 τ307 H locs h307 hP hS => ?_)
      obtain ⟨⟨rfl, rfl⟩, h307⟩ := h307
      exact hret r308 σ272 τ _ _ _ _ rfl ⟨rfl, (fun i hi => by rw [f293 i (by omega), f195 i (by omega), f83 i (by omega), f54 i (by omega)]), (fun k hk => by rw [f294 k (by omega), f196 k (by omega), f84 k (by omega), f55 k (by omega)]), p283, trivial⟩ hP hS dX12_likelyFrom_134
    · have kc303 := jnle c303 rfl jz_0
      refine lv_ldcw (v := 1000000) hx hb hown (hts _ kw_37_13) dX12_likelyFrom_111 ?_
      refine lv_goto (tgt := 118) hx hb dX12_likelyFrom_114 (by decide) ?_
      refine lv_iload hx hb dX12_likelyFrom_118 (lv_at hl 2 rfl) ?_
      refine lv_iload hx hb dX12_likelyFrom_120 (lv_at hl 0 rfl) ?_
      refine lv_iload hx hb dX12_likelyFrom_122 (lv_at hl 4 rfl) ?_
      refine jcallS (As := [.int r163, .int r261, .int r82]) (rest := [.int 1000000]) ⟨hx, hb, hml, hown, hts⟩ hK hP hA hS hZ (c_X12_mixed l D cI cL ad zz hJ σ272 τ r163 (r163.toInt) rfl r261 (r261.toInt) rfl r82 (r82.toInt) rfl) cw_RX12_304 ⟨Nat.le_of_ble_eq_true rfl, Nat.le_of_ble_eq_true rfl⟩ rfl rfl rfl hl.1 rfl (Nat.le_of_ble_eq_true rfl) dX12_likelyFrom_124 ⟨Nat.zero_le _, Nat.zero_le _⟩ (fun r310 σ309 τ309 H locs h309 hP hS => ?_)
      obtain ⟨⟨rfl, rfl⟩, h309⟩ := h309
      refine lv_aload_n hx hb dX12_likelyFrom_127 rfl (lv_at hl 7 rfl) ?_
      refine va_get (D := D) hx hb hts inlX12 hown hK hP 55 (jc_55 cI cL ad σ272 τ) rfl 13 (by decide) (hts _ kw_15_14) (fun _ h9 => h9) rfl dX12_likelyFrom_128 ?_
      have m311 : σ272 55 13 = (σ 55 13) := (by rw [f294 13 (by omega)]; exact (by rw [f196 13 (by omega)]; exact (by rw [f84 13 (by omega)]; exact (by rw [f55 13 (by omega)]))))
      refine jtopr m311 ?_
      refine jcallS (As := [.int 1000000, .int r310, .int (σ 55 13)]) (rest := []) ⟨hx, hb, hml, hown, hts⟩ hK hP hA hS hZ (c_X12_mixed l D cI cL ad zz hJ σ272 τ 1000000 (1000000) jz_1000000 r310 (r310.toInt) rfl (σ 55 13) ((σ 55 13).toInt) rfl) cw_RX12_304 ⟨Nat.le_of_ble_eq_true rfl, Nat.le_of_ble_eq_true rfl⟩ rfl rfl rfl hl.1 rfl (Nat.le_of_ble_eq_true rfl) dX12_likelyFrom_131 ⟨Nat.zero_le _, Nat.zero_le _⟩ (fun r313 σ312 τ312 H locs h312 hP hS => ?_)
      obtain ⟨⟨rfl, rfl⟩, h312⟩ := h312
      exact hret r313 σ272 τ _ _ _ _ rfl ⟨rfl, (fun i hi => by rw [f293 i (by omega), f195 i (by omega), f83 i (by omega), f54 i (by omega)]), (fun k hk => by rw [f294 k (by omega), f196 k (by omega), f84 k (by omega), f55 k (by omega)]), p283, trivial⟩ hP hS dX12_likelyFrom_134
set_option maxHeartbeats 4000000 in
set_option maxRecDepth 100000 in
theorem c_X12_likelyFrom_3 (l : Launch) (D : va_G) (cI cL : ClassId) (ad zz : Nat → Nat) (hJ : jD ad) (σ : Nat → Nat → Int32) (τ : Nat → Nat → Int64) (a1 : Int32) (A1 : Int) (t1 : a1.toInt = A1) (a2 : Int32) (A2 : Int) (t2 : a2.toInt = A2) (hI101 : jI101 σ) (hI102 : jI102 σ) (hI103 : jI103 σ) (hI104 : jI104 σ) (hI105 : jI105 σ) (hI106 : jI106 σ) (hI120 : jI120 σ) (hs_jKept : jKept σ) (hp0 : 0 ≤ A1 ∧ A1 ≤ 19) (hp1 : (σ 55 12).toInt - (σ 55 26).toInt ≤ 3) : jM l yX12_likelyFrom cX12_likelyFrom 10 (some .int) ({ frames := 65, cells := 0, slots := 0, locals := 1571 }) D cI cL ad zz [.ref (ad 55), .int a1, .int a2] σ τ (fun r σ' τ' => τ = τ' ∧ (∀ i : Nat, (i < 55 ∨ 55 < i) ∧ (i < 66 ∨ 66 < i) ∧ (i < 74 ∨ 78 < i) → σ' i = σ i) ∧ (∀ k : Nat, (k < 18 ∨ 18 < k) ∧ (k < 19 ∨ 19 < k) ∧ (k < 20 ∨ 20 < k) ∧ (k < 21 ∨ 21 < k) ∧ (k < 22 ∨ 22 < k) ∧ (k < 37 ∨ 37 < k) → σ' 55 k = σ 55 k) ∧ (jKept σ') ∧ True) := by
  refine jM.of hJ (by decide +kernel) (nt := .int) rfl (Nat.le_of_ble_eq_true rfl) ?_
  intro p e s m args below meth c Q ls hC hret hl hP
  obtain ⟨hx, hb, hr, hml, hown, hts, hK, -, hlocks, hZ⟩ := hC
  have hown : s.vm.findClass RX12 = some m.cls := hown
  have hS : va_S (jA ad) s.heap s.heap [] := va_S.rf
  have hA : ∀ q, jA ad q → jA ad q := fun _ h => h
  have hl : lv_has ls 10 [(0, .ref (ad 55)), (1, .int a1), (2, .int a2)] := hl
  have g1 := jrg t1
  have g2 := jrg t2
  obtain ⟨i1, i2, i3, w4, w5, w6, w7⟩ : (0 ≤ (σ 55 5).toInt) ∧ ((σ 55 5).toInt ≤ (σ 55 4).toInt) ∧ ((σ 55 4).toInt ≤ 40) ∧ (∀ k : Nat, k < 68 → (-200) ≤ (σ 56 k).toInt ∧ (σ 56 k).toInt ≤ 500) ∧ (∀ k : Nat, k < 40 → 0 ≤ (σ 57 k).toInt ∧ (σ 57 k).toInt ≤ 67) ∧ (∀ k : Nat, k < 40 → (-200) ≤ (σ 58 k).toInt ∧ (σ 58 k).toInt ≤ 500) ∧ (∀ k : Nat, k < 40 → (-200) ≤ (σ 59 k).toInt ∧ (σ 59 k).toInt ≤ 500) := id hI101
  obtain ⟨i8, w9, w10⟩ : (0 ≤ (σ 55 6).toInt ∧ (σ 55 6).toInt ≤ 4) ∧ (∀ k : Nat, k < 4 → 0 ≤ (σ 60 k).toInt ∧ (σ 60 k).toInt ≤ 50) ∧ (∀ k : Nat, k < 4 → 0 ≤ (σ 61 k).toInt ∧ (σ 61 k).toInt ≤ 20) := id hI102
  have i11 : 0 ≤ (σ 55 9).toInt ∧ (σ 55 9).toInt ≤ 3 := hI103
  obtain ⟨i12, i13, i14, w15, w16⟩ : (1 ≤ (σ 55 10).toInt ∧ (σ 55 10).toInt ≤ 8) ∧ (1 ≤ (σ 55 12).toInt ∧ (σ 55 12).toInt ≤ 12) ∧ (0 ≤ (σ 55 13).toInt ∧ (σ 55 13).toInt ≤ 999) ∧ (∀ k : Nat, k < 8 → 0 ≤ (σ 62 k).toInt ∧ (σ 62 k).toInt ≤ 3) ∧ (∀ k : Nat, k < 8 → 0 ≤ (σ 67 k).toInt ∧ (σ 67 k).toInt ≤ 3) := id hI104
  obtain ⟨i17, w18⟩ : (0 ≤ (σ 55 15).toInt ∧ (σ 55 15).toInt ≤ 80) ∧ (∀ k : Nat, k < 2 → (-1) ≤ (σ 65 k).toInt ∧ (σ 65 k).toInt ≤ 80) := id hI105
  obtain ⟨i19, w20, w21, w22⟩ : (0 ≤ (σ 55 32).toInt ∧ (σ 55 32).toInt ≤ 20) ∧ (∀ k : Nat, k < 20 → 0 ≤ (σ 70 k).toInt ∧ (σ 70 k).toInt ≤ 6) ∧ (∀ k : Nat, k < 20 → 0 ≤ (σ 71 k).toInt ∧ (σ 71 k).toInt ≤ 8) ∧ (∀ k : Nat, k < 160 → 0 ≤ (σ 72 k).toInt ∧ (σ 72 k).toInt ≤ 3) := id hI106
  obtain ⟨i23, i24, i25, i26, i27, w28⟩ : (0 ≤ (σ 55 25).toInt) ∧ ((σ 55 25).toInt ≤ (σ 55 10).toInt) ∧ (0 ≤ (σ 55 26).toInt) ∧ ((σ 55 26).toInt ≤ (σ 55 12).toInt) ∧ ((-1) ≤ (σ 55 27).toInt ∧ (σ 55 27).toInt ≤ 3) ∧ (∀ k : Nat, k < 4 → 0 ≤ (σ 68 k).toInt ∧ (σ 68 k).toInt ≤ 3) := id hI120
  refine lv_aload_n hx hb dX12_likelyFrom_0 rfl (lv_at hl 0 rfl) ?_
  have I29 : jI102 σ := ⟨(by omega), w9, w10⟩
  have I30 : jI104 σ := ⟨(by omega), (by omega), (by omega), w15, w16⟩
  have I31 : jI120 σ := ⟨(by omega), (by omega), (by omega), (by omega), (by omega), w28⟩
  refine jcallV (As := []) (rest := []) ⟨hx, hb, hml, hown, hts⟩ hK hP hA hS hZ (c_X12_isEnded l D cI cL ad zz hJ σ τ I29 I30 I31) cw_RX12_307 (jc_55 cI cL ad σ τ) rfl ⟨Nat.le_of_ble_eq_true rfl, Nat.le_of_ble_eq_true rfl⟩ rfl rfl rfl hl.1 rfl (Nat.le_of_ble_eq_true rfl) dX12_likelyFrom_1 ⟨Nat.zero_le _, Nat.zero_le _⟩ (fun r33 σ32 τ32 H locs h32 hP hS => ?_)
  obtain ⟨⟨rfl, rfl⟩, h32⟩ := h32
  rcases h32 with h34 | h35
  · obtain ⟨q37, k36⟩ := h34
    have q37 := q37.symm
    subst q37
    refine lv_if_eq (tgt := 19) hx hb dX12_likelyFrom_4 (by decide) (fun c => absurd c (by decide)) (fun _ => ?_)
    refine lv_iload_n hx hb dX12_likelyFrom_7 rfl (lv_at hl 2 rfl) ?_
    refine lv_if_le (tgt := 17) hx hb dX12_likelyFrom_8 (by decide) (fun c38 => ?_) (fun c38 => ?_)
    · have kc38 := jle c38 t2 jz_0
      refine lv_iconst (v := 0) hx hb dX12_likelyFrom_17 (by decide) ?_
      exact hret 0 σ τ _ _ _ _ rfl ⟨rfl, (fun _ _ => rfl), (fun _ _ => rfl), hs_jKept, trivial⟩ hP hS dX12_likelyFrom_18
    · have kc38 := jnle c38 t2 jz_0
      refine lv_ldcw (v := 1000000) hx hb hown (hts _ kw_37_13) dX12_likelyFrom_11 ?_
      refine lv_goto (tgt := 18) hx hb dX12_likelyFrom_14 (by decide) ?_
      exact hret 1000000 σ τ _ _ _ _ rfl ⟨rfl, (fun _ _ => rfl), (fun _ _ => rfl), hs_jKept, trivial⟩ hP hS dX12_likelyFrom_18
  · obtain ⟨q42, k39, k40, k41⟩ := h35
    have q42 := q42.symm
    subst q42
    obtain ⟨B43, k44, k45, w46⟩ := k41
    refine lv_if_eq (tgt := 19) hx hb dX12_likelyFrom_4 (by decide) (fun _ => ?_) (fun c => absurd (by decide) c)
    refine lv_aload_n hx hb dX12_likelyFrom_19 rfl (lv_at hl 0 rfl) ?_
    refine lv_iload_n hx hb dX12_likelyFrom_20 rfl (lv_at hl 1 rfl) ?_
    have p47 : jmb σ B43 = 1 := (jmb_fr rfl rfl rfl rfl rfl B43).trans w46
    have I48 : jI101 σ := ⟨(by omega), (by omega), (by omega), w4, w5, w6, w7⟩
    have I49 : jI103 σ := (show 0 ≤ (σ 55 9).toInt ∧ (σ 55 9).toInt ≤ 3 by omega)
    have I50 : jI105 σ := ⟨(by omega), w18⟩
    have I51 : jI106 σ := ⟨(by omega), w20, w21, w22⟩
    refine jcallV (As := [.int a1]) (rest := []) ⟨hx, hb, hml, hown, hts⟩ hK hP hA hS hZ (c_X12_putsOn l D cI cL ad zz hJ σ τ B43 p47 a1 (A1) t1 I48 I29 I49 I30 I50 I51 I31 hs_jKept (by omega) (by omega) (by omega) (by omega) (by omega)) cw_RX12_321 (jc_55 cI cL ad σ τ) rfl ⟨Nat.le_of_ble_eq_true rfl, Nat.le_of_ble_eq_true rfl⟩ rfl rfl rfl hl.1 rfl (Nat.le_of_ble_eq_true rfl) dX12_likelyFrom_21 ⟨Nat.zero_le _, Nat.zero_le _⟩ (fun r53 σ52 τ52 H locs h52 hP hS => ?_)
    obtain ⟨rfl, f54, f55, p56, h52⟩ := h52
    have h57 := h52
    obtain ⟨q59, k58⟩ := h57
    refine lv_istore_n (lv' := [(3, .int r53), (0, .ref (ad 55)), (1, .int a1), (2, .int a2)]) hx hb dX12_likelyFrom_24 rfl hl (by decide) rfl (fun ls hl => ?_)
    refine lv_aload_n hx hb dX12_likelyFrom_25 rfl (lv_at hl 1 rfl) ?_
    refine va_get (D := D) hx hb hts inlX12 hown hK hP 55 (jc_55 cI cL ad σ52 τ) rfl 11 (by decide) (hts _ kw_7_8) (fun _ h9 => h9) rfl dX12_likelyFrom_26 ?_
    refine lv_aload_n hx hb dX12_likelyFrom_29 rfl (lv_at hl 1 rfl) ?_
    refine va_get (D := D) hx hb hts inlX12 hown hK hP 55 (jc_55 cI cL ad σ52 τ) rfl 25 (by decide) (hts _ kw_23_6) (fun _ h9 => h9) rfl dX12_likelyFrom_30 ?_
    have m60 : σ52 55 25 = (σ 55 25) := (by rw [f55 25 (by omega)])
    refine jtopr m60 ?_
    refine jald hx hb hK hP (jc_62 cI cL ad σ52 τ) (jin rfl (by omega) (by omega)) dX12_likelyFrom_33 ?_
    have w61 : ∀ k : Nat, k < 8 → 0 ≤ (σ52 62 k).toInt ∧ (σ52 62 k).toInt ≤ 3 := (by rw [f54 62 (by omega)]; exact w15)
    have g62 := w61 _ (jnat (x := (σ 55 25)) rfl (n := 8) (by omega) (by decide))
    refine lv_topi (fun x63 ex63 => ?_)
    rw [← ex63] at g62
    refine lv_istore (lv' := [(4, .int x63), (3, .int r53), (0, .ref (ad 55)), (1, .int a1), (2, .int a2)]) hx hb dX12_likelyFrom_34 hl (by decide) rfl (fun ls hl => ?_)
    refine lv_aload_n hx hb dX12_likelyFrom_36 rfl (lv_at hl 2 rfl) ?_
    refine lv_iload_n hx hb dX12_likelyFrom_37 rfl (lv_at hl 1 rfl) ?_
    refine lv_iload hx hb dX12_likelyFrom_38 (lv_at hl 0 rfl) ?_
    have z64 : (σ52 55 5).toInt = (σ 55 5).toInt := by rw [(show σ52 55 5 = (σ 55 5) from (by rw [f55 5 (by omega)]))]
    have z65 : (σ52 55 4).toInt = (σ 55 4).toInt := by rw [(show σ52 55 4 = (σ 55 4) from (by rw [f55 4 (by omega)]))]
    have w66 : ∀ k : Nat, k < 68 → (-200) ≤ (σ52 56 k).toInt ∧ (σ52 56 k).toInt ≤ 500 := (by rw [f54 56 (by omega)]; exact w4)
    have w67 : ∀ k : Nat, k < 40 → 0 ≤ (σ52 57 k).toInt ∧ (σ52 57 k).toInt ≤ 67 := (by rw [f54 57 (by omega)]; exact w5)
    have w68 : ∀ k : Nat, k < 40 → (-200) ≤ (σ52 58 k).toInt ∧ (σ52 58 k).toInt ≤ 500 := (by rw [f54 58 (by omega)]; exact w6)
    have w69 : ∀ k : Nat, k < 40 → (-200) ≤ (σ52 59 k).toInt ∧ (σ52 59 k).toInt ≤ 500 := (by rw [f54 59 (by omega)]; exact w7)
    have I70 : jI101 σ52 := ⟨(by omega), (by omega), (by omega), w66, w67, w68, w69⟩
    have z71 : (σ52 55 6).toInt = (σ 55 6).toInt := by rw [(show σ52 55 6 = (σ 55 6) from (by rw [f55 6 (by omega)]))]
    have w72 : ∀ k : Nat, k < 4 → 0 ≤ (σ52 60 k).toInt ∧ (σ52 60 k).toInt ≤ 50 := (by rw [f54 60 (by omega)]; exact w9)
    have w73 : ∀ k : Nat, k < 4 → 0 ≤ (σ52 61 k).toInt ∧ (σ52 61 k).toInt ≤ 20 := (by rw [f54 61 (by omega)]; exact w10)
    have I74 : jI102 σ52 := ⟨(by omega), w72, w73⟩
    have z75 : (σ52 55 9).toInt = (σ 55 9).toInt := by rw [(show σ52 55 9 = (σ 55 9) from (by rw [f55 9 (by omega)]))]
    have I76 : jI103 σ52 := (show 0 ≤ (σ52 55 9).toInt ∧ (σ52 55 9).toInt ≤ 3 by omega)
    have z77 : (σ52 55 15).toInt = (σ 55 15).toInt := by rw [(show σ52 55 15 = (σ 55 15) from (by rw [f55 15 (by omega)]))]
    have w78 : ∀ k : Nat, k < 2 → (-1) ≤ (σ52 65 k).toInt ∧ (σ52 65 k).toInt ≤ 80 := (by rw [f54 65 (by omega)]; exact w18)
    have I79 : jI105 σ52 := ⟨(by omega), w78⟩
    have w80 : ∀ k : Nat, k < 4 → 0 ≤ (σ52 68 k).toInt ∧ (σ52 68 k).toInt ≤ 3 := (by rw [f54 68 (by omega)]; exact w28)
    refine jcallV (As := [.int r53, .int x63]) (rest := []) ⟨hx, hb, hml, hown, hts⟩ hK hP hA hS hZ (c_X12_outBy l D cI cL ad zz hJ σ52 τ r53 (r53.toInt) rfl x63 (x63.toInt) rfl I70 I74 I76 I79 w80 (by omega) (by omega)) cw_RX12_259 (jc_55 cI cL ad σ52 τ) rfl ⟨Nat.le_of_ble_eq_true rfl, Nat.le_of_ble_eq_true rfl⟩ rfl rfl rfl hl.1 rfl (Nat.le_of_ble_eq_true rfl) dX12_likelyFrom_40 ⟨Nat.zero_le _, Nat.zero_le _⟩ (fun r82 σ81 τ81 H locs h81 hP hS => ?_)
    obtain ⟨rfl, f83, f84, h81⟩ := h81
    have h85 := h81
    obtain ⟨q87, k86⟩ := h85
    refine lv_istore (lv' := [(5, .int r82), (4, .int x63), (3, .int r53), (0, .ref (ad 55)), (1, .int a1), (2, .int a2)]) hx hb dX12_likelyFrom_43 hl (by decide) rfl (fun ls hl => ?_)
    refine lv_iload_n hx hb dX12_likelyFrom_45 rfl (lv_at hl 5 rfl) ?_
    refine lv_aload_n hx hb dX12_likelyFrom_46 rfl (lv_at hl 3 rfl) ?_
    refine lv_iload_n hx hb dX12_likelyFrom_47 rfl (lv_at hl 2 rfl) ?_
    refine lv_iload hx hb dX12_likelyFrom_48 (lv_at hl 1 rfl) ?_
    have z88 : (σ81 55 5).toInt = (σ 55 5).toInt := by rw [(show σ81 55 5 = (σ 55 5) from (by rw [f84 5 (by omega)]; exact (by rw [f55 5 (by omega)])))]
    have z89 : (σ81 55 4).toInt = (σ 55 4).toInt := by rw [(show σ81 55 4 = (σ 55 4) from (by rw [f84 4 (by omega)]; exact (by rw [f55 4 (by omega)])))]
    have w90 : ∀ k : Nat, k < 68 → (-200) ≤ (σ81 56 k).toInt ∧ (σ81 56 k).toInt ≤ 500 := (by rw [f83 56 (by omega)]; exact w66)
    have w91 : ∀ k : Nat, k < 40 → 0 ≤ (σ81 57 k).toInt ∧ (σ81 57 k).toInt ≤ 67 := (by rw [f83 57 (by omega)]; exact w67)
    have w92 : ∀ k : Nat, k < 40 → (-200) ≤ (σ81 58 k).toInt ∧ (σ81 58 k).toInt ≤ 500 := (by rw [f83 58 (by omega)]; exact w68)
    have w93 : ∀ k : Nat, k < 40 → (-200) ≤ (σ81 59 k).toInt ∧ (σ81 59 k).toInt ≤ 500 := (by rw [f83 59 (by omega)]; exact w69)
    have I94 : jI101 σ81 := ⟨(by omega), (by omega), (by omega), w90, w91, w92, w93⟩
    have z95 : (σ81 55 6).toInt = (σ 55 6).toInt := by rw [(show σ81 55 6 = (σ 55 6) from (by rw [f84 6 (by omega)]; exact (by rw [f55 6 (by omega)])))]
    have w96 : ∀ k : Nat, k < 4 → 0 ≤ (σ81 60 k).toInt ∧ (σ81 60 k).toInt ≤ 50 := (by rw [f83 60 (by omega)]; exact w72)
    have w97 : ∀ k : Nat, k < 4 → 0 ≤ (σ81 61 k).toInt ∧ (σ81 61 k).toInt ≤ 20 := (by rw [f83 61 (by omega)]; exact w73)
    have I98 : jI102 σ81 := ⟨(by omega), w96, w97⟩
    have z99 : (σ81 55 9).toInt = (σ 55 9).toInt := by rw [(show σ81 55 9 = (σ 55 9) from (by rw [f84 9 (by omega)]; exact (by rw [f55 9 (by omega)])))]
    have I100 : jI103 σ81 := (show 0 ≤ (σ81 55 9).toInt ∧ (σ81 55 9).toInt ≤ 3 by omega)
    have w101 : ∀ k : Nat, k < 4 → 0 ≤ (σ81 68 k).toInt ∧ (σ81 68 k).toInt ≤ 3 := (by rw [f83 68 (by omega)]; exact w80)
    refine jcallV (As := [.int r53, .int x63]) (rest := [.int a2]) ⟨hx, hb, hml, hown, hts⟩ hK hP hA hS hZ (c_X12_runsBy l D cI cL ad zz hJ σ81 τ r53 (r53.toInt) rfl x63 (x63.toInt) rfl I94 I98 I100 w101 (by omega) (by omega)) cw_RX12_262 (jc_55 cI cL ad σ81 τ) rfl ⟨Nat.le_of_ble_eq_true rfl, Nat.le_of_ble_eq_true rfl⟩ rfl rfl rfl hl.1 rfl (Nat.le_of_ble_eq_true rfl) dX12_likelyFrom_50 ⟨Nat.zero_le _, Nat.zero_le _⟩ (fun r103 σ102 τ102 H locs h102 hP hS => ?_)
    obtain ⟨⟨rfl, rfl⟩, h102⟩ := h102
    have h104 := h102
    obtain ⟨q106, k105⟩ := h104
    have g107 := jrg (rfl : r103.toInt = r103.toInt)
    refine lv_isub hx hb dX12_likelyFrom_53 ?_
    refine lv_topi (fun x108 ex108 => ?_)
    have gx108 := jrg (rfl : x108.toInt = x108.toInt)
    refine lv_istore (lv' := [(6, .int x108), (5, .int r82), (4, .int x63), (3, .int r53), (0, .ref (ad 55)), (1, .int a1), (2, .int a2)]) hx hb dX12_likelyFrom_54 hl (by decide) rfl (fun ls hl => ?_)
    refine lv_aload_n hx hb dX12_likelyFrom_56 rfl (lv_at hl 4 rfl) ?_
    refine lv_iload_n hx hb dX12_likelyFrom_57 rfl (lv_at hl 3 rfl) ?_
    refine lv_iconst (v := 1) hx hb dX12_likelyFrom_58 (by decide) ?_
    have z109 : (σ81 55 27).toInt = (σ 55 27).toInt := by rw [(show σ81 55 27 = (σ 55 27) from (by rw [f84 27 (by omega)]; exact (by rw [f55 27 (by omega)])))]
    have z110 : (σ81 55 25).toInt = (σ 55 25).toInt := by rw [(show σ81 55 25 = (σ 55 25) from (by rw [f84 25 (by omega)]; exact m60))]
    have z111 : (σ81 55 26).toInt = (σ 55 26).toInt := by rw [(show σ81 55 26 = (σ 55 26) from (by rw [f84 26 (by omega)]; exact (by rw [f55 26 (by omega)])))]
    have z112 : (σ81 68 0).toInt = (σ 68 0).toInt := by rw [(show σ81 68 0 = (σ 68 0) from (by rw [f83 68 (by omega)]; exact (by rw [f54 68 (by omega)])))]
    have z113 : (σ81 68 1).toInt = (σ 68 1).toInt := by rw [(show σ81 68 1 = (σ 68 1) from (by rw [f83 68 (by omega)]; exact (by rw [f54 68 (by omega)])))]
    have z114 : (σ81 68 2).toInt = (σ 68 2).toInt := by rw [(show σ81 68 2 = (σ 68 2) from (by rw [f83 68 (by omega)]; exact (by rw [f54 68 (by omega)])))]
    have z115 : (σ81 68 3).toInt = (σ 68 3).toInt := by rw [(show σ81 68 3 = (σ 68 3) from (by rw [f83 68 (by omega)]; exact (by rw [f54 68 (by omega)])))]
    refine jcallV (As := [.int r53, .int 1]) (rest := []) ⟨hx, hb, hml, hown, hts⟩ hK hP hA hS hZ (c_X12_goes_1 l D cI cL ad zz hJ σ81 τ r53 (r53.toInt) rfl w101 (by omega) (by omega) (by omega) (by omega) (by omega)) cw_RX12_296 (jc_55 cI cL ad σ81 τ) rfl ⟨Nat.le_of_ble_eq_true rfl, Nat.le_of_ble_eq_true rfl⟩ rfl rfl rfl hl.1 rfl (Nat.le_of_ble_eq_true rfl) dX12_likelyFrom_59 ⟨Nat.zero_le _, Nat.zero_le _⟩ (fun r117 σ116 τ116 H locs h116 hP hS => ?_)
    obtain ⟨rfl, f118, f119, w120, w121, w122, h116⟩ := h116
    obtain ⟨k123, k124, k125, h116⟩ := h116
    have h126 := h116
    obtain ⟨q132, k127, k128, k129, k130, k131⟩ := h126
    refine lv_istore (lv' := [(7, .int r117), (6, .int x108), (5, .int r82), (4, .int x63), (3, .int r53), (0, .ref (ad 55)), (1, .int a1), (2, .int a2)]) hx hb dX12_likelyFrom_62 hl (by decide) rfl (fun ls hl => ?_)
    refine lv_aload_n hx hb dX12_likelyFrom_64 rfl (lv_at hl 5 rfl) ?_
    refine lv_iload_n hx hb dX12_likelyFrom_65 rfl (lv_at hl 6 rfl) ?_
    refine lv_iload hx hb dX12_likelyFrom_66 (lv_at hl 1 rfl) ?_
    have z133 : (σ116 55 5).toInt = (σ 55 5).toInt := by rw [(show σ116 55 5 = (σ 55 5) from (by rw [f119 5 (by omega)]; exact (by rw [f84 5 (by omega)]; exact (by rw [f55 5 (by omega)]))))]
    have z134 : (σ116 55 4).toInt = (σ 55 4).toInt := by rw [(show σ116 55 4 = (σ 55 4) from (by rw [f119 4 (by omega)]; exact (by rw [f84 4 (by omega)]; exact (by rw [f55 4 (by omega)]))))]
    have w135 : ∀ k : Nat, k < 68 → (-200) ≤ (σ116 56 k).toInt ∧ (σ116 56 k).toInt ≤ 500 := (by rw [f118 56 (by omega)]; exact w90)
    have w136 : ∀ k : Nat, k < 40 → 0 ≤ (σ116 57 k).toInt ∧ (σ116 57 k).toInt ≤ 67 := (by rw [f118 57 (by omega)]; exact w91)
    have w137 : ∀ k : Nat, k < 40 → (-200) ≤ (σ116 58 k).toInt ∧ (σ116 58 k).toInt ≤ 500 := (by rw [f118 58 (by omega)]; exact w92)
    have w138 : ∀ k : Nat, k < 40 → (-200) ≤ (σ116 59 k).toInt ∧ (σ116 59 k).toInt ≤ 500 := (by rw [f118 59 (by omega)]; exact w93)
    have I139 : jI101 σ116 := ⟨(by omega), (by omega), (by omega), w135, w136, w137, w138⟩
    have z140 : (σ116 55 6).toInt = (σ 55 6).toInt := by rw [(show σ116 55 6 = (σ 55 6) from (by rw [f119 6 (by omega)]; exact (by rw [f84 6 (by omega)]; exact (by rw [f55 6 (by omega)]))))]
    have w141 : ∀ k : Nat, k < 4 → 0 ≤ (σ116 60 k).toInt ∧ (σ116 60 k).toInt ≤ 50 := (by rw [f118 60 (by omega)]; exact w96)
    have w142 : ∀ k : Nat, k < 4 → 0 ≤ (σ116 61 k).toInt ∧ (σ116 61 k).toInt ≤ 20 := (by rw [f118 61 (by omega)]; exact w97)
    have I143 : jI102 σ116 := ⟨(by omega), w141, w142⟩
    have z144 : (σ116 55 9).toInt = (σ 55 9).toInt := by rw [(show σ116 55 9 = (σ 55 9) from (by rw [f119 9 (by omega)]; exact (by rw [f84 9 (by omega)]; exact (by rw [f55 9 (by omega)]))))]
    have I145 : jI103 σ116 := (show 0 ≤ (σ116 55 9).toInt ∧ (σ116 55 9).toInt ≤ 3 by omega)
    have z146 : (σ116 55 10).toInt = (σ 55 10).toInt := by rw [(show σ116 55 10 = (σ 55 10) from (by rw [f119 10 (by omega)]; exact (by rw [f84 10 (by omega)]; exact (by rw [f55 10 (by omega)]))))]
    have z147 : (σ116 55 12).toInt = (σ 55 12).toInt := by rw [(show σ116 55 12 = (σ 55 12) from (by rw [f119 12 (by omega)]; exact (by rw [f84 12 (by omega)]; exact (by rw [f55 12 (by omega)]))))]
    have z148 : (σ116 55 13).toInt = (σ 55 13).toInt := by rw [(show σ116 55 13 = (σ 55 13) from (by rw [f119 13 (by omega)]; exact (by rw [f84 13 (by omega)]; exact (by rw [f55 13 (by omega)]))))]
    have w149 : ∀ k : Nat, k < 8 → 0 ≤ (σ116 62 k).toInt ∧ (σ116 62 k).toInt ≤ 3 := (by rw [f118 62 (by omega)]; exact (by rw [f83 62 (by omega)]; exact w61))
    have w150 : ∀ k : Nat, k < 8 → 0 ≤ (σ116 67 k).toInt ∧ (σ116 67 k).toInt ≤ 3 := (by rw [f118 67 (by omega)]; exact (by rw [f83 67 (by omega)]; exact (by rw [f54 67 (by omega)]; exact w16)))
    have I151 : jI104 σ116 := ⟨(by omega), (by omega), (by omega), w149, w150⟩
    have z152 : (σ116 55 15).toInt = (σ 55 15).toInt := by rw [(show σ116 55 15 = (σ 55 15) from (by rw [f119 15 (by omega)]; exact (by rw [f84 15 (by omega)]; exact (by rw [f55 15 (by omega)]))))]
    have w153 : ∀ k : Nat, k < 2 → (-1) ≤ (σ116 65 k).toInt ∧ (σ116 65 k).toInt ≤ 80 := (by rw [f118 65 (by omega)]; exact (by rw [f83 65 (by omega)]; exact w78))
    have I154 : jI105 σ116 := ⟨(by omega), w153⟩
    have z155 : (σ116 55 32).toInt = (σ 55 32).toInt := by rw [(show σ116 55 32 = (σ 55 32) from (by rw [f119 32 (by omega)]; exact (by rw [f84 32 (by omega)]; exact (by rw [f55 32 (by omega)]))))]
    have w156 : ∀ k : Nat, k < 20 → 0 ≤ (σ116 70 k).toInt ∧ (σ116 70 k).toInt ≤ 6 := (by rw [f118 70 (by omega)]; exact (by rw [f83 70 (by omega)]; exact (by rw [f54 70 (by omega)]; exact w20)))
    have w157 : ∀ k : Nat, k < 20 → 0 ≤ (σ116 71 k).toInt ∧ (σ116 71 k).toInt ≤ 8 := (by rw [f118 71 (by omega)]; exact (by rw [f83 71 (by omega)]; exact (by rw [f54 71 (by omega)]; exact w21)))
    have w158 : ∀ k : Nat, k < 160 → 0 ≤ (σ116 72 k).toInt ∧ (σ116 72 k).toInt ≤ 3 := (by rw [f118 72 (by omega)]; exact (by rw [f83 72 (by omega)]; exact (by rw [f54 72 (by omega)]; exact w22)))
    have I159 : jI106 σ116 := ⟨(by omega), w156, w157, w158⟩
    have I160 : jI120 σ116 := ⟨(by omega), (by omega), (by omega), (by omega), (by omega), w120⟩
    have p161 : jKept σ116 := jKept.fr (by rw [f118 75 (by omega), f83 75 (by omega)]) (by rw [f118 76 (by omega), f83 76 (by omega)]) (by rw [f118 77 (by omega), f83 77 (by omega)]) p56
    refine jcallV (As := [.int a1, .int x108]) (rest := []) ⟨hx, hb, hml, hown, hts⟩ hK hP hA hS hZ (c_X12_likelyFrom_2 l D cI cL ad zz hJ σ116 τ a1 (A1) t1 x108 (x108.toInt) rfl I139 I143 I145 I151 I154 I159 I160 p161 (by omega) (by omega)) cw_RX12_328 (jc_55 cI cL ad σ116 τ) rfl ⟨Nat.le_of_ble_eq_true rfl, Nat.le_of_ble_eq_true rfl⟩ rfl rfl rfl hl.1 rfl (Nat.le_of_ble_eq_true rfl) dX12_likelyFrom_68 ⟨Nat.zero_le _, Nat.zero_le _⟩ (fun r163 σ162 τ162 H locs h162 hP hS => ?_)
    obtain ⟨rfl, f164, f165, p166, h162⟩ := h162
    refine lv_istore (lv' := [(8, .int r163), (7, .int r117), (6, .int x108), (5, .int r82), (4, .int x63), (3, .int r53), (0, .ref (ad 55)), (1, .int a1), (2, .int a2)]) hx hb dX12_likelyFrom_71 hl (by decide) rfl (fun ls hl => ?_)
    refine lv_aload_n hx hb dX12_likelyFrom_73 rfl (lv_at hl 6 rfl) ?_
    refine lv_iload_n hx hb dX12_likelyFrom_74 rfl (lv_at hl 5 rfl) ?_
    refine lv_iconst (v := 1) hx hb dX12_likelyFrom_75 (by decide) ?_
    refine lv_iload hx hb dX12_likelyFrom_76 (lv_at hl 1 rfl) ?_
    have w167 : ∀ k : Nat, k < 4 → 0 ≤ (σ162 68 k).toInt ∧ (σ162 68 k).toInt ≤ 3 := (by rw [f164 68 (by omega)]; exact w120)
    have z168 : (σ162 55 25).toInt = (σ116 55 25).toInt := by rw [(show σ162 55 25 = (σ116 55 25) from (by rw [f165 25 (by omega)]))]
    have z169 : (σ162 55 26).toInt = (σ116 55 26).toInt := by rw [(show σ162 55 26 = (σ116 55 26) from (by rw [f165 26 (by omega)]))]
    have z170 : (σ162 55 6).toInt = (σ 55 6).toInt := by rw [(show σ162 55 6 = (σ 55 6) from (by rw [f165 6 (by omega)]; exact (by rw [f119 6 (by omega)]; exact (by rw [f84 6 (by omega)]; exact (by rw [f55 6 (by omega)])))))]
    have w171 : ∀ k : Nat, k < 4 → 0 ≤ (σ81 68 k).toInt ∧ (σ81 68 k).toInt ≤ 3 := w101
    have z173 : (σ81 55 27).toInt = (σ 55 27).toInt := by rw [(show σ81 55 27 = (σ 55 27) from (by rw [f84 27 (by omega)]; exact (by rw [f55 27 (by omega)])))]
    have k172 := jwas (by omega) (w171 0 (by decide)) (w171 1 (by decide)) (w171 2 (by decide)) (w171 3 (by decide)) k127
    rw [← (show σ162 55 6 = σ81 55 6 from (by rw [f165 6 (by omega), f119 6 (by omega)]))] at k172
    refine jcallVv (As := [.int r53, .int 1, .int r117]) (rest := []) ⟨hx, hb, hml, hown, hts⟩ hK hP hA hS hZ (c_X12_goesBack_1 l D cI cL ad zz hJ σ162 τ r53 (r53.toInt) rfl r117 (r117.toInt) rfl w167 (by omega) (by omega) (by omega) k172) cw_RX12_300 (jc_55 cI cL ad σ162 τ) rfl ⟨Nat.le_of_ble_eq_true rfl, Nat.le_of_ble_eq_true rfl⟩ rfl rfl rfl hl.1 rfl (Nat.le_of_ble_eq_true rfl) dX12_likelyFrom_78 ⟨Nat.zero_le _, Nat.zero_le _⟩ (fun σ174 τ174 H locs h174 hP hS => ?_)
    obtain ⟨rfl, f176, f177, w178, w179, w180, h174⟩ := h174
    obtain ⟨k181, k182, k183, k184, h174⟩ := h174
    have p185 : jKept σ174 := jKept.fr (by rw [f176 75 (by omega)]) (by rw [f176 76 (by omega)]) (by rw [f176 77 (by omega)]) p166
    have e186 : σ162 69 = σ116 69 := (by rw [f164 69 (by omega)])
    have e187 : σ174 69 = σ81 69 := jback69 w121 e186 w179
    have e188 : σ162 68 = σ116 68 := (by rw [f164 68 (by omega)])
    have e189 : σ162 55 6 = σ81 55 6 := (by rw [f165 6 (by omega), f119 6 (by omega)])
    have w197 : ∀ k : Nat, k < 4 → 0 ≤ (σ81 68 k).toInt ∧ (σ81 68 k).toInt ≤ 3 := w101
    have w198 : ∀ k : Nat, k < 4 → 0 ≤ (σ174 68 k).toInt ∧ (σ174 68 k).toInt ≤ 3 := w178
    have k199 := k184
    rw [e189] at k199
    have D190 := jdig (w197 0 (by decide)) (w197 1 (by decide)) (w197 2 (by decide)) (w197 3 (by decide)) (w198 0 (by decide)) (w198 1 (by decide)) (w198 2 (by decide)) (w198 3 (by decide)) k127 k199
    have e191 : σ174 55 27 = σ81 55 27 := Int32.toInt_inj.mp (by have h9 := D190.1; omega)
    have z200 : (σ162 55 26).toInt = (σ116 55 26).toInt := by rw [(show σ162 55 26 = (σ116 55 26) from (by rw [f165 26 (by omega)]))]
    have z201 : (σ81 55 26).toInt = (σ 55 26).toInt := by rw [(show σ81 55 26 = (σ 55 26) from (by rw [f84 26 (by omega)]; exact (by rw [f55 26 (by omega)])))]
    have z202 : (σ162 55 25).toInt = (σ116 55 25).toInt := by rw [(show σ162 55 25 = (σ116 55 25) from (by rw [f165 25 (by omega)]))]
    have z203 : (σ81 55 25).toInt = (σ 55 25).toInt := by rw [(show σ81 55 25 = (σ 55 25) from (by rw [f84 25 (by omega)]; exact (by rw [f55 25 (by omega)])))]
    have e192 : σ174 55 26 = σ81 55 26 := Int32.toInt_inj.mp (by omega)
    have e193 : σ174 55 25 = σ81 55 25 := Int32.toInt_inj.mp (by omega)
    have z204 : (σ81 55 6).toInt = (σ 55 6).toInt := by rw [(show σ81 55 6 = (σ 55 6) from (by rw [f84 6 (by omega)]; exact (by rw [f55 6 (by omega)])))]
    have e194 : σ174 68 = σ81 68 := jback68 (nb := (σ81 55 6).toInt) (by omega) w122 e188 (fun k hk => w180 k (by rw [e189]; exact hk)) D190.2
    have f195 : (∀ i : Nat, (i < 55 ∨ 55 < i) ∧ (i < 66 ∨ 66 < i) ∧ (i < 74 ∨ 78 < i) → σ174 i = σ81 i) := fun i hi => by
      by_cases h8 : i = 68
      · rw [h8]; exact e194
      by_cases h9 : i = 69
      · rw [h9]; exact e187
      rw [f176 i (by omega), f164 i (by omega), f118 i (by omega)]
    have f196 : ∀ k : Nat, (k < 18 ∨ 18 < k) ∧ (k < 19 ∨ 19 < k) ∧ (k < 20 ∨ 20 < k) ∧ (k < 21 ∨ 21 < k) ∧ (k < 22 ∨ 22 < k) ∧ (k < 37 ∨ 37 < k) → σ174 55 k = σ81 55 k := fun k hk => by
      by_cases h25 : k = 25
      · rw [h25]; exact e193
      by_cases h26 : k = 26
      · rw [h26]; exact e192
      by_cases h27 : k = 27
      · rw [h27]; exact e191
      rw [f177 k (by omega), f165 k (by omega), f119 k (by omega)]
    clear k199 k184 k127
    refine lv_aload_n hx hb dX12_likelyFrom_81 rfl (lv_at hl 6 rfl) ?_
    refine lv_iload_n hx hb dX12_likelyFrom_82 rfl (lv_at hl 5 rfl) ?_
    refine lv_iconst (v := 0) hx hb dX12_likelyFrom_83 (by decide) ?_
    have w205 : ∀ k : Nat, k < 4 → 0 ≤ (σ174 68 k).toInt ∧ (σ174 68 k).toInt ≤ 3 := (by rw [f195 68 (by omega)]; exact w101)
    have z206 : (σ174 55 6).toInt = (σ 55 6).toInt := by rw [(show σ174 55 6 = (σ 55 6) from (by rw [f196 6 (by omega)]; exact (by rw [f84 6 (by omega)]; exact (by rw [f55 6 (by omega)]))))]
    have z207 : (σ174 55 27).toInt = (σ 55 27).toInt := by rw [(show σ174 55 27 = (σ 55 27) from (by rw [f196 27 (by omega)]; exact (by rw [f84 27 (by omega)]; exact (by rw [f55 27 (by omega)]))))]
    have z208 : (σ174 55 25).toInt = (σ 55 25).toInt := by rw [(show σ174 55 25 = (σ 55 25) from (by rw [f196 25 (by omega)]; exact (by rw [f84 25 (by omega)]; exact m60)))]
    have z209 : (σ174 55 26).toInt = (σ 55 26).toInt := by rw [(show σ174 55 26 = (σ 55 26) from (by rw [f196 26 (by omega)]; exact (by rw [f84 26 (by omega)]; exact (by rw [f55 26 (by omega)]))))]
    have z210 : (σ174 68 0).toInt = (σ 68 0).toInt := by rw [(show σ174 68 0 = (σ 68 0) from (by rw [f195 68 (by omega)]; exact (by rw [f83 68 (by omega)]; exact (by rw [f54 68 (by omega)]))))]
    have z211 : (σ174 68 1).toInt = (σ 68 1).toInt := by rw [(show σ174 68 1 = (σ 68 1) from (by rw [f195 68 (by omega)]; exact (by rw [f83 68 (by omega)]; exact (by rw [f54 68 (by omega)]))))]
    have z212 : (σ174 68 2).toInt = (σ 68 2).toInt := by rw [(show σ174 68 2 = (σ 68 2) from (by rw [f195 68 (by omega)]; exact (by rw [f83 68 (by omega)]; exact (by rw [f54 68 (by omega)]))))]
    have z213 : (σ174 68 3).toInt = (σ 68 3).toInt := by rw [(show σ174 68 3 = (σ 68 3) from (by rw [f195 68 (by omega)]; exact (by rw [f83 68 (by omega)]; exact (by rw [f54 68 (by omega)]))))]
    refine jcallV (As := [.int r53, .int 0]) (rest := []) ⟨hx, hb, hml, hown, hts⟩ hK hP hA hS hZ (c_X12_goes_0 l D cI cL ad zz hJ σ174 τ r53 (r53.toInt) rfl w205 (by omega) (by omega) (by omega) (by omega) (by omega)) cw_RX12_296 (jc_55 cI cL ad σ174 τ) rfl ⟨Nat.le_of_ble_eq_true rfl, Nat.le_of_ble_eq_true rfl⟩ rfl rfl rfl hl.1 rfl (Nat.le_of_ble_eq_true rfl) dX12_likelyFrom_84 ⟨Nat.zero_le _, Nat.zero_le _⟩ (fun r215 σ214 τ214 H locs h214 hP hS => ?_)
    obtain ⟨rfl, f216, f217, w218, w219, w220, h214⟩ := h214
    obtain ⟨k221, k222, k223, h214⟩ := h214
    have h224 := h214
    obtain ⟨q230, k225, k226, k227, k228, k229⟩ := h224
    refine lv_istore (lv' := [(7, .int r215), (8, .int r163), (6, .int x108), (5, .int r82), (4, .int x63), (3, .int r53), (0, .ref (ad 55)), (1, .int a1), (2, .int a2)]) hx hb dX12_likelyFrom_87 hl (by decide) rfl (fun ls hl => ?_)
    refine lv_aload_n hx hb dX12_likelyFrom_89 rfl (lv_at hl 6 rfl) ?_
    refine lv_iload_n hx hb dX12_likelyFrom_90 rfl (lv_at hl 7 rfl) ?_
    refine lv_iload hx hb dX12_likelyFrom_91 (lv_at hl 2 rfl) ?_
    have z231 : (σ214 55 5).toInt = (σ 55 5).toInt := by rw [(show σ214 55 5 = (σ 55 5) from (by rw [f217 5 (by omega)]; exact (by rw [f196 5 (by omega)]; exact (by rw [f84 5 (by omega)]; exact (by rw [f55 5 (by omega)])))))]
    have z232 : (σ214 55 4).toInt = (σ 55 4).toInt := by rw [(show σ214 55 4 = (σ 55 4) from (by rw [f217 4 (by omega)]; exact (by rw [f196 4 (by omega)]; exact (by rw [f84 4 (by omega)]; exact (by rw [f55 4 (by omega)])))))]
    have w233 : ∀ k : Nat, k < 68 → (-200) ≤ (σ214 56 k).toInt ∧ (σ214 56 k).toInt ≤ 500 := (by rw [f216 56 (by omega)]; exact (by rw [f195 56 (by omega)]; exact w90))
    have w234 : ∀ k : Nat, k < 40 → 0 ≤ (σ214 57 k).toInt ∧ (σ214 57 k).toInt ≤ 67 := (by rw [f216 57 (by omega)]; exact (by rw [f195 57 (by omega)]; exact w91))
    have w235 : ∀ k : Nat, k < 40 → (-200) ≤ (σ214 58 k).toInt ∧ (σ214 58 k).toInt ≤ 500 := (by rw [f216 58 (by omega)]; exact (by rw [f195 58 (by omega)]; exact w92))
    have w236 : ∀ k : Nat, k < 40 → (-200) ≤ (σ214 59 k).toInt ∧ (σ214 59 k).toInt ≤ 500 := (by rw [f216 59 (by omega)]; exact (by rw [f195 59 (by omega)]; exact w93))
    have I237 : jI101 σ214 := ⟨(by omega), (by omega), (by omega), w233, w234, w235, w236⟩
    have z238 : (σ214 55 6).toInt = (σ 55 6).toInt := by rw [(show σ214 55 6 = (σ 55 6) from (by rw [f217 6 (by omega)]; exact (by rw [f196 6 (by omega)]; exact (by rw [f84 6 (by omega)]; exact (by rw [f55 6 (by omega)])))))]
    have w239 : ∀ k : Nat, k < 4 → 0 ≤ (σ214 60 k).toInt ∧ (σ214 60 k).toInt ≤ 50 := (by rw [f216 60 (by omega)]; exact (by rw [f195 60 (by omega)]; exact w96))
    have w240 : ∀ k : Nat, k < 4 → 0 ≤ (σ214 61 k).toInt ∧ (σ214 61 k).toInt ≤ 20 := (by rw [f216 61 (by omega)]; exact (by rw [f195 61 (by omega)]; exact w97))
    have I241 : jI102 σ214 := ⟨(by omega), w239, w240⟩
    have z242 : (σ214 55 9).toInt = (σ 55 9).toInt := by rw [(show σ214 55 9 = (σ 55 9) from (by rw [f217 9 (by omega)]; exact (by rw [f196 9 (by omega)]; exact (by rw [f84 9 (by omega)]; exact (by rw [f55 9 (by omega)])))))]
    have I243 : jI103 σ214 := (show 0 ≤ (σ214 55 9).toInt ∧ (σ214 55 9).toInt ≤ 3 by omega)
    have z244 : (σ214 55 10).toInt = (σ 55 10).toInt := by rw [(show σ214 55 10 = (σ 55 10) from (by rw [f217 10 (by omega)]; exact (by rw [f196 10 (by omega)]; exact (by rw [f84 10 (by omega)]; exact (by rw [f55 10 (by omega)])))))]
    have z245 : (σ214 55 12).toInt = (σ 55 12).toInt := by rw [(show σ214 55 12 = (σ 55 12) from (by rw [f217 12 (by omega)]; exact (by rw [f196 12 (by omega)]; exact (by rw [f84 12 (by omega)]; exact (by rw [f55 12 (by omega)])))))]
    have z246 : (σ214 55 13).toInt = (σ 55 13).toInt := by rw [(show σ214 55 13 = (σ 55 13) from (by rw [f217 13 (by omega)]; exact (by rw [f196 13 (by omega)]; exact (by rw [f84 13 (by omega)]; exact (by rw [f55 13 (by omega)])))))]
    have w247 : ∀ k : Nat, k < 8 → 0 ≤ (σ214 62 k).toInt ∧ (σ214 62 k).toInt ≤ 3 := (by rw [f216 62 (by omega)]; exact (by rw [f195 62 (by omega)]; exact (by rw [f83 62 (by omega)]; exact w61)))
    have w248 : ∀ k : Nat, k < 8 → 0 ≤ (σ214 67 k).toInt ∧ (σ214 67 k).toInt ≤ 3 := (by rw [f216 67 (by omega)]; exact (by rw [f195 67 (by omega)]; exact (by rw [f83 67 (by omega)]; exact (by rw [f54 67 (by omega)]; exact w16))))
    have I249 : jI104 σ214 := ⟨(by omega), (by omega), (by omega), w247, w248⟩
    have z250 : (σ214 55 15).toInt = (σ 55 15).toInt := by rw [(show σ214 55 15 = (σ 55 15) from (by rw [f217 15 (by omega)]; exact (by rw [f196 15 (by omega)]; exact (by rw [f84 15 (by omega)]; exact (by rw [f55 15 (by omega)])))))]
    have w251 : ∀ k : Nat, k < 2 → (-1) ≤ (σ214 65 k).toInt ∧ (σ214 65 k).toInt ≤ 80 := (by rw [f216 65 (by omega)]; exact (by rw [f195 65 (by omega)]; exact (by rw [f83 65 (by omega)]; exact w78)))
    have I252 : jI105 σ214 := ⟨(by omega), w251⟩
    have z253 : (σ214 55 32).toInt = (σ 55 32).toInt := by rw [(show σ214 55 32 = (σ 55 32) from (by rw [f217 32 (by omega)]; exact (by rw [f196 32 (by omega)]; exact (by rw [f84 32 (by omega)]; exact (by rw [f55 32 (by omega)])))))]
    have w254 : ∀ k : Nat, k < 20 → 0 ≤ (σ214 70 k).toInt ∧ (σ214 70 k).toInt ≤ 6 := (by rw [f216 70 (by omega)]; exact (by rw [f195 70 (by omega)]; exact (by rw [f83 70 (by omega)]; exact (by rw [f54 70 (by omega)]; exact w20))))
    have w255 : ∀ k : Nat, k < 20 → 0 ≤ (σ214 71 k).toInt ∧ (σ214 71 k).toInt ≤ 8 := (by rw [f216 71 (by omega)]; exact (by rw [f195 71 (by omega)]; exact (by rw [f83 71 (by omega)]; exact (by rw [f54 71 (by omega)]; exact w21))))
    have w256 : ∀ k : Nat, k < 160 → 0 ≤ (σ214 72 k).toInt ∧ (σ214 72 k).toInt ≤ 3 := (by rw [f216 72 (by omega)]; exact (by rw [f195 72 (by omega)]; exact (by rw [f83 72 (by omega)]; exact (by rw [f54 72 (by omega)]; exact w22))))
    have I257 : jI106 σ214 := ⟨(by omega), w254, w255, w256⟩
    have I258 : jI120 σ214 := ⟨(by omega), (by omega), (by omega), (by omega), (by omega), w218⟩
    have p259 : jKept σ214 := jKept.fr (by rw [f216 75 (by omega)]) (by rw [f216 76 (by omega)]) (by rw [f216 77 (by omega)]) p185
    refine jcallV (As := [.int a1, .int x108]) (rest := []) ⟨hx, hb, hml, hown, hts⟩ hK hP hA hS hZ (c_X12_likelyFrom_2 l D cI cL ad zz hJ σ214 τ a1 (A1) t1 x108 (x108.toInt) rfl I237 I241 I243 I249 I252 I257 I258 p259 (by omega) (by omega)) cw_RX12_328 (jc_55 cI cL ad σ214 τ) rfl ⟨Nat.le_of_ble_eq_true rfl, Nat.le_of_ble_eq_true rfl⟩ rfl rfl rfl hl.1 rfl (Nat.le_of_ble_eq_true rfl) dX12_likelyFrom_93 ⟨Nat.zero_le _, Nat.zero_le _⟩ (fun r261 σ260 τ260 H locs h260 hP hS => ?_)
    obtain ⟨rfl, f262, f263, p264, h260⟩ := h260
    refine lv_istore (lv' := [(9, .int r261), (7, .int r215), (8, .int r163), (6, .int x108), (5, .int r82), (4, .int x63), (3, .int r53), (0, .ref (ad 55)), (1, .int a1), (2, .int a2)]) hx hb dX12_likelyFrom_96 hl (by decide) rfl (fun ls hl => ?_)
    refine lv_aload_n hx hb dX12_likelyFrom_98 rfl (lv_at hl 7 rfl) ?_
    refine lv_iload_n hx hb dX12_likelyFrom_99 rfl (lv_at hl 6 rfl) ?_
    refine lv_iconst (v := 0) hx hb dX12_likelyFrom_100 (by decide) ?_
    refine lv_iload hx hb dX12_likelyFrom_101 (lv_at hl 1 rfl) ?_
    have w265 : ∀ k : Nat, k < 4 → 0 ≤ (σ260 68 k).toInt ∧ (σ260 68 k).toInt ≤ 3 := (by rw [f262 68 (by omega)]; exact w218)
    have z266 : (σ260 55 25).toInt = (σ214 55 25).toInt := by rw [(show σ260 55 25 = (σ214 55 25) from (by rw [f263 25 (by omega)]))]
    have z267 : (σ260 55 26).toInt = (σ214 55 26).toInt := by rw [(show σ260 55 26 = (σ214 55 26) from (by rw [f263 26 (by omega)]))]
    have z268 : (σ260 55 6).toInt = (σ 55 6).toInt := by rw [(show σ260 55 6 = (σ 55 6) from (by rw [f263 6 (by omega)]; exact (by rw [f217 6 (by omega)]; exact (by rw [f196 6 (by omega)]; exact (by rw [f84 6 (by omega)]; exact (by rw [f55 6 (by omega)]))))))]
    have w269 : ∀ k : Nat, k < 4 → 0 ≤ (σ174 68 k).toInt ∧ (σ174 68 k).toInt ≤ 3 := w205
    have z271 : (σ174 55 27).toInt = (σ 55 27).toInt := by rw [(show σ174 55 27 = (σ 55 27) from (by rw [f196 27 (by omega)]; exact (by rw [f84 27 (by omega)]; exact (by rw [f55 27 (by omega)]))))]
    have k270 := jwas (by omega) (w269 0 (by decide)) (w269 1 (by decide)) (w269 2 (by decide)) (w269 3 (by decide)) k225
    rw [← (show σ260 55 6 = σ174 55 6 from (by rw [f263 6 (by omega), f217 6 (by omega)]))] at k270
    refine jcallVv (As := [.int r53, .int 0, .int r215]) (rest := []) ⟨hx, hb, hml, hown, hts⟩ hK hP hA hS hZ (c_X12_goesBack_0 l D cI cL ad zz hJ σ260 τ r53 (r53.toInt) rfl r215 (r215.toInt) rfl w265 (by omega) (by omega) (by omega) k270) cw_RX12_300 (jc_55 cI cL ad σ260 τ) rfl ⟨Nat.le_of_ble_eq_true rfl, Nat.le_of_ble_eq_true rfl⟩ rfl rfl rfl hl.1 rfl (Nat.le_of_ble_eq_true rfl) dX12_likelyFrom_103 ⟨Nat.zero_le _, Nat.zero_le _⟩ (fun σ272 τ272 H locs h272 hP hS => ?_)
    obtain ⟨rfl, f274, f275, w276, w277, w278, h272⟩ := h272
    obtain ⟨k279, k280, k281, k282, h272⟩ := h272
    have p283 : jKept σ272 := jKept.fr (by rw [f274 75 (by omega)]) (by rw [f274 76 (by omega)]) (by rw [f274 77 (by omega)]) p264
    have e284 : σ260 69 = σ214 69 := (by rw [f262 69 (by omega)])
    have e285 : σ272 69 = σ174 69 := jback69 w219 e284 w277
    have e286 : σ260 68 = σ214 68 := (by rw [f262 68 (by omega)])
    have e287 : σ260 55 6 = σ174 55 6 := (by rw [f263 6 (by omega), f217 6 (by omega)])
    have w295 : ∀ k : Nat, k < 4 → 0 ≤ (σ174 68 k).toInt ∧ (σ174 68 k).toInt ≤ 3 := w205
    have w296 : ∀ k : Nat, k < 4 → 0 ≤ (σ272 68 k).toInt ∧ (σ272 68 k).toInt ≤ 3 := w276
    have k297 := k282
    rw [e287] at k297
    have D288 := jdig (w295 0 (by decide)) (w295 1 (by decide)) (w295 2 (by decide)) (w295 3 (by decide)) (w296 0 (by decide)) (w296 1 (by decide)) (w296 2 (by decide)) (w296 3 (by decide)) k225 k297
    have e289 : σ272 55 27 = σ174 55 27 := Int32.toInt_inj.mp (by have h9 := D288.1; omega)
    have z298 : (σ260 55 26).toInt = (σ214 55 26).toInt := by rw [(show σ260 55 26 = (σ214 55 26) from (by rw [f263 26 (by omega)]))]
    have z299 : (σ174 55 26).toInt = (σ 55 26).toInt := by rw [(show σ174 55 26 = (σ 55 26) from (by rw [f196 26 (by omega)]; exact (by rw [f84 26 (by omega)]; exact (by rw [f55 26 (by omega)]))))]
    have z300 : (σ260 55 25).toInt = (σ214 55 25).toInt := by rw [(show σ260 55 25 = (σ214 55 25) from (by rw [f263 25 (by omega)]))]
    have z301 : (σ174 55 25).toInt = (σ 55 25).toInt := by rw [(show σ174 55 25 = (σ 55 25) from (by rw [f196 25 (by omega)]; exact (by rw [f84 25 (by omega)]; exact (by rw [f55 25 (by omega)]))))]
    have e290 : σ272 55 26 = σ174 55 26 := Int32.toInt_inj.mp (by omega)
    have e291 : σ272 55 25 = σ174 55 25 := Int32.toInt_inj.mp (by omega)
    have z302 : (σ174 55 6).toInt = (σ 55 6).toInt := by rw [(show σ174 55 6 = (σ 55 6) from (by rw [f196 6 (by omega)]; exact (by rw [f84 6 (by omega)]; exact (by rw [f55 6 (by omega)]))))]
    have e292 : σ272 68 = σ174 68 := jback68 (nb := (σ174 55 6).toInt) (by omega) w220 e286 (fun k hk => w278 k (by rw [e287]; exact hk)) D288.2
    have f293 : (∀ i : Nat, (i < 55 ∨ 55 < i) ∧ (i < 66 ∨ 66 < i) ∧ (i < 74 ∨ 78 < i) → σ272 i = σ174 i) := fun i hi => by
      by_cases h8 : i = 68
      · rw [h8]; exact e292
      by_cases h9 : i = 69
      · rw [h9]; exact e285
      rw [f274 i (by omega), f262 i (by omega), f216 i (by omega)]
    have f294 : ∀ k : Nat, (k < 18 ∨ 18 < k) ∧ (k < 19 ∨ 19 < k) ∧ (k < 20 ∨ 20 < k) ∧ (k < 21 ∨ 21 < k) ∧ (k < 22 ∨ 22 < k) ∧ (k < 37 ∨ 37 < k) → σ272 55 k = σ174 55 k := fun k hk => by
      by_cases h25 : k = 25
      · rw [h25]; exact e291
      by_cases h26 : k = 26
      · rw [h26]; exact e290
      by_cases h27 : k = 27
      · rw [h27]; exact e289
      rw [f275 k (by omega), f263 k (by omega), f217 k (by omega)]
    clear k297 k282 k225
    refine lv_iload hx hb dX12_likelyFrom_106 (lv_at hl 3 rfl) ?_
    refine lv_if_le (tgt := 117) hx hb dX12_likelyFrom_108 (by decide) (fun c303 => ?_) (fun c303 => ?_)
    · have kc303 := jle c303 rfl jz_0
      refine lv_iconst (v := 0) hx hb dX12_likelyFrom_117 (by decide) ?_
      refine lv_iload hx hb dX12_likelyFrom_118 (lv_at hl 2 rfl) ?_
      refine lv_iload hx hb dX12_likelyFrom_120 (lv_at hl 0 rfl) ?_
      refine lv_iload hx hb dX12_likelyFrom_122 (lv_at hl 4 rfl) ?_
      refine jcallS (As := [.int r163, .int r261, .int r82]) (rest := [.int 0]) ⟨hx, hb, hml, hown, hts⟩ hK hP hA hS hZ (c_X12_mixed l D cI cL ad zz hJ σ272 τ r163 (r163.toInt) rfl r261 (r261.toInt) rfl r82 (r82.toInt) rfl) cw_RX12_304 ⟨Nat.le_of_ble_eq_true rfl, Nat.le_of_ble_eq_true rfl⟩ rfl rfl rfl hl.1 rfl (Nat.le_of_ble_eq_true rfl) dX12_likelyFrom_124 ⟨Nat.zero_le _, Nat.zero_le _⟩ (fun r305 σ304 τ304 H locs h304 hP hS => ?_)
      obtain ⟨⟨rfl, rfl⟩, h304⟩ := h304
      refine lv_aload_n hx hb dX12_likelyFrom_127 rfl (lv_at hl 7 rfl) ?_
      refine va_get (D := D) hx hb hts inlX12 hown hK hP 55 (jc_55 cI cL ad σ272 τ) rfl 13 (by decide) (hts _ kw_15_14) (fun _ h9 => h9) rfl dX12_likelyFrom_128 ?_
      have m306 : σ272 55 13 = (σ 55 13) := (by rw [f294 13 (by omega)]; exact (by rw [f196 13 (by omega)]; exact (by rw [f84 13 (by omega)]; exact (by rw [f55 13 (by omega)]))))
      refine jtopr m306 ?_
      refine jcallS (As := [.int 0, .int r305, .int (σ 55 13)]) (rest := []) ⟨hx, hb, hml, hown, hts⟩ hK hP hA hS hZ (c_X12_mixed l D cI cL ad zz hJ σ272 τ 0 (0) jz_0 r305 (r305.toInt) rfl (σ 55 13) ((σ 55 13).toInt) rfl) cw_RX12_304 ⟨Nat.le_of_ble_eq_true rfl, Nat.le_of_ble_eq_true rfl⟩ rfl rfl rfl hl.1 rfl (Nat.le_of_ble_eq_true rfl) dX12_likelyFrom_131 ⟨Nat.zero_le _, Nat.zero_le _⟩ (fun r308 σ307 τ307 H locs h307 hP hS => ?_)
      obtain ⟨⟨rfl, rfl⟩, h307⟩ := h307
      exact hret r308 σ272 τ _ _ _ _ rfl ⟨rfl, (fun i hi => by rw [f293 i (by omega), f195 i (by omega), f83 i (by omega), f54 i (by omega)]), (fun k hk => by rw [f294 k (by omega), f196 k (by omega), f84 k (by omega), f55 k (by omega)]), p283, trivial⟩ hP hS dX12_likelyFrom_134
    · have kc303 := jnle c303 rfl jz_0
      refine lv_ldcw (v := 1000000) hx hb hown (hts _ kw_37_13) dX12_likelyFrom_111 ?_
      refine lv_goto (tgt := 118) hx hb dX12_likelyFrom_114 (by decide) ?_
      refine lv_iload hx hb dX12_likelyFrom_118 (lv_at hl 2 rfl) ?_
      refine lv_iload hx hb dX12_likelyFrom_120 (lv_at hl 0 rfl) ?_
      refine lv_iload hx hb dX12_likelyFrom_122 (lv_at hl 4 rfl) ?_
      refine jcallS (As := [.int r163, .int r261, .int r82]) (rest := [.int 1000000]) ⟨hx, hb, hml, hown, hts⟩ hK hP hA hS hZ (c_X12_mixed l D cI cL ad zz hJ σ272 τ r163 (r163.toInt) rfl r261 (r261.toInt) rfl r82 (r82.toInt) rfl) cw_RX12_304 ⟨Nat.le_of_ble_eq_true rfl, Nat.le_of_ble_eq_true rfl⟩ rfl rfl rfl hl.1 rfl (Nat.le_of_ble_eq_true rfl) dX12_likelyFrom_124 ⟨Nat.zero_le _, Nat.zero_le _⟩ (fun r310 σ309 τ309 H locs h309 hP hS => ?_)
      obtain ⟨⟨rfl, rfl⟩, h309⟩ := h309
      refine lv_aload_n hx hb dX12_likelyFrom_127 rfl (lv_at hl 7 rfl) ?_
      refine va_get (D := D) hx hb hts inlX12 hown hK hP 55 (jc_55 cI cL ad σ272 τ) rfl 13 (by decide) (hts _ kw_15_14) (fun _ h9 => h9) rfl dX12_likelyFrom_128 ?_
      have m311 : σ272 55 13 = (σ 55 13) := (by rw [f294 13 (by omega)]; exact (by rw [f196 13 (by omega)]; exact (by rw [f84 13 (by omega)]; exact (by rw [f55 13 (by omega)]))))
      refine jtopr m311 ?_
      refine jcallS (As := [.int 1000000, .int r310, .int (σ 55 13)]) (rest := []) ⟨hx, hb, hml, hown, hts⟩ hK hP hA hS hZ (c_X12_mixed l D cI cL ad zz hJ σ272 τ 1000000 (1000000) jz_1000000 r310 (r310.toInt) rfl (σ 55 13) ((σ 55 13).toInt) rfl) cw_RX12_304 ⟨Nat.le_of_ble_eq_true rfl, Nat.le_of_ble_eq_true rfl⟩ rfl rfl rfl hl.1 rfl (Nat.le_of_ble_eq_true rfl) dX12_likelyFrom_131 ⟨Nat.zero_le _, Nat.zero_le _⟩ (fun r313 σ312 τ312 H locs h312 hP hS => ?_)
      obtain ⟨⟨rfl, rfl⟩, h312⟩ := h312
      exact hret r313 σ272 τ _ _ _ _ rfl ⟨rfl, (fun i hi => by rw [f293 i (by omega), f195 i (by omega), f83 i (by omega), f54 i (by omega)]), (fun k hk => by rw [f294 k (by omega), f196 k (by omega), f84 k (by omega), f55 k (by omega)]), p283, trivial⟩ hP hS dX12_likelyFrom_134
set_option maxHeartbeats 4000000 in
set_option maxRecDepth 100000 in
theorem c_X12_likelyFrom_4 (l : Launch) (D : va_G) (cI cL : ClassId) (ad zz : Nat → Nat) (hJ : jD ad) (σ : Nat → Nat → Int32) (τ : Nat → Nat → Int64) (a1 : Int32) (A1 : Int) (t1 : a1.toInt = A1) (a2 : Int32) (A2 : Int) (t2 : a2.toInt = A2) (hI101 : jI101 σ) (hI102 : jI102 σ) (hI103 : jI103 σ) (hI104 : jI104 σ) (hI105 : jI105 σ) (hI106 : jI106 σ) (hI120 : jI120 σ) (hs_jKept : jKept σ) (hp0 : 0 ≤ A1 ∧ A1 ≤ 19) (hp1 : (σ 55 12).toInt - (σ 55 26).toInt ≤ 4) : jM l yX12_likelyFrom cX12_likelyFrom 10 (some .int) ({ frames := 66, cells := 0, slots := 0, locals := 1600 }) D cI cL ad zz [.ref (ad 55), .int a1, .int a2] σ τ (fun r σ' τ' => τ = τ' ∧ (∀ i : Nat, (i < 55 ∨ 55 < i) ∧ (i < 66 ∨ 66 < i) ∧ (i < 74 ∨ 78 < i) → σ' i = σ i) ∧ (∀ k : Nat, (k < 18 ∨ 18 < k) ∧ (k < 19 ∨ 19 < k) ∧ (k < 20 ∨ 20 < k) ∧ (k < 21 ∨ 21 < k) ∧ (k < 22 ∨ 22 < k) ∧ (k < 37 ∨ 37 < k) → σ' 55 k = σ 55 k) ∧ (jKept σ') ∧ True) := by
  refine jM.of hJ (by decide +kernel) (nt := .int) rfl (Nat.le_of_ble_eq_true rfl) ?_
  intro p e s m args below meth c Q ls hC hret hl hP
  obtain ⟨hx, hb, hr, hml, hown, hts, hK, -, hlocks, hZ⟩ := hC
  have hown : s.vm.findClass RX12 = some m.cls := hown
  have hS : va_S (jA ad) s.heap s.heap [] := va_S.rf
  have hA : ∀ q, jA ad q → jA ad q := fun _ h => h
  have hl : lv_has ls 10 [(0, .ref (ad 55)), (1, .int a1), (2, .int a2)] := hl
  have g1 := jrg t1
  have g2 := jrg t2
  obtain ⟨i1, i2, i3, w4, w5, w6, w7⟩ : (0 ≤ (σ 55 5).toInt) ∧ ((σ 55 5).toInt ≤ (σ 55 4).toInt) ∧ ((σ 55 4).toInt ≤ 40) ∧ (∀ k : Nat, k < 68 → (-200) ≤ (σ 56 k).toInt ∧ (σ 56 k).toInt ≤ 500) ∧ (∀ k : Nat, k < 40 → 0 ≤ (σ 57 k).toInt ∧ (σ 57 k).toInt ≤ 67) ∧ (∀ k : Nat, k < 40 → (-200) ≤ (σ 58 k).toInt ∧ (σ 58 k).toInt ≤ 500) ∧ (∀ k : Nat, k < 40 → (-200) ≤ (σ 59 k).toInt ∧ (σ 59 k).toInt ≤ 500) := id hI101
  obtain ⟨i8, w9, w10⟩ : (0 ≤ (σ 55 6).toInt ∧ (σ 55 6).toInt ≤ 4) ∧ (∀ k : Nat, k < 4 → 0 ≤ (σ 60 k).toInt ∧ (σ 60 k).toInt ≤ 50) ∧ (∀ k : Nat, k < 4 → 0 ≤ (σ 61 k).toInt ∧ (σ 61 k).toInt ≤ 20) := id hI102
  have i11 : 0 ≤ (σ 55 9).toInt ∧ (σ 55 9).toInt ≤ 3 := hI103
  obtain ⟨i12, i13, i14, w15, w16⟩ : (1 ≤ (σ 55 10).toInt ∧ (σ 55 10).toInt ≤ 8) ∧ (1 ≤ (σ 55 12).toInt ∧ (σ 55 12).toInt ≤ 12) ∧ (0 ≤ (σ 55 13).toInt ∧ (σ 55 13).toInt ≤ 999) ∧ (∀ k : Nat, k < 8 → 0 ≤ (σ 62 k).toInt ∧ (σ 62 k).toInt ≤ 3) ∧ (∀ k : Nat, k < 8 → 0 ≤ (σ 67 k).toInt ∧ (σ 67 k).toInt ≤ 3) := id hI104
  obtain ⟨i17, w18⟩ : (0 ≤ (σ 55 15).toInt ∧ (σ 55 15).toInt ≤ 80) ∧ (∀ k : Nat, k < 2 → (-1) ≤ (σ 65 k).toInt ∧ (σ 65 k).toInt ≤ 80) := id hI105
  obtain ⟨i19, w20, w21, w22⟩ : (0 ≤ (σ 55 32).toInt ∧ (σ 55 32).toInt ≤ 20) ∧ (∀ k : Nat, k < 20 → 0 ≤ (σ 70 k).toInt ∧ (σ 70 k).toInt ≤ 6) ∧ (∀ k : Nat, k < 20 → 0 ≤ (σ 71 k).toInt ∧ (σ 71 k).toInt ≤ 8) ∧ (∀ k : Nat, k < 160 → 0 ≤ (σ 72 k).toInt ∧ (σ 72 k).toInt ≤ 3) := id hI106
  obtain ⟨i23, i24, i25, i26, i27, w28⟩ : (0 ≤ (σ 55 25).toInt) ∧ ((σ 55 25).toInt ≤ (σ 55 10).toInt) ∧ (0 ≤ (σ 55 26).toInt) ∧ ((σ 55 26).toInt ≤ (σ 55 12).toInt) ∧ ((-1) ≤ (σ 55 27).toInt ∧ (σ 55 27).toInt ≤ 3) ∧ (∀ k : Nat, k < 4 → 0 ≤ (σ 68 k).toInt ∧ (σ 68 k).toInt ≤ 3) := id hI120
  refine lv_aload_n hx hb dX12_likelyFrom_0 rfl (lv_at hl 0 rfl) ?_
  have I29 : jI102 σ := ⟨(by omega), w9, w10⟩
  have I30 : jI104 σ := ⟨(by omega), (by omega), (by omega), w15, w16⟩
  have I31 : jI120 σ := ⟨(by omega), (by omega), (by omega), (by omega), (by omega), w28⟩
  refine jcallV (As := []) (rest := []) ⟨hx, hb, hml, hown, hts⟩ hK hP hA hS hZ (c_X12_isEnded l D cI cL ad zz hJ σ τ I29 I30 I31) cw_RX12_307 (jc_55 cI cL ad σ τ) rfl ⟨Nat.le_of_ble_eq_true rfl, Nat.le_of_ble_eq_true rfl⟩ rfl rfl rfl hl.1 rfl (Nat.le_of_ble_eq_true rfl) dX12_likelyFrom_1 ⟨Nat.zero_le _, Nat.zero_le _⟩ (fun r33 σ32 τ32 H locs h32 hP hS => ?_)
  obtain ⟨⟨rfl, rfl⟩, h32⟩ := h32
  rcases h32 with h34 | h35
  · obtain ⟨q37, k36⟩ := h34
    have q37 := q37.symm
    subst q37
    refine lv_if_eq (tgt := 19) hx hb dX12_likelyFrom_4 (by decide) (fun c => absurd c (by decide)) (fun _ => ?_)
    refine lv_iload_n hx hb dX12_likelyFrom_7 rfl (lv_at hl 2 rfl) ?_
    refine lv_if_le (tgt := 17) hx hb dX12_likelyFrom_8 (by decide) (fun c38 => ?_) (fun c38 => ?_)
    · have kc38 := jle c38 t2 jz_0
      refine lv_iconst (v := 0) hx hb dX12_likelyFrom_17 (by decide) ?_
      exact hret 0 σ τ _ _ _ _ rfl ⟨rfl, (fun _ _ => rfl), (fun _ _ => rfl), hs_jKept, trivial⟩ hP hS dX12_likelyFrom_18
    · have kc38 := jnle c38 t2 jz_0
      refine lv_ldcw (v := 1000000) hx hb hown (hts _ kw_37_13) dX12_likelyFrom_11 ?_
      refine lv_goto (tgt := 18) hx hb dX12_likelyFrom_14 (by decide) ?_
      exact hret 1000000 σ τ _ _ _ _ rfl ⟨rfl, (fun _ _ => rfl), (fun _ _ => rfl), hs_jKept, trivial⟩ hP hS dX12_likelyFrom_18
  · obtain ⟨q42, k39, k40, k41⟩ := h35
    have q42 := q42.symm
    subst q42
    obtain ⟨B43, k44, k45, w46⟩ := k41
    refine lv_if_eq (tgt := 19) hx hb dX12_likelyFrom_4 (by decide) (fun _ => ?_) (fun c => absurd (by decide) c)
    refine lv_aload_n hx hb dX12_likelyFrom_19 rfl (lv_at hl 0 rfl) ?_
    refine lv_iload_n hx hb dX12_likelyFrom_20 rfl (lv_at hl 1 rfl) ?_
    have p47 : jmb σ B43 = 1 := (jmb_fr rfl rfl rfl rfl rfl B43).trans w46
    have I48 : jI101 σ := ⟨(by omega), (by omega), (by omega), w4, w5, w6, w7⟩
    have I49 : jI103 σ := (show 0 ≤ (σ 55 9).toInt ∧ (σ 55 9).toInt ≤ 3 by omega)
    have I50 : jI105 σ := ⟨(by omega), w18⟩
    have I51 : jI106 σ := ⟨(by omega), w20, w21, w22⟩
    refine jcallV (As := [.int a1]) (rest := []) ⟨hx, hb, hml, hown, hts⟩ hK hP hA hS hZ (c_X12_putsOn l D cI cL ad zz hJ σ τ B43 p47 a1 (A1) t1 I48 I29 I49 I30 I50 I51 I31 hs_jKept (by omega) (by omega) (by omega) (by omega) (by omega)) cw_RX12_321 (jc_55 cI cL ad σ τ) rfl ⟨Nat.le_of_ble_eq_true rfl, Nat.le_of_ble_eq_true rfl⟩ rfl rfl rfl hl.1 rfl (Nat.le_of_ble_eq_true rfl) dX12_likelyFrom_21 ⟨Nat.zero_le _, Nat.zero_le _⟩ (fun r53 σ52 τ52 H locs h52 hP hS => ?_)
    obtain ⟨rfl, f54, f55, p56, h52⟩ := h52
    have h57 := h52
    obtain ⟨q59, k58⟩ := h57
    refine lv_istore_n (lv' := [(3, .int r53), (0, .ref (ad 55)), (1, .int a1), (2, .int a2)]) hx hb dX12_likelyFrom_24 rfl hl (by decide) rfl (fun ls hl => ?_)
    refine lv_aload_n hx hb dX12_likelyFrom_25 rfl (lv_at hl 1 rfl) ?_
    refine va_get (D := D) hx hb hts inlX12 hown hK hP 55 (jc_55 cI cL ad σ52 τ) rfl 11 (by decide) (hts _ kw_7_8) (fun _ h9 => h9) rfl dX12_likelyFrom_26 ?_
    refine lv_aload_n hx hb dX12_likelyFrom_29 rfl (lv_at hl 1 rfl) ?_
    refine va_get (D := D) hx hb hts inlX12 hown hK hP 55 (jc_55 cI cL ad σ52 τ) rfl 25 (by decide) (hts _ kw_23_6) (fun _ h9 => h9) rfl dX12_likelyFrom_30 ?_
    have m60 : σ52 55 25 = (σ 55 25) := (by rw [f55 25 (by omega)])
    refine jtopr m60 ?_
    refine jald hx hb hK hP (jc_62 cI cL ad σ52 τ) (jin rfl (by omega) (by omega)) dX12_likelyFrom_33 ?_
    have w61 : ∀ k : Nat, k < 8 → 0 ≤ (σ52 62 k).toInt ∧ (σ52 62 k).toInt ≤ 3 := (by rw [f54 62 (by omega)]; exact w15)
    have g62 := w61 _ (jnat (x := (σ 55 25)) rfl (n := 8) (by omega) (by decide))
    refine lv_topi (fun x63 ex63 => ?_)
    rw [← ex63] at g62
    refine lv_istore (lv' := [(4, .int x63), (3, .int r53), (0, .ref (ad 55)), (1, .int a1), (2, .int a2)]) hx hb dX12_likelyFrom_34 hl (by decide) rfl (fun ls hl => ?_)
    refine lv_aload_n hx hb dX12_likelyFrom_36 rfl (lv_at hl 2 rfl) ?_
    refine lv_iload_n hx hb dX12_likelyFrom_37 rfl (lv_at hl 1 rfl) ?_
    refine lv_iload hx hb dX12_likelyFrom_38 (lv_at hl 0 rfl) ?_
    have z64 : (σ52 55 5).toInt = (σ 55 5).toInt := by rw [(show σ52 55 5 = (σ 55 5) from (by rw [f55 5 (by omega)]))]
    have z65 : (σ52 55 4).toInt = (σ 55 4).toInt := by rw [(show σ52 55 4 = (σ 55 4) from (by rw [f55 4 (by omega)]))]
    have w66 : ∀ k : Nat, k < 68 → (-200) ≤ (σ52 56 k).toInt ∧ (σ52 56 k).toInt ≤ 500 := (by rw [f54 56 (by omega)]; exact w4)
    have w67 : ∀ k : Nat, k < 40 → 0 ≤ (σ52 57 k).toInt ∧ (σ52 57 k).toInt ≤ 67 := (by rw [f54 57 (by omega)]; exact w5)
    have w68 : ∀ k : Nat, k < 40 → (-200) ≤ (σ52 58 k).toInt ∧ (σ52 58 k).toInt ≤ 500 := (by rw [f54 58 (by omega)]; exact w6)
    have w69 : ∀ k : Nat, k < 40 → (-200) ≤ (σ52 59 k).toInt ∧ (σ52 59 k).toInt ≤ 500 := (by rw [f54 59 (by omega)]; exact w7)
    have I70 : jI101 σ52 := ⟨(by omega), (by omega), (by omega), w66, w67, w68, w69⟩
    have z71 : (σ52 55 6).toInt = (σ 55 6).toInt := by rw [(show σ52 55 6 = (σ 55 6) from (by rw [f55 6 (by omega)]))]
    have w72 : ∀ k : Nat, k < 4 → 0 ≤ (σ52 60 k).toInt ∧ (σ52 60 k).toInt ≤ 50 := (by rw [f54 60 (by omega)]; exact w9)
    have w73 : ∀ k : Nat, k < 4 → 0 ≤ (σ52 61 k).toInt ∧ (σ52 61 k).toInt ≤ 20 := (by rw [f54 61 (by omega)]; exact w10)
    have I74 : jI102 σ52 := ⟨(by omega), w72, w73⟩
    have z75 : (σ52 55 9).toInt = (σ 55 9).toInt := by rw [(show σ52 55 9 = (σ 55 9) from (by rw [f55 9 (by omega)]))]
    have I76 : jI103 σ52 := (show 0 ≤ (σ52 55 9).toInt ∧ (σ52 55 9).toInt ≤ 3 by omega)
    have z77 : (σ52 55 15).toInt = (σ 55 15).toInt := by rw [(show σ52 55 15 = (σ 55 15) from (by rw [f55 15 (by omega)]))]
    have w78 : ∀ k : Nat, k < 2 → (-1) ≤ (σ52 65 k).toInt ∧ (σ52 65 k).toInt ≤ 80 := (by rw [f54 65 (by omega)]; exact w18)
    have I79 : jI105 σ52 := ⟨(by omega), w78⟩
    have w80 : ∀ k : Nat, k < 4 → 0 ≤ (σ52 68 k).toInt ∧ (σ52 68 k).toInt ≤ 3 := (by rw [f54 68 (by omega)]; exact w28)
    refine jcallV (As := [.int r53, .int x63]) (rest := []) ⟨hx, hb, hml, hown, hts⟩ hK hP hA hS hZ (c_X12_outBy l D cI cL ad zz hJ σ52 τ r53 (r53.toInt) rfl x63 (x63.toInt) rfl I70 I74 I76 I79 w80 (by omega) (by omega)) cw_RX12_259 (jc_55 cI cL ad σ52 τ) rfl ⟨Nat.le_of_ble_eq_true rfl, Nat.le_of_ble_eq_true rfl⟩ rfl rfl rfl hl.1 rfl (Nat.le_of_ble_eq_true rfl) dX12_likelyFrom_40 ⟨Nat.zero_le _, Nat.zero_le _⟩ (fun r82 σ81 τ81 H locs h81 hP hS => ?_)
    obtain ⟨rfl, f83, f84, h81⟩ := h81
    have h85 := h81
    obtain ⟨q87, k86⟩ := h85
    refine lv_istore (lv' := [(5, .int r82), (4, .int x63), (3, .int r53), (0, .ref (ad 55)), (1, .int a1), (2, .int a2)]) hx hb dX12_likelyFrom_43 hl (by decide) rfl (fun ls hl => ?_)
    refine lv_iload_n hx hb dX12_likelyFrom_45 rfl (lv_at hl 5 rfl) ?_
    refine lv_aload_n hx hb dX12_likelyFrom_46 rfl (lv_at hl 3 rfl) ?_
    refine lv_iload_n hx hb dX12_likelyFrom_47 rfl (lv_at hl 2 rfl) ?_
    refine lv_iload hx hb dX12_likelyFrom_48 (lv_at hl 1 rfl) ?_
    have z88 : (σ81 55 5).toInt = (σ 55 5).toInt := by rw [(show σ81 55 5 = (σ 55 5) from (by rw [f84 5 (by omega)]; exact (by rw [f55 5 (by omega)])))]
    have z89 : (σ81 55 4).toInt = (σ 55 4).toInt := by rw [(show σ81 55 4 = (σ 55 4) from (by rw [f84 4 (by omega)]; exact (by rw [f55 4 (by omega)])))]
    have w90 : ∀ k : Nat, k < 68 → (-200) ≤ (σ81 56 k).toInt ∧ (σ81 56 k).toInt ≤ 500 := (by rw [f83 56 (by omega)]; exact w66)
    have w91 : ∀ k : Nat, k < 40 → 0 ≤ (σ81 57 k).toInt ∧ (σ81 57 k).toInt ≤ 67 := (by rw [f83 57 (by omega)]; exact w67)
    have w92 : ∀ k : Nat, k < 40 → (-200) ≤ (σ81 58 k).toInt ∧ (σ81 58 k).toInt ≤ 500 := (by rw [f83 58 (by omega)]; exact w68)
    have w93 : ∀ k : Nat, k < 40 → (-200) ≤ (σ81 59 k).toInt ∧ (σ81 59 k).toInt ≤ 500 := (by rw [f83 59 (by omega)]; exact w69)
    have I94 : jI101 σ81 := ⟨(by omega), (by omega), (by omega), w90, w91, w92, w93⟩
    have z95 : (σ81 55 6).toInt = (σ 55 6).toInt := by rw [(show σ81 55 6 = (σ 55 6) from (by rw [f84 6 (by omega)]; exact (by rw [f55 6 (by omega)])))]
    have w96 : ∀ k : Nat, k < 4 → 0 ≤ (σ81 60 k).toInt ∧ (σ81 60 k).toInt ≤ 50 := (by rw [f83 60 (by omega)]; exact w72)
    have w97 : ∀ k : Nat, k < 4 → 0 ≤ (σ81 61 k).toInt ∧ (σ81 61 k).toInt ≤ 20 := (by rw [f83 61 (by omega)]; exact w73)
    have I98 : jI102 σ81 := ⟨(by omega), w96, w97⟩
    have z99 : (σ81 55 9).toInt = (σ 55 9).toInt := by rw [(show σ81 55 9 = (σ 55 9) from (by rw [f84 9 (by omega)]; exact (by rw [f55 9 (by omega)])))]
    have I100 : jI103 σ81 := (show 0 ≤ (σ81 55 9).toInt ∧ (σ81 55 9).toInt ≤ 3 by omega)
    have w101 : ∀ k : Nat, k < 4 → 0 ≤ (σ81 68 k).toInt ∧ (σ81 68 k).toInt ≤ 3 := (by rw [f83 68 (by omega)]; exact w80)
    refine jcallV (As := [.int r53, .int x63]) (rest := [.int a2]) ⟨hx, hb, hml, hown, hts⟩ hK hP hA hS hZ (c_X12_runsBy l D cI cL ad zz hJ σ81 τ r53 (r53.toInt) rfl x63 (x63.toInt) rfl I94 I98 I100 w101 (by omega) (by omega)) cw_RX12_262 (jc_55 cI cL ad σ81 τ) rfl ⟨Nat.le_of_ble_eq_true rfl, Nat.le_of_ble_eq_true rfl⟩ rfl rfl rfl hl.1 rfl (Nat.le_of_ble_eq_true rfl) dX12_likelyFrom_50 ⟨Nat.zero_le _, Nat.zero_le _⟩ (fun r103 σ102 τ102 H locs h102 hP hS => ?_)
    obtain ⟨⟨rfl, rfl⟩, h102⟩ := h102
    have h104 := h102
    obtain ⟨q106, k105⟩ := h104
    have g107 := jrg (rfl : r103.toInt = r103.toInt)
    refine lv_isub hx hb dX12_likelyFrom_53 ?_
    refine lv_topi (fun x108 ex108 => ?_)
    have gx108 := jrg (rfl : x108.toInt = x108.toInt)
    refine lv_istore (lv' := [(6, .int x108), (5, .int r82), (4, .int x63), (3, .int r53), (0, .ref (ad 55)), (1, .int a1), (2, .int a2)]) hx hb dX12_likelyFrom_54 hl (by decide) rfl (fun ls hl => ?_)
    refine lv_aload_n hx hb dX12_likelyFrom_56 rfl (lv_at hl 4 rfl) ?_
    refine lv_iload_n hx hb dX12_likelyFrom_57 rfl (lv_at hl 3 rfl) ?_
    refine lv_iconst (v := 1) hx hb dX12_likelyFrom_58 (by decide) ?_
    have z109 : (σ81 55 27).toInt = (σ 55 27).toInt := by rw [(show σ81 55 27 = (σ 55 27) from (by rw [f84 27 (by omega)]; exact (by rw [f55 27 (by omega)])))]
    have z110 : (σ81 55 25).toInt = (σ 55 25).toInt := by rw [(show σ81 55 25 = (σ 55 25) from (by rw [f84 25 (by omega)]; exact m60))]
    have z111 : (σ81 55 26).toInt = (σ 55 26).toInt := by rw [(show σ81 55 26 = (σ 55 26) from (by rw [f84 26 (by omega)]; exact (by rw [f55 26 (by omega)])))]
    have z112 : (σ81 68 0).toInt = (σ 68 0).toInt := by rw [(show σ81 68 0 = (σ 68 0) from (by rw [f83 68 (by omega)]; exact (by rw [f54 68 (by omega)])))]
    have z113 : (σ81 68 1).toInt = (σ 68 1).toInt := by rw [(show σ81 68 1 = (σ 68 1) from (by rw [f83 68 (by omega)]; exact (by rw [f54 68 (by omega)])))]
    have z114 : (σ81 68 2).toInt = (σ 68 2).toInt := by rw [(show σ81 68 2 = (σ 68 2) from (by rw [f83 68 (by omega)]; exact (by rw [f54 68 (by omega)])))]
    have z115 : (σ81 68 3).toInt = (σ 68 3).toInt := by rw [(show σ81 68 3 = (σ 68 3) from (by rw [f83 68 (by omega)]; exact (by rw [f54 68 (by omega)])))]
    refine jcallV (As := [.int r53, .int 1]) (rest := []) ⟨hx, hb, hml, hown, hts⟩ hK hP hA hS hZ (c_X12_goes_1 l D cI cL ad zz hJ σ81 τ r53 (r53.toInt) rfl w101 (by omega) (by omega) (by omega) (by omega) (by omega)) cw_RX12_296 (jc_55 cI cL ad σ81 τ) rfl ⟨Nat.le_of_ble_eq_true rfl, Nat.le_of_ble_eq_true rfl⟩ rfl rfl rfl hl.1 rfl (Nat.le_of_ble_eq_true rfl) dX12_likelyFrom_59 ⟨Nat.zero_le _, Nat.zero_le _⟩ (fun r117 σ116 τ116 H locs h116 hP hS => ?_)
    obtain ⟨rfl, f118, f119, w120, w121, w122, h116⟩ := h116
    obtain ⟨k123, k124, k125, h116⟩ := h116
    have h126 := h116
    obtain ⟨q132, k127, k128, k129, k130, k131⟩ := h126
    refine lv_istore (lv' := [(7, .int r117), (6, .int x108), (5, .int r82), (4, .int x63), (3, .int r53), (0, .ref (ad 55)), (1, .int a1), (2, .int a2)]) hx hb dX12_likelyFrom_62 hl (by decide) rfl (fun ls hl => ?_)
    refine lv_aload_n hx hb dX12_likelyFrom_64 rfl (lv_at hl 5 rfl) ?_
    refine lv_iload_n hx hb dX12_likelyFrom_65 rfl (lv_at hl 6 rfl) ?_
    refine lv_iload hx hb dX12_likelyFrom_66 (lv_at hl 1 rfl) ?_
    have z133 : (σ116 55 5).toInt = (σ 55 5).toInt := by rw [(show σ116 55 5 = (σ 55 5) from (by rw [f119 5 (by omega)]; exact (by rw [f84 5 (by omega)]; exact (by rw [f55 5 (by omega)]))))]
    have z134 : (σ116 55 4).toInt = (σ 55 4).toInt := by rw [(show σ116 55 4 = (σ 55 4) from (by rw [f119 4 (by omega)]; exact (by rw [f84 4 (by omega)]; exact (by rw [f55 4 (by omega)]))))]
    have w135 : ∀ k : Nat, k < 68 → (-200) ≤ (σ116 56 k).toInt ∧ (σ116 56 k).toInt ≤ 500 := (by rw [f118 56 (by omega)]; exact w90)
    have w136 : ∀ k : Nat, k < 40 → 0 ≤ (σ116 57 k).toInt ∧ (σ116 57 k).toInt ≤ 67 := (by rw [f118 57 (by omega)]; exact w91)
    have w137 : ∀ k : Nat, k < 40 → (-200) ≤ (σ116 58 k).toInt ∧ (σ116 58 k).toInt ≤ 500 := (by rw [f118 58 (by omega)]; exact w92)
    have w138 : ∀ k : Nat, k < 40 → (-200) ≤ (σ116 59 k).toInt ∧ (σ116 59 k).toInt ≤ 500 := (by rw [f118 59 (by omega)]; exact w93)
    have I139 : jI101 σ116 := ⟨(by omega), (by omega), (by omega), w135, w136, w137, w138⟩
    have z140 : (σ116 55 6).toInt = (σ 55 6).toInt := by rw [(show σ116 55 6 = (σ 55 6) from (by rw [f119 6 (by omega)]; exact (by rw [f84 6 (by omega)]; exact (by rw [f55 6 (by omega)]))))]
    have w141 : ∀ k : Nat, k < 4 → 0 ≤ (σ116 60 k).toInt ∧ (σ116 60 k).toInt ≤ 50 := (by rw [f118 60 (by omega)]; exact w96)
    have w142 : ∀ k : Nat, k < 4 → 0 ≤ (σ116 61 k).toInt ∧ (σ116 61 k).toInt ≤ 20 := (by rw [f118 61 (by omega)]; exact w97)
    have I143 : jI102 σ116 := ⟨(by omega), w141, w142⟩
    have z144 : (σ116 55 9).toInt = (σ 55 9).toInt := by rw [(show σ116 55 9 = (σ 55 9) from (by rw [f119 9 (by omega)]; exact (by rw [f84 9 (by omega)]; exact (by rw [f55 9 (by omega)]))))]
    have I145 : jI103 σ116 := (show 0 ≤ (σ116 55 9).toInt ∧ (σ116 55 9).toInt ≤ 3 by omega)
    have z146 : (σ116 55 10).toInt = (σ 55 10).toInt := by rw [(show σ116 55 10 = (σ 55 10) from (by rw [f119 10 (by omega)]; exact (by rw [f84 10 (by omega)]; exact (by rw [f55 10 (by omega)]))))]
    have z147 : (σ116 55 12).toInt = (σ 55 12).toInt := by rw [(show σ116 55 12 = (σ 55 12) from (by rw [f119 12 (by omega)]; exact (by rw [f84 12 (by omega)]; exact (by rw [f55 12 (by omega)]))))]
    have z148 : (σ116 55 13).toInt = (σ 55 13).toInt := by rw [(show σ116 55 13 = (σ 55 13) from (by rw [f119 13 (by omega)]; exact (by rw [f84 13 (by omega)]; exact (by rw [f55 13 (by omega)]))))]
    have w149 : ∀ k : Nat, k < 8 → 0 ≤ (σ116 62 k).toInt ∧ (σ116 62 k).toInt ≤ 3 := (by rw [f118 62 (by omega)]; exact (by rw [f83 62 (by omega)]; exact w61))
    have w150 : ∀ k : Nat, k < 8 → 0 ≤ (σ116 67 k).toInt ∧ (σ116 67 k).toInt ≤ 3 := (by rw [f118 67 (by omega)]; exact (by rw [f83 67 (by omega)]; exact (by rw [f54 67 (by omega)]; exact w16)))
    have I151 : jI104 σ116 := ⟨(by omega), (by omega), (by omega), w149, w150⟩
    have z152 : (σ116 55 15).toInt = (σ 55 15).toInt := by rw [(show σ116 55 15 = (σ 55 15) from (by rw [f119 15 (by omega)]; exact (by rw [f84 15 (by omega)]; exact (by rw [f55 15 (by omega)]))))]
    have w153 : ∀ k : Nat, k < 2 → (-1) ≤ (σ116 65 k).toInt ∧ (σ116 65 k).toInt ≤ 80 := (by rw [f118 65 (by omega)]; exact (by rw [f83 65 (by omega)]; exact w78))
    have I154 : jI105 σ116 := ⟨(by omega), w153⟩
    have z155 : (σ116 55 32).toInt = (σ 55 32).toInt := by rw [(show σ116 55 32 = (σ 55 32) from (by rw [f119 32 (by omega)]; exact (by rw [f84 32 (by omega)]; exact (by rw [f55 32 (by omega)]))))]
    have w156 : ∀ k : Nat, k < 20 → 0 ≤ (σ116 70 k).toInt ∧ (σ116 70 k).toInt ≤ 6 := (by rw [f118 70 (by omega)]; exact (by rw [f83 70 (by omega)]; exact (by rw [f54 70 (by omega)]; exact w20)))
    have w157 : ∀ k : Nat, k < 20 → 0 ≤ (σ116 71 k).toInt ∧ (σ116 71 k).toInt ≤ 8 := (by rw [f118 71 (by omega)]; exact (by rw [f83 71 (by omega)]; exact (by rw [f54 71 (by omega)]; exact w21)))
    have w158 : ∀ k : Nat, k < 160 → 0 ≤ (σ116 72 k).toInt ∧ (σ116 72 k).toInt ≤ 3 := (by rw [f118 72 (by omega)]; exact (by rw [f83 72 (by omega)]; exact (by rw [f54 72 (by omega)]; exact w22)))
    have I159 : jI106 σ116 := ⟨(by omega), w156, w157, w158⟩
    have I160 : jI120 σ116 := ⟨(by omega), (by omega), (by omega), (by omega), (by omega), w120⟩
    have p161 : jKept σ116 := jKept.fr (by rw [f118 75 (by omega), f83 75 (by omega)]) (by rw [f118 76 (by omega), f83 76 (by omega)]) (by rw [f118 77 (by omega), f83 77 (by omega)]) p56
    refine jcallV (As := [.int a1, .int x108]) (rest := []) ⟨hx, hb, hml, hown, hts⟩ hK hP hA hS hZ (c_X12_likelyFrom_3 l D cI cL ad zz hJ σ116 τ a1 (A1) t1 x108 (x108.toInt) rfl I139 I143 I145 I151 I154 I159 I160 p161 (by omega) (by omega)) cw_RX12_328 (jc_55 cI cL ad σ116 τ) rfl ⟨Nat.le_of_ble_eq_true rfl, Nat.le_of_ble_eq_true rfl⟩ rfl rfl rfl hl.1 rfl (Nat.le_of_ble_eq_true rfl) dX12_likelyFrom_68 ⟨Nat.zero_le _, Nat.zero_le _⟩ (fun r163 σ162 τ162 H locs h162 hP hS => ?_)
    obtain ⟨rfl, f164, f165, p166, h162⟩ := h162
    refine lv_istore (lv' := [(8, .int r163), (7, .int r117), (6, .int x108), (5, .int r82), (4, .int x63), (3, .int r53), (0, .ref (ad 55)), (1, .int a1), (2, .int a2)]) hx hb dX12_likelyFrom_71 hl (by decide) rfl (fun ls hl => ?_)
    refine lv_aload_n hx hb dX12_likelyFrom_73 rfl (lv_at hl 6 rfl) ?_
    refine lv_iload_n hx hb dX12_likelyFrom_74 rfl (lv_at hl 5 rfl) ?_
    refine lv_iconst (v := 1) hx hb dX12_likelyFrom_75 (by decide) ?_
    refine lv_iload hx hb dX12_likelyFrom_76 (lv_at hl 1 rfl) ?_
    have w167 : ∀ k : Nat, k < 4 → 0 ≤ (σ162 68 k).toInt ∧ (σ162 68 k).toInt ≤ 3 := (by rw [f164 68 (by omega)]; exact w120)
    have z168 : (σ162 55 25).toInt = (σ116 55 25).toInt := by rw [(show σ162 55 25 = (σ116 55 25) from (by rw [f165 25 (by omega)]))]
    have z169 : (σ162 55 26).toInt = (σ116 55 26).toInt := by rw [(show σ162 55 26 = (σ116 55 26) from (by rw [f165 26 (by omega)]))]
    have z170 : (σ162 55 6).toInt = (σ 55 6).toInt := by rw [(show σ162 55 6 = (σ 55 6) from (by rw [f165 6 (by omega)]; exact (by rw [f119 6 (by omega)]; exact (by rw [f84 6 (by omega)]; exact (by rw [f55 6 (by omega)])))))]
    have w171 : ∀ k : Nat, k < 4 → 0 ≤ (σ81 68 k).toInt ∧ (σ81 68 k).toInt ≤ 3 := w101
    have z173 : (σ81 55 27).toInt = (σ 55 27).toInt := by rw [(show σ81 55 27 = (σ 55 27) from (by rw [f84 27 (by omega)]; exact (by rw [f55 27 (by omega)])))]
    have k172 := jwas (by omega) (w171 0 (by decide)) (w171 1 (by decide)) (w171 2 (by decide)) (w171 3 (by decide)) k127
    rw [← (show σ162 55 6 = σ81 55 6 from (by rw [f165 6 (by omega), f119 6 (by omega)]))] at k172
    refine jcallVv (As := [.int r53, .int 1, .int r117]) (rest := []) ⟨hx, hb, hml, hown, hts⟩ hK hP hA hS hZ (c_X12_goesBack_1 l D cI cL ad zz hJ σ162 τ r53 (r53.toInt) rfl r117 (r117.toInt) rfl w167 (by omega) (by omega) (by omega) k172) cw_RX12_300 (jc_55 cI cL ad σ162 τ) rfl ⟨Nat.le_of_ble_eq_true rfl, Nat.le_of_ble_eq_true rfl⟩ rfl rfl rfl hl.1 rfl (Nat.le_of_ble_eq_true rfl) dX12_likelyFrom_78 ⟨Nat.zero_le _, Nat.zero_le _⟩ (fun σ174 τ174 H locs h174 hP hS => ?_)
    obtain ⟨rfl, f176, f177, w178, w179, w180, h174⟩ := h174
    obtain ⟨k181, k182, k183, k184, h174⟩ := h174
    have p185 : jKept σ174 := jKept.fr (by rw [f176 75 (by omega)]) (by rw [f176 76 (by omega)]) (by rw [f176 77 (by omega)]) p166
    have e186 : σ162 69 = σ116 69 := (by rw [f164 69 (by omega)])
    have e187 : σ174 69 = σ81 69 := jback69 w121 e186 w179
    have e188 : σ162 68 = σ116 68 := (by rw [f164 68 (by omega)])
    have e189 : σ162 55 6 = σ81 55 6 := (by rw [f165 6 (by omega), f119 6 (by omega)])
    have w197 : ∀ k : Nat, k < 4 → 0 ≤ (σ81 68 k).toInt ∧ (σ81 68 k).toInt ≤ 3 := w101
    have w198 : ∀ k : Nat, k < 4 → 0 ≤ (σ174 68 k).toInt ∧ (σ174 68 k).toInt ≤ 3 := w178
    have k199 := k184
    rw [e189] at k199
    have D190 := jdig (w197 0 (by decide)) (w197 1 (by decide)) (w197 2 (by decide)) (w197 3 (by decide)) (w198 0 (by decide)) (w198 1 (by decide)) (w198 2 (by decide)) (w198 3 (by decide)) k127 k199
    have e191 : σ174 55 27 = σ81 55 27 := Int32.toInt_inj.mp (by have h9 := D190.1; omega)
    have z200 : (σ162 55 26).toInt = (σ116 55 26).toInt := by rw [(show σ162 55 26 = (σ116 55 26) from (by rw [f165 26 (by omega)]))]
    have z201 : (σ81 55 26).toInt = (σ 55 26).toInt := by rw [(show σ81 55 26 = (σ 55 26) from (by rw [f84 26 (by omega)]; exact (by rw [f55 26 (by omega)])))]
    have z202 : (σ162 55 25).toInt = (σ116 55 25).toInt := by rw [(show σ162 55 25 = (σ116 55 25) from (by rw [f165 25 (by omega)]))]
    have z203 : (σ81 55 25).toInt = (σ 55 25).toInt := by rw [(show σ81 55 25 = (σ 55 25) from (by rw [f84 25 (by omega)]; exact (by rw [f55 25 (by omega)])))]
    have e192 : σ174 55 26 = σ81 55 26 := Int32.toInt_inj.mp (by omega)
    have e193 : σ174 55 25 = σ81 55 25 := Int32.toInt_inj.mp (by omega)
    have z204 : (σ81 55 6).toInt = (σ 55 6).toInt := by rw [(show σ81 55 6 = (σ 55 6) from (by rw [f84 6 (by omega)]; exact (by rw [f55 6 (by omega)])))]
    have e194 : σ174 68 = σ81 68 := jback68 (nb := (σ81 55 6).toInt) (by omega) w122 e188 (fun k hk => w180 k (by rw [e189]; exact hk)) D190.2
    have f195 : (∀ i : Nat, (i < 55 ∨ 55 < i) ∧ (i < 66 ∨ 66 < i) ∧ (i < 74 ∨ 78 < i) → σ174 i = σ81 i) := fun i hi => by
      by_cases h8 : i = 68
      · rw [h8]; exact e194
      by_cases h9 : i = 69
      · rw [h9]; exact e187
      rw [f176 i (by omega), f164 i (by omega), f118 i (by omega)]
    have f196 : ∀ k : Nat, (k < 18 ∨ 18 < k) ∧ (k < 19 ∨ 19 < k) ∧ (k < 20 ∨ 20 < k) ∧ (k < 21 ∨ 21 < k) ∧ (k < 22 ∨ 22 < k) ∧ (k < 37 ∨ 37 < k) → σ174 55 k = σ81 55 k := fun k hk => by
      by_cases h25 : k = 25
      · rw [h25]; exact e193
      by_cases h26 : k = 26
      · rw [h26]; exact e192
      by_cases h27 : k = 27
      · rw [h27]; exact e191
      rw [f177 k (by omega), f165 k (by omega), f119 k (by omega)]
    clear k199 k184 k127
    refine lv_aload_n hx hb dX12_likelyFrom_81 rfl (lv_at hl 6 rfl) ?_
    refine lv_iload_n hx hb dX12_likelyFrom_82 rfl (lv_at hl 5 rfl) ?_
    refine lv_iconst (v := 0) hx hb dX12_likelyFrom_83 (by decide) ?_
    have w205 : ∀ k : Nat, k < 4 → 0 ≤ (σ174 68 k).toInt ∧ (σ174 68 k).toInt ≤ 3 := (by rw [f195 68 (by omega)]; exact w101)
    have z206 : (σ174 55 6).toInt = (σ 55 6).toInt := by rw [(show σ174 55 6 = (σ 55 6) from (by rw [f196 6 (by omega)]; exact (by rw [f84 6 (by omega)]; exact (by rw [f55 6 (by omega)]))))]
    have z207 : (σ174 55 27).toInt = (σ 55 27).toInt := by rw [(show σ174 55 27 = (σ 55 27) from (by rw [f196 27 (by omega)]; exact (by rw [f84 27 (by omega)]; exact (by rw [f55 27 (by omega)]))))]
    have z208 : (σ174 55 25).toInt = (σ 55 25).toInt := by rw [(show σ174 55 25 = (σ 55 25) from (by rw [f196 25 (by omega)]; exact (by rw [f84 25 (by omega)]; exact m60)))]
    have z209 : (σ174 55 26).toInt = (σ 55 26).toInt := by rw [(show σ174 55 26 = (σ 55 26) from (by rw [f196 26 (by omega)]; exact (by rw [f84 26 (by omega)]; exact (by rw [f55 26 (by omega)]))))]
    have z210 : (σ174 68 0).toInt = (σ 68 0).toInt := by rw [(show σ174 68 0 = (σ 68 0) from (by rw [f195 68 (by omega)]; exact (by rw [f83 68 (by omega)]; exact (by rw [f54 68 (by omega)]))))]
    have z211 : (σ174 68 1).toInt = (σ 68 1).toInt := by rw [(show σ174 68 1 = (σ 68 1) from (by rw [f195 68 (by omega)]; exact (by rw [f83 68 (by omega)]; exact (by rw [f54 68 (by omega)]))))]
    have z212 : (σ174 68 2).toInt = (σ 68 2).toInt := by rw [(show σ174 68 2 = (σ 68 2) from (by rw [f195 68 (by omega)]; exact (by rw [f83 68 (by omega)]; exact (by rw [f54 68 (by omega)]))))]
    have z213 : (σ174 68 3).toInt = (σ 68 3).toInt := by rw [(show σ174 68 3 = (σ 68 3) from (by rw [f195 68 (by omega)]; exact (by rw [f83 68 (by omega)]; exact (by rw [f54 68 (by omega)]))))]
    refine jcallV (As := [.int r53, .int 0]) (rest := []) ⟨hx, hb, hml, hown, hts⟩ hK hP hA hS hZ (c_X12_goes_0 l D cI cL ad zz hJ σ174 τ r53 (r53.toInt) rfl w205 (by omega) (by omega) (by omega) (by omega) (by omega)) cw_RX12_296 (jc_55 cI cL ad σ174 τ) rfl ⟨Nat.le_of_ble_eq_true rfl, Nat.le_of_ble_eq_true rfl⟩ rfl rfl rfl hl.1 rfl (Nat.le_of_ble_eq_true rfl) dX12_likelyFrom_84 ⟨Nat.zero_le _, Nat.zero_le _⟩ (fun r215 σ214 τ214 H locs h214 hP hS => ?_)
    obtain ⟨rfl, f216, f217, w218, w219, w220, h214⟩ := h214
    obtain ⟨k221, k222, k223, h214⟩ := h214
    have h224 := h214
    obtain ⟨q230, k225, k226, k227, k228, k229⟩ := h224
    refine lv_istore (lv' := [(7, .int r215), (8, .int r163), (6, .int x108), (5, .int r82), (4, .int x63), (3, .int r53), (0, .ref (ad 55)), (1, .int a1), (2, .int a2)]) hx hb dX12_likelyFrom_87 hl (by decide) rfl (fun ls hl => ?_)
    refine lv_aload_n hx hb dX12_likelyFrom_89 rfl (lv_at hl 6 rfl) ?_
    refine lv_iload_n hx hb dX12_likelyFrom_90 rfl (lv_at hl 7 rfl) ?_
    refine lv_iload hx hb dX12_likelyFrom_91 (lv_at hl 2 rfl) ?_
    have z231 : (σ214 55 5).toInt = (σ 55 5).toInt := by rw [(show σ214 55 5 = (σ 55 5) from (by rw [f217 5 (by omega)]; exact (by rw [f196 5 (by omega)]; exact (by rw [f84 5 (by omega)]; exact (by rw [f55 5 (by omega)])))))]
    have z232 : (σ214 55 4).toInt = (σ 55 4).toInt := by rw [(show σ214 55 4 = (σ 55 4) from (by rw [f217 4 (by omega)]; exact (by rw [f196 4 (by omega)]; exact (by rw [f84 4 (by omega)]; exact (by rw [f55 4 (by omega)])))))]
    have w233 : ∀ k : Nat, k < 68 → (-200) ≤ (σ214 56 k).toInt ∧ (σ214 56 k).toInt ≤ 500 := (by rw [f216 56 (by omega)]; exact (by rw [f195 56 (by omega)]; exact w90))
    have w234 : ∀ k : Nat, k < 40 → 0 ≤ (σ214 57 k).toInt ∧ (σ214 57 k).toInt ≤ 67 := (by rw [f216 57 (by omega)]; exact (by rw [f195 57 (by omega)]; exact w91))
    have w235 : ∀ k : Nat, k < 40 → (-200) ≤ (σ214 58 k).toInt ∧ (σ214 58 k).toInt ≤ 500 := (by rw [f216 58 (by omega)]; exact (by rw [f195 58 (by omega)]; exact w92))
    have w236 : ∀ k : Nat, k < 40 → (-200) ≤ (σ214 59 k).toInt ∧ (σ214 59 k).toInt ≤ 500 := (by rw [f216 59 (by omega)]; exact (by rw [f195 59 (by omega)]; exact w93))
    have I237 : jI101 σ214 := ⟨(by omega), (by omega), (by omega), w233, w234, w235, w236⟩
    have z238 : (σ214 55 6).toInt = (σ 55 6).toInt := by rw [(show σ214 55 6 = (σ 55 6) from (by rw [f217 6 (by omega)]; exact (by rw [f196 6 (by omega)]; exact (by rw [f84 6 (by omega)]; exact (by rw [f55 6 (by omega)])))))]
    have w239 : ∀ k : Nat, k < 4 → 0 ≤ (σ214 60 k).toInt ∧ (σ214 60 k).toInt ≤ 50 := (by rw [f216 60 (by omega)]; exact (by rw [f195 60 (by omega)]; exact w96))
    have w240 : ∀ k : Nat, k < 4 → 0 ≤ (σ214 61 k).toInt ∧ (σ214 61 k).toInt ≤ 20 := (by rw [f216 61 (by omega)]; exact (by rw [f195 61 (by omega)]; exact w97))
    have I241 : jI102 σ214 := ⟨(by omega), w239, w240⟩
    have z242 : (σ214 55 9).toInt = (σ 55 9).toInt := by rw [(show σ214 55 9 = (σ 55 9) from (by rw [f217 9 (by omega)]; exact (by rw [f196 9 (by omega)]; exact (by rw [f84 9 (by omega)]; exact (by rw [f55 9 (by omega)])))))]
    have I243 : jI103 σ214 := (show 0 ≤ (σ214 55 9).toInt ∧ (σ214 55 9).toInt ≤ 3 by omega)
    have z244 : (σ214 55 10).toInt = (σ 55 10).toInt := by rw [(show σ214 55 10 = (σ 55 10) from (by rw [f217 10 (by omega)]; exact (by rw [f196 10 (by omega)]; exact (by rw [f84 10 (by omega)]; exact (by rw [f55 10 (by omega)])))))]
    have z245 : (σ214 55 12).toInt = (σ 55 12).toInt := by rw [(show σ214 55 12 = (σ 55 12) from (by rw [f217 12 (by omega)]; exact (by rw [f196 12 (by omega)]; exact (by rw [f84 12 (by omega)]; exact (by rw [f55 12 (by omega)])))))]
    have z246 : (σ214 55 13).toInt = (σ 55 13).toInt := by rw [(show σ214 55 13 = (σ 55 13) from (by rw [f217 13 (by omega)]; exact (by rw [f196 13 (by omega)]; exact (by rw [f84 13 (by omega)]; exact (by rw [f55 13 (by omega)])))))]
    have w247 : ∀ k : Nat, k < 8 → 0 ≤ (σ214 62 k).toInt ∧ (σ214 62 k).toInt ≤ 3 := (by rw [f216 62 (by omega)]; exact (by rw [f195 62 (by omega)]; exact (by rw [f83 62 (by omega)]; exact w61)))
    have w248 : ∀ k : Nat, k < 8 → 0 ≤ (σ214 67 k).toInt ∧ (σ214 67 k).toInt ≤ 3 := (by rw [f216 67 (by omega)]; exact (by rw [f195 67 (by omega)]; exact (by rw [f83 67 (by omega)]; exact (by rw [f54 67 (by omega)]; exact w16))))
    have I249 : jI104 σ214 := ⟨(by omega), (by omega), (by omega), w247, w248⟩
    have z250 : (σ214 55 15).toInt = (σ 55 15).toInt := by rw [(show σ214 55 15 = (σ 55 15) from (by rw [f217 15 (by omega)]; exact (by rw [f196 15 (by omega)]; exact (by rw [f84 15 (by omega)]; exact (by rw [f55 15 (by omega)])))))]
    have w251 : ∀ k : Nat, k < 2 → (-1) ≤ (σ214 65 k).toInt ∧ (σ214 65 k).toInt ≤ 80 := (by rw [f216 65 (by omega)]; exact (by rw [f195 65 (by omega)]; exact (by rw [f83 65 (by omega)]; exact w78)))
    have I252 : jI105 σ214 := ⟨(by omega), w251⟩
    have z253 : (σ214 55 32).toInt = (σ 55 32).toInt := by rw [(show σ214 55 32 = (σ 55 32) from (by rw [f217 32 (by omega)]; exact (by rw [f196 32 (by omega)]; exact (by rw [f84 32 (by omega)]; exact (by rw [f55 32 (by omega)])))))]
    have w254 : ∀ k : Nat, k < 20 → 0 ≤ (σ214 70 k).toInt ∧ (σ214 70 k).toInt ≤ 6 := (by rw [f216 70 (by omega)]; exact (by rw [f195 70 (by omega)]; exact (by rw [f83 70 (by omega)]; exact (by rw [f54 70 (by omega)]; exact w20))))
    have w255 : ∀ k : Nat, k < 20 → 0 ≤ (σ214 71 k).toInt ∧ (σ214 71 k).toInt ≤ 8 := (by rw [f216 71 (by omega)]; exact (by rw [f195 71 (by omega)]; exact (by rw [f83 71 (by omega)]; exact (by rw [f54 71 (by omega)]; exact w21))))
    have w256 : ∀ k : Nat, k < 160 → 0 ≤ (σ214 72 k).toInt ∧ (σ214 72 k).toInt ≤ 3 := (by rw [f216 72 (by omega)]; exact (by rw [f195 72 (by omega)]; exact (by rw [f83 72 (by omega)]; exact (by rw [f54 72 (by omega)]; exact w22))))
    have I257 : jI106 σ214 := ⟨(by omega), w254, w255, w256⟩
    have I258 : jI120 σ214 := ⟨(by omega), (by omega), (by omega), (by omega), (by omega), w218⟩
    have p259 : jKept σ214 := jKept.fr (by rw [f216 75 (by omega)]) (by rw [f216 76 (by omega)]) (by rw [f216 77 (by omega)]) p185
    refine jcallV (As := [.int a1, .int x108]) (rest := []) ⟨hx, hb, hml, hown, hts⟩ hK hP hA hS hZ (c_X12_likelyFrom_3 l D cI cL ad zz hJ σ214 τ a1 (A1) t1 x108 (x108.toInt) rfl I237 I241 I243 I249 I252 I257 I258 p259 (by omega) (by omega)) cw_RX12_328 (jc_55 cI cL ad σ214 τ) rfl ⟨Nat.le_of_ble_eq_true rfl, Nat.le_of_ble_eq_true rfl⟩ rfl rfl rfl hl.1 rfl (Nat.le_of_ble_eq_true rfl) dX12_likelyFrom_93 ⟨Nat.zero_le _, Nat.zero_le _⟩ (fun r261 σ260 τ260 H locs h260 hP hS => ?_)
    obtain ⟨rfl, f262, f263, p264, h260⟩ := h260
    refine lv_istore (lv' := [(9, .int r261), (7, .int r215), (8, .int r163), (6, .int x108), (5, .int r82), (4, .int x63), (3, .int r53), (0, .ref (ad 55)), (1, .int a1), (2, .int a2)]) hx hb dX12_likelyFrom_96 hl (by decide) rfl (fun ls hl => ?_)
    refine lv_aload_n hx hb dX12_likelyFrom_98 rfl (lv_at hl 7 rfl) ?_
    refine lv_iload_n hx hb dX12_likelyFrom_99 rfl (lv_at hl 6 rfl) ?_
    refine lv_iconst (v := 0) hx hb dX12_likelyFrom_100 (by decide) ?_
    refine lv_iload hx hb dX12_likelyFrom_101 (lv_at hl 1 rfl) ?_
    have w265 : ∀ k : Nat, k < 4 → 0 ≤ (σ260 68 k).toInt ∧ (σ260 68 k).toInt ≤ 3 := (by rw [f262 68 (by omega)]; exact w218)
    have z266 : (σ260 55 25).toInt = (σ214 55 25).toInt := by rw [(show σ260 55 25 = (σ214 55 25) from (by rw [f263 25 (by omega)]))]
    have z267 : (σ260 55 26).toInt = (σ214 55 26).toInt := by rw [(show σ260 55 26 = (σ214 55 26) from (by rw [f263 26 (by omega)]))]
    have z268 : (σ260 55 6).toInt = (σ 55 6).toInt := by rw [(show σ260 55 6 = (σ 55 6) from (by rw [f263 6 (by omega)]; exact (by rw [f217 6 (by omega)]; exact (by rw [f196 6 (by omega)]; exact (by rw [f84 6 (by omega)]; exact (by rw [f55 6 (by omega)]))))))]
    have w269 : ∀ k : Nat, k < 4 → 0 ≤ (σ174 68 k).toInt ∧ (σ174 68 k).toInt ≤ 3 := w205
    have z271 : (σ174 55 27).toInt = (σ 55 27).toInt := by rw [(show σ174 55 27 = (σ 55 27) from (by rw [f196 27 (by omega)]; exact (by rw [f84 27 (by omega)]; exact (by rw [f55 27 (by omega)]))))]
    have k270 := jwas (by omega) (w269 0 (by decide)) (w269 1 (by decide)) (w269 2 (by decide)) (w269 3 (by decide)) k225
    rw [← (show σ260 55 6 = σ174 55 6 from (by rw [f263 6 (by omega), f217 6 (by omega)]))] at k270
    refine jcallVv (As := [.int r53, .int 0, .int r215]) (rest := []) ⟨hx, hb, hml, hown, hts⟩ hK hP hA hS hZ (c_X12_goesBack_0 l D cI cL ad zz hJ σ260 τ r53 (r53.toInt) rfl r215 (r215.toInt) rfl w265 (by omega) (by omega) (by omega) k270) cw_RX12_300 (jc_55 cI cL ad σ260 τ) rfl ⟨Nat.le_of_ble_eq_true rfl, Nat.le_of_ble_eq_true rfl⟩ rfl rfl rfl hl.1 rfl (Nat.le_of_ble_eq_true rfl) dX12_likelyFrom_103 ⟨Nat.zero_le _, Nat.zero_le _⟩ (fun σ272 τ272 H locs h272 hP hS => ?_)
    obtain ⟨rfl, f274, f275, w276, w277, w278, h272⟩ := h272
    obtain ⟨k279, k280, k281, k282, h272⟩ := h272
    have p283 : jKept σ272 := jKept.fr (by rw [f274 75 (by omega)]) (by rw [f274 76 (by omega)]) (by rw [f274 77 (by omega)]) p264
    have e284 : σ260 69 = σ214 69 := (by rw [f262 69 (by omega)])
    have e285 : σ272 69 = σ174 69 := jback69 w219 e284 w277
    have e286 : σ260 68 = σ214 68 := (by rw [f262 68 (by omega)])
    have e287 : σ260 55 6 = σ174 55 6 := (by rw [f263 6 (by omega), f217 6 (by omega)])
    have w295 : ∀ k : Nat, k < 4 → 0 ≤ (σ174 68 k).toInt ∧ (σ174 68 k).toInt ≤ 3 := w205
    have w296 : ∀ k : Nat, k < 4 → 0 ≤ (σ272 68 k).toInt ∧ (σ272 68 k).toInt ≤ 3 := w276
    have k297 := k282
    rw [e287] at k297
    have D288 := jdig (w295 0 (by decide)) (w295 1 (by decide)) (w295 2 (by decide)) (w295 3 (by decide)) (w296 0 (by decide)) (w296 1 (by decide)) (w296 2 (by decide)) (w296 3 (by decide)) k225 k297
    have e289 : σ272 55 27 = σ174 55 27 := Int32.toInt_inj.mp (by have h9 := D288.1; omega)
    have z298 : (σ260 55 26).toInt = (σ214 55 26).toInt := by rw [(show σ260 55 26 = (σ214 55 26) from (by rw [f263 26 (by omega)]))]
    have z299 : (σ174 55 26).toInt = (σ 55 26).toInt := by rw [(show σ174 55 26 = (σ 55 26) from (by rw [f196 26 (by omega)]; exact (by rw [f84 26 (by omega)]; exact (by rw [f55 26 (by omega)]))))]
    have z300 : (σ260 55 25).toInt = (σ214 55 25).toInt := by rw [(show σ260 55 25 = (σ214 55 25) from (by rw [f263 25 (by omega)]))]
    have z301 : (σ174 55 25).toInt = (σ 55 25).toInt := by rw [(show σ174 55 25 = (σ 55 25) from (by rw [f196 25 (by omega)]; exact (by rw [f84 25 (by omega)]; exact (by rw [f55 25 (by omega)]))))]
    have e290 : σ272 55 26 = σ174 55 26 := Int32.toInt_inj.mp (by omega)
    have e291 : σ272 55 25 = σ174 55 25 := Int32.toInt_inj.mp (by omega)
    have z302 : (σ174 55 6).toInt = (σ 55 6).toInt := by rw [(show σ174 55 6 = (σ 55 6) from (by rw [f196 6 (by omega)]; exact (by rw [f84 6 (by omega)]; exact (by rw [f55 6 (by omega)]))))]
    have e292 : σ272 68 = σ174 68 := jback68 (nb := (σ174 55 6).toInt) (by omega) w220 e286 (fun k hk => w278 k (by rw [e287]; exact hk)) D288.2
    have f293 : (∀ i : Nat, (i < 55 ∨ 55 < i) ∧ (i < 66 ∨ 66 < i) ∧ (i < 74 ∨ 78 < i) → σ272 i = σ174 i) := fun i hi => by
      by_cases h8 : i = 68
      · rw [h8]; exact e292
      by_cases h9 : i = 69
      · rw [h9]; exact e285
      rw [f274 i (by omega), f262 i (by omega), f216 i (by omega)]
    have f294 : ∀ k : Nat, (k < 18 ∨ 18 < k) ∧ (k < 19 ∨ 19 < k) ∧ (k < 20 ∨ 20 < k) ∧ (k < 21 ∨ 21 < k) ∧ (k < 22 ∨ 22 < k) ∧ (k < 37 ∨ 37 < k) → σ272 55 k = σ174 55 k := fun k hk => by
      by_cases h25 : k = 25
      · rw [h25]; exact e291
      by_cases h26 : k = 26
      · rw [h26]; exact e290
      by_cases h27 : k = 27
      · rw [h27]; exact e289
      rw [f275 k (by omega), f263 k (by omega), f217 k (by omega)]
    clear k297 k282 k225
    refine lv_iload hx hb dX12_likelyFrom_106 (lv_at hl 3 rfl) ?_
    refine lv_if_le (tgt := 117) hx hb dX12_likelyFrom_108 (by decide) (fun c303 => ?_) (fun c303 => ?_)
    · have kc303 := jle c303 rfl jz_0
      refine lv_iconst (v := 0) hx hb dX12_likelyFrom_117 (by decide) ?_
      refine lv_iload hx hb dX12_likelyFrom_118 (lv_at hl 2 rfl) ?_
      refine lv_iload hx hb dX12_likelyFrom_120 (lv_at hl 0 rfl) ?_
      refine lv_iload hx hb dX12_likelyFrom_122 (lv_at hl 4 rfl) ?_
      refine jcallS (As := [.int r163, .int r261, .int r82]) (rest := [.int 0]) ⟨hx, hb, hml, hown, hts⟩ hK hP hA hS hZ (c_X12_mixed l D cI cL ad zz hJ σ272 τ r163 (r163.toInt) rfl r261 (r261.toInt) rfl r82 (r82.toInt) rfl) cw_RX12_304 ⟨Nat.le_of_ble_eq_true rfl, Nat.le_of_ble_eq_true rfl⟩ rfl rfl rfl hl.1 rfl (Nat.le_of_ble_eq_true rfl) dX12_likelyFrom_124 ⟨Nat.zero_le _, Nat.zero_le _⟩ (fun r305 σ304 τ304 H locs h304 hP hS => ?_)
      obtain ⟨⟨rfl, rfl⟩, h304⟩ := h304
      refine lv_aload_n hx hb dX12_likelyFrom_127 rfl (lv_at hl 7 rfl) ?_
      refine va_get (D := D) hx hb hts inlX12 hown hK hP 55 (jc_55 cI cL ad σ272 τ) rfl 13 (by decide) (hts _ kw_15_14) (fun _ h9 => h9) rfl dX12_likelyFrom_128 ?_
      have m306 : σ272 55 13 = (σ 55 13) := (by rw [f294 13 (by omega)]; exact (by rw [f196 13 (by omega)]; exact (by rw [f84 13 (by omega)]; exact (by rw [f55 13 (by omega)]))))
      refine jtopr m306 ?_
      refine jcallS (As := [.int 0, .int r305, .int (σ 55 13)]) (rest := []) ⟨hx, hb, hml, hown, hts⟩ hK hP hA hS hZ (c_X12_mixed l D cI cL ad zz hJ σ272 τ 0 (0) jz_0 r305 (r305.toInt) rfl (σ 55 13) ((σ 55 13).toInt) rfl) cw_RX12_304 ⟨Nat.le_of_ble_eq_true rfl, Nat.le_of_ble_eq_true rfl⟩ rfl rfl rfl hl.1 rfl (Nat.le_of_ble_eq_true rfl) dX12_likelyFrom_131 ⟨Nat.zero_le _, Nat.zero_le _⟩ (fun r308 σ307 τ307 H locs h307 hP hS => ?_)
      obtain ⟨⟨rfl, rfl⟩, h307⟩ := h307
      exact hret r308 σ272 τ _ _ _ _ rfl ⟨rfl, (fun i hi => by rw [f293 i (by omega), f195 i (by omega), f83 i (by omega), f54 i (by omega)]), (fun k hk => by rw [f294 k (by omega), f196 k (by omega), f84 k (by omega), f55 k (by omega)]), p283, trivial⟩ hP hS dX12_likelyFrom_134
    · have kc303 := jnle c303 rfl jz_0
      refine lv_ldcw (v := 1000000) hx hb hown (hts _ kw_37_13) dX12_likelyFrom_111 ?_
      refine lv_goto (tgt := 118) hx hb dX12_likelyFrom_114 (by decide) ?_
      refine lv_iload hx hb dX12_likelyFrom_118 (lv_at hl 2 rfl) ?_
      refine lv_iload hx hb dX12_likelyFrom_120 (lv_at hl 0 rfl) ?_
      refine lv_iload hx hb dX12_likelyFrom_122 (lv_at hl 4 rfl) ?_
      refine jcallS (As := [.int r163, .int r261, .int r82]) (rest := [.int 1000000]) ⟨hx, hb, hml, hown, hts⟩ hK hP hA hS hZ (c_X12_mixed l D cI cL ad zz hJ σ272 τ r163 (r163.toInt) rfl r261 (r261.toInt) rfl r82 (r82.toInt) rfl) cw_RX12_304 ⟨Nat.le_of_ble_eq_true rfl, Nat.le_of_ble_eq_true rfl⟩ rfl rfl rfl hl.1 rfl (Nat.le_of_ble_eq_true rfl) dX12_likelyFrom_124 ⟨Nat.zero_le _, Nat.zero_le _⟩ (fun r310 σ309 τ309 H locs h309 hP hS => ?_)
      obtain ⟨⟨rfl, rfl⟩, h309⟩ := h309
      refine lv_aload_n hx hb dX12_likelyFrom_127 rfl (lv_at hl 7 rfl) ?_
      refine va_get (D := D) hx hb hts inlX12 hown hK hP 55 (jc_55 cI cL ad σ272 τ) rfl 13 (by decide) (hts _ kw_15_14) (fun _ h9 => h9) rfl dX12_likelyFrom_128 ?_
      have m311 : σ272 55 13 = (σ 55 13) := (by rw [f294 13 (by omega)]; exact (by rw [f196 13 (by omega)]; exact (by rw [f84 13 (by omega)]; exact (by rw [f55 13 (by omega)]))))
      refine jtopr m311 ?_
      refine jcallS (As := [.int 1000000, .int r310, .int (σ 55 13)]) (rest := []) ⟨hx, hb, hml, hown, hts⟩ hK hP hA hS hZ (c_X12_mixed l D cI cL ad zz hJ σ272 τ 1000000 (1000000) jz_1000000 r310 (r310.toInt) rfl (σ 55 13) ((σ 55 13).toInt) rfl) cw_RX12_304 ⟨Nat.le_of_ble_eq_true rfl, Nat.le_of_ble_eq_true rfl⟩ rfl rfl rfl hl.1 rfl (Nat.le_of_ble_eq_true rfl) dX12_likelyFrom_131 ⟨Nat.zero_le _, Nat.zero_le _⟩ (fun r313 σ312 τ312 H locs h312 hP hS => ?_)
      obtain ⟨⟨rfl, rfl⟩, h312⟩ := h312
      exact hret r313 σ272 τ _ _ _ _ rfl ⟨rfl, (fun i hi => by rw [f293 i (by omega), f195 i (by omega), f83 i (by omega), f54 i (by omega)]), (fun k hk => by rw [f294 k (by omega), f196 k (by omega), f84 k (by omega), f55 k (by omega)]), p283, trivial⟩ hP hS dX12_likelyFrom_134
set_option maxHeartbeats 4000000 in
set_option maxRecDepth 100000 in
theorem c_X12_likelyFrom_5 (l : Launch) (D : va_G) (cI cL : ClassId) (ad zz : Nat → Nat) (hJ : jD ad) (σ : Nat → Nat → Int32) (τ : Nat → Nat → Int64) (a1 : Int32) (A1 : Int) (t1 : a1.toInt = A1) (a2 : Int32) (A2 : Int) (t2 : a2.toInt = A2) (hI101 : jI101 σ) (hI102 : jI102 σ) (hI103 : jI103 σ) (hI104 : jI104 σ) (hI105 : jI105 σ) (hI106 : jI106 σ) (hI120 : jI120 σ) (hs_jKept : jKept σ) (hp0 : 0 ≤ A1 ∧ A1 ≤ 19) (hp1 : (σ 55 12).toInt - (σ 55 26).toInt ≤ 5) : jM l yX12_likelyFrom cX12_likelyFrom 10 (some .int) ({ frames := 67, cells := 0, slots := 0, locals := 1629 }) D cI cL ad zz [.ref (ad 55), .int a1, .int a2] σ τ (fun r σ' τ' => τ = τ' ∧ (∀ i : Nat, (i < 55 ∨ 55 < i) ∧ (i < 66 ∨ 66 < i) ∧ (i < 74 ∨ 78 < i) → σ' i = σ i) ∧ (∀ k : Nat, (k < 18 ∨ 18 < k) ∧ (k < 19 ∨ 19 < k) ∧ (k < 20 ∨ 20 < k) ∧ (k < 21 ∨ 21 < k) ∧ (k < 22 ∨ 22 < k) ∧ (k < 37 ∨ 37 < k) → σ' 55 k = σ 55 k) ∧ (jKept σ') ∧ True) := by
  refine jM.of hJ (by decide +kernel) (nt := .int) rfl (Nat.le_of_ble_eq_true rfl) ?_
  intro p e s m args below meth c Q ls hC hret hl hP
  obtain ⟨hx, hb, hr, hml, hown, hts, hK, -, hlocks, hZ⟩ := hC
  have hown : s.vm.findClass RX12 = some m.cls := hown
  have hS : va_S (jA ad) s.heap s.heap [] := va_S.rf
  have hA : ∀ q, jA ad q → jA ad q := fun _ h => h
  have hl : lv_has ls 10 [(0, .ref (ad 55)), (1, .int a1), (2, .int a2)] := hl
  have g1 := jrg t1
  have g2 := jrg t2
  obtain ⟨i1, i2, i3, w4, w5, w6, w7⟩ : (0 ≤ (σ 55 5).toInt) ∧ ((σ 55 5).toInt ≤ (σ 55 4).toInt) ∧ ((σ 55 4).toInt ≤ 40) ∧ (∀ k : Nat, k < 68 → (-200) ≤ (σ 56 k).toInt ∧ (σ 56 k).toInt ≤ 500) ∧ (∀ k : Nat, k < 40 → 0 ≤ (σ 57 k).toInt ∧ (σ 57 k).toInt ≤ 67) ∧ (∀ k : Nat, k < 40 → (-200) ≤ (σ 58 k).toInt ∧ (σ 58 k).toInt ≤ 500) ∧ (∀ k : Nat, k < 40 → (-200) ≤ (σ 59 k).toInt ∧ (σ 59 k).toInt ≤ 500) := id hI101
  obtain ⟨i8, w9, w10⟩ : (0 ≤ (σ 55 6).toInt ∧ (σ 55 6).toInt ≤ 4) ∧ (∀ k : Nat, k < 4 → 0 ≤ (σ 60 k).toInt ∧ (σ 60 k).toInt ≤ 50) ∧ (∀ k : Nat, k < 4 → 0 ≤ (σ 61 k).toInt ∧ (σ 61 k).toInt ≤ 20) := id hI102
  have i11 : 0 ≤ (σ 55 9).toInt ∧ (σ 55 9).toInt ≤ 3 := hI103
  obtain ⟨i12, i13, i14, w15, w16⟩ : (1 ≤ (σ 55 10).toInt ∧ (σ 55 10).toInt ≤ 8) ∧ (1 ≤ (σ 55 12).toInt ∧ (σ 55 12).toInt ≤ 12) ∧ (0 ≤ (σ 55 13).toInt ∧ (σ 55 13).toInt ≤ 999) ∧ (∀ k : Nat, k < 8 → 0 ≤ (σ 62 k).toInt ∧ (σ 62 k).toInt ≤ 3) ∧ (∀ k : Nat, k < 8 → 0 ≤ (σ 67 k).toInt ∧ (σ 67 k).toInt ≤ 3) := id hI104
  obtain ⟨i17, w18⟩ : (0 ≤ (σ 55 15).toInt ∧ (σ 55 15).toInt ≤ 80) ∧ (∀ k : Nat, k < 2 → (-1) ≤ (σ 65 k).toInt ∧ (σ 65 k).toInt ≤ 80) := id hI105
  obtain ⟨i19, w20, w21, w22⟩ : (0 ≤ (σ 55 32).toInt ∧ (σ 55 32).toInt ≤ 20) ∧ (∀ k : Nat, k < 20 → 0 ≤ (σ 70 k).toInt ∧ (σ 70 k).toInt ≤ 6) ∧ (∀ k : Nat, k < 20 → 0 ≤ (σ 71 k).toInt ∧ (σ 71 k).toInt ≤ 8) ∧ (∀ k : Nat, k < 160 → 0 ≤ (σ 72 k).toInt ∧ (σ 72 k).toInt ≤ 3) := id hI106
  obtain ⟨i23, i24, i25, i26, i27, w28⟩ : (0 ≤ (σ 55 25).toInt) ∧ ((σ 55 25).toInt ≤ (σ 55 10).toInt) ∧ (0 ≤ (σ 55 26).toInt) ∧ ((σ 55 26).toInt ≤ (σ 55 12).toInt) ∧ ((-1) ≤ (σ 55 27).toInt ∧ (σ 55 27).toInt ≤ 3) ∧ (∀ k : Nat, k < 4 → 0 ≤ (σ 68 k).toInt ∧ (σ 68 k).toInt ≤ 3) := id hI120
  refine lv_aload_n hx hb dX12_likelyFrom_0 rfl (lv_at hl 0 rfl) ?_
  have I29 : jI102 σ := ⟨(by omega), w9, w10⟩
  have I30 : jI104 σ := ⟨(by omega), (by omega), (by omega), w15, w16⟩
  have I31 : jI120 σ := ⟨(by omega), (by omega), (by omega), (by omega), (by omega), w28⟩
  refine jcallV (As := []) (rest := []) ⟨hx, hb, hml, hown, hts⟩ hK hP hA hS hZ (c_X12_isEnded l D cI cL ad zz hJ σ τ I29 I30 I31) cw_RX12_307 (jc_55 cI cL ad σ τ) rfl ⟨Nat.le_of_ble_eq_true rfl, Nat.le_of_ble_eq_true rfl⟩ rfl rfl rfl hl.1 rfl (Nat.le_of_ble_eq_true rfl) dX12_likelyFrom_1 ⟨Nat.zero_le _, Nat.zero_le _⟩ (fun r33 σ32 τ32 H locs h32 hP hS => ?_)
  obtain ⟨⟨rfl, rfl⟩, h32⟩ := h32
  rcases h32 with h34 | h35
  · obtain ⟨q37, k36⟩ := h34
    have q37 := q37.symm
    subst q37
    refine lv_if_eq (tgt := 19) hx hb dX12_likelyFrom_4 (by decide) (fun c => absurd c (by decide)) (fun _ => ?_)
    refine lv_iload_n hx hb dX12_likelyFrom_7 rfl (lv_at hl 2 rfl) ?_
    refine lv_if_le (tgt := 17) hx hb dX12_likelyFrom_8 (by decide) (fun c38 => ?_) (fun c38 => ?_)
    · have kc38 := jle c38 t2 jz_0
      refine lv_iconst (v := 0) hx hb dX12_likelyFrom_17 (by decide) ?_
      exact hret 0 σ τ _ _ _ _ rfl ⟨rfl, (fun _ _ => rfl), (fun _ _ => rfl), hs_jKept, trivial⟩ hP hS dX12_likelyFrom_18
    · have kc38 := jnle c38 t2 jz_0
      refine lv_ldcw (v := 1000000) hx hb hown (hts _ kw_37_13) dX12_likelyFrom_11 ?_
      refine lv_goto (tgt := 18) hx hb dX12_likelyFrom_14 (by decide) ?_
      exact hret 1000000 σ τ _ _ _ _ rfl ⟨rfl, (fun _ _ => rfl), (fun _ _ => rfl), hs_jKept, trivial⟩ hP hS dX12_likelyFrom_18
  · obtain ⟨q42, k39, k40, k41⟩ := h35
    have q42 := q42.symm
    subst q42
    obtain ⟨B43, k44, k45, w46⟩ := k41
    refine lv_if_eq (tgt := 19) hx hb dX12_likelyFrom_4 (by decide) (fun _ => ?_) (fun c => absurd (by decide) c)
    refine lv_aload_n hx hb dX12_likelyFrom_19 rfl (lv_at hl 0 rfl) ?_
    refine lv_iload_n hx hb dX12_likelyFrom_20 rfl (lv_at hl 1 rfl) ?_
    have p47 : jmb σ B43 = 1 := (jmb_fr rfl rfl rfl rfl rfl B43).trans w46
    have I48 : jI101 σ := ⟨(by omega), (by omega), (by omega), w4, w5, w6, w7⟩
    have I49 : jI103 σ := (show 0 ≤ (σ 55 9).toInt ∧ (σ 55 9).toInt ≤ 3 by omega)
    have I50 : jI105 σ := ⟨(by omega), w18⟩
    have I51 : jI106 σ := ⟨(by omega), w20, w21, w22⟩
    refine jcallV (As := [.int a1]) (rest := []) ⟨hx, hb, hml, hown, hts⟩ hK hP hA hS hZ (c_X12_putsOn l D cI cL ad zz hJ σ τ B43 p47 a1 (A1) t1 I48 I29 I49 I30 I50 I51 I31 hs_jKept (by omega) (by omega) (by omega) (by omega) (by omega)) cw_RX12_321 (jc_55 cI cL ad σ τ) rfl ⟨Nat.le_of_ble_eq_true rfl, Nat.le_of_ble_eq_true rfl⟩ rfl rfl rfl hl.1 rfl (Nat.le_of_ble_eq_true rfl) dX12_likelyFrom_21 ⟨Nat.zero_le _, Nat.zero_le _⟩ (fun r53 σ52 τ52 H locs h52 hP hS => ?_)
    obtain ⟨rfl, f54, f55, p56, h52⟩ := h52
    have h57 := h52
    obtain ⟨q59, k58⟩ := h57
    refine lv_istore_n (lv' := [(3, .int r53), (0, .ref (ad 55)), (1, .int a1), (2, .int a2)]) hx hb dX12_likelyFrom_24 rfl hl (by decide) rfl (fun ls hl => ?_)
    refine lv_aload_n hx hb dX12_likelyFrom_25 rfl (lv_at hl 1 rfl) ?_
    refine va_get (D := D) hx hb hts inlX12 hown hK hP 55 (jc_55 cI cL ad σ52 τ) rfl 11 (by decide) (hts _ kw_7_8) (fun _ h9 => h9) rfl dX12_likelyFrom_26 ?_
    refine lv_aload_n hx hb dX12_likelyFrom_29 rfl (lv_at hl 1 rfl) ?_
    refine va_get (D := D) hx hb hts inlX12 hown hK hP 55 (jc_55 cI cL ad σ52 τ) rfl 25 (by decide) (hts _ kw_23_6) (fun _ h9 => h9) rfl dX12_likelyFrom_30 ?_
    have m60 : σ52 55 25 = (σ 55 25) := (by rw [f55 25 (by omega)])
    refine jtopr m60 ?_
    refine jald hx hb hK hP (jc_62 cI cL ad σ52 τ) (jin rfl (by omega) (by omega)) dX12_likelyFrom_33 ?_
    have w61 : ∀ k : Nat, k < 8 → 0 ≤ (σ52 62 k).toInt ∧ (σ52 62 k).toInt ≤ 3 := (by rw [f54 62 (by omega)]; exact w15)
    have g62 := w61 _ (jnat (x := (σ 55 25)) rfl (n := 8) (by omega) (by decide))
    refine lv_topi (fun x63 ex63 => ?_)
    rw [← ex63] at g62
    refine lv_istore (lv' := [(4, .int x63), (3, .int r53), (0, .ref (ad 55)), (1, .int a1), (2, .int a2)]) hx hb dX12_likelyFrom_34 hl (by decide) rfl (fun ls hl => ?_)
    refine lv_aload_n hx hb dX12_likelyFrom_36 rfl (lv_at hl 2 rfl) ?_
    refine lv_iload_n hx hb dX12_likelyFrom_37 rfl (lv_at hl 1 rfl) ?_
    refine lv_iload hx hb dX12_likelyFrom_38 (lv_at hl 0 rfl) ?_
    have z64 : (σ52 55 5).toInt = (σ 55 5).toInt := by rw [(show σ52 55 5 = (σ 55 5) from (by rw [f55 5 (by omega)]))]
    have z65 : (σ52 55 4).toInt = (σ 55 4).toInt := by rw [(show σ52 55 4 = (σ 55 4) from (by rw [f55 4 (by omega)]))]
    have w66 : ∀ k : Nat, k < 68 → (-200) ≤ (σ52 56 k).toInt ∧ (σ52 56 k).toInt ≤ 500 := (by rw [f54 56 (by omega)]; exact w4)
    have w67 : ∀ k : Nat, k < 40 → 0 ≤ (σ52 57 k).toInt ∧ (σ52 57 k).toInt ≤ 67 := (by rw [f54 57 (by omega)]; exact w5)
    have w68 : ∀ k : Nat, k < 40 → (-200) ≤ (σ52 58 k).toInt ∧ (σ52 58 k).toInt ≤ 500 := (by rw [f54 58 (by omega)]; exact w6)
    have w69 : ∀ k : Nat, k < 40 → (-200) ≤ (σ52 59 k).toInt ∧ (σ52 59 k).toInt ≤ 500 := (by rw [f54 59 (by omega)]; exact w7)
    have I70 : jI101 σ52 := ⟨(by omega), (by omega), (by omega), w66, w67, w68, w69⟩
    have z71 : (σ52 55 6).toInt = (σ 55 6).toInt := by rw [(show σ52 55 6 = (σ 55 6) from (by rw [f55 6 (by omega)]))]
    have w72 : ∀ k : Nat, k < 4 → 0 ≤ (σ52 60 k).toInt ∧ (σ52 60 k).toInt ≤ 50 := (by rw [f54 60 (by omega)]; exact w9)
    have w73 : ∀ k : Nat, k < 4 → 0 ≤ (σ52 61 k).toInt ∧ (σ52 61 k).toInt ≤ 20 := (by rw [f54 61 (by omega)]; exact w10)
    have I74 : jI102 σ52 := ⟨(by omega), w72, w73⟩
    have z75 : (σ52 55 9).toInt = (σ 55 9).toInt := by rw [(show σ52 55 9 = (σ 55 9) from (by rw [f55 9 (by omega)]))]
    have I76 : jI103 σ52 := (show 0 ≤ (σ52 55 9).toInt ∧ (σ52 55 9).toInt ≤ 3 by omega)
    have z77 : (σ52 55 15).toInt = (σ 55 15).toInt := by rw [(show σ52 55 15 = (σ 55 15) from (by rw [f55 15 (by omega)]))]
    have w78 : ∀ k : Nat, k < 2 → (-1) ≤ (σ52 65 k).toInt ∧ (σ52 65 k).toInt ≤ 80 := (by rw [f54 65 (by omega)]; exact w18)
    have I79 : jI105 σ52 := ⟨(by omega), w78⟩
    have w80 : ∀ k : Nat, k < 4 → 0 ≤ (σ52 68 k).toInt ∧ (σ52 68 k).toInt ≤ 3 := (by rw [f54 68 (by omega)]; exact w28)
    refine jcallV (As := [.int r53, .int x63]) (rest := []) ⟨hx, hb, hml, hown, hts⟩ hK hP hA hS hZ (c_X12_outBy l D cI cL ad zz hJ σ52 τ r53 (r53.toInt) rfl x63 (x63.toInt) rfl I70 I74 I76 I79 w80 (by omega) (by omega)) cw_RX12_259 (jc_55 cI cL ad σ52 τ) rfl ⟨Nat.le_of_ble_eq_true rfl, Nat.le_of_ble_eq_true rfl⟩ rfl rfl rfl hl.1 rfl (Nat.le_of_ble_eq_true rfl) dX12_likelyFrom_40 ⟨Nat.zero_le _, Nat.zero_le _⟩ (fun r82 σ81 τ81 H locs h81 hP hS => ?_)
    obtain ⟨rfl, f83, f84, h81⟩ := h81
    have h85 := h81
    obtain ⟨q87, k86⟩ := h85
    refine lv_istore (lv' := [(5, .int r82), (4, .int x63), (3, .int r53), (0, .ref (ad 55)), (1, .int a1), (2, .int a2)]) hx hb dX12_likelyFrom_43 hl (by decide) rfl (fun ls hl => ?_)
    refine lv_iload_n hx hb dX12_likelyFrom_45 rfl (lv_at hl 5 rfl) ?_
    refine lv_aload_n hx hb dX12_likelyFrom_46 rfl (lv_at hl 3 rfl) ?_
    refine lv_iload_n hx hb dX12_likelyFrom_47 rfl (lv_at hl 2 rfl) ?_
    refine lv_iload hx hb dX12_likelyFrom_48 (lv_at hl 1 rfl) ?_
    have z88 : (σ81 55 5).toInt = (σ 55 5).toInt := by rw [(show σ81 55 5 = (σ 55 5) from (by rw [f84 5 (by omega)]; exact (by rw [f55 5 (by omega)])))]
    have z89 : (σ81 55 4).toInt = (σ 55 4).toInt := by rw [(show σ81 55 4 = (σ 55 4) from (by rw [f84 4 (by omega)]; exact (by rw [f55 4 (by omega)])))]
    have w90 : ∀ k : Nat, k < 68 → (-200) ≤ (σ81 56 k).toInt ∧ (σ81 56 k).toInt ≤ 500 := (by rw [f83 56 (by omega)]; exact w66)
    have w91 : ∀ k : Nat, k < 40 → 0 ≤ (σ81 57 k).toInt ∧ (σ81 57 k).toInt ≤ 67 := (by rw [f83 57 (by omega)]; exact w67)
    have w92 : ∀ k : Nat, k < 40 → (-200) ≤ (σ81 58 k).toInt ∧ (σ81 58 k).toInt ≤ 500 := (by rw [f83 58 (by omega)]; exact w68)
    have w93 : ∀ k : Nat, k < 40 → (-200) ≤ (σ81 59 k).toInt ∧ (σ81 59 k).toInt ≤ 500 := (by rw [f83 59 (by omega)]; exact w69)
    have I94 : jI101 σ81 := ⟨(by omega), (by omega), (by omega), w90, w91, w92, w93⟩
    have z95 : (σ81 55 6).toInt = (σ 55 6).toInt := by rw [(show σ81 55 6 = (σ 55 6) from (by rw [f84 6 (by omega)]; exact (by rw [f55 6 (by omega)])))]
    have w96 : ∀ k : Nat, k < 4 → 0 ≤ (σ81 60 k).toInt ∧ (σ81 60 k).toInt ≤ 50 := (by rw [f83 60 (by omega)]; exact w72)
    have w97 : ∀ k : Nat, k < 4 → 0 ≤ (σ81 61 k).toInt ∧ (σ81 61 k).toInt ≤ 20 := (by rw [f83 61 (by omega)]; exact w73)
    have I98 : jI102 σ81 := ⟨(by omega), w96, w97⟩
    have z99 : (σ81 55 9).toInt = (σ 55 9).toInt := by rw [(show σ81 55 9 = (σ 55 9) from (by rw [f84 9 (by omega)]; exact (by rw [f55 9 (by omega)])))]
    have I100 : jI103 σ81 := (show 0 ≤ (σ81 55 9).toInt ∧ (σ81 55 9).toInt ≤ 3 by omega)
    have w101 : ∀ k : Nat, k < 4 → 0 ≤ (σ81 68 k).toInt ∧ (σ81 68 k).toInt ≤ 3 := (by rw [f83 68 (by omega)]; exact w80)
    refine jcallV (As := [.int r53, .int x63]) (rest := [.int a2]) ⟨hx, hb, hml, hown, hts⟩ hK hP hA hS hZ (c_X12_runsBy l D cI cL ad zz hJ σ81 τ r53 (r53.toInt) rfl x63 (x63.toInt) rfl I94 I98 I100 w101 (by omega) (by omega)) cw_RX12_262 (jc_55 cI cL ad σ81 τ) rfl ⟨Nat.le_of_ble_eq_true rfl, Nat.le_of_ble_eq_true rfl⟩ rfl rfl rfl hl.1 rfl (Nat.le_of_ble_eq_true rfl) dX12_likelyFrom_50 ⟨Nat.zero_le _, Nat.zero_le _⟩ (fun r103 σ102 τ102 H locs h102 hP hS => ?_)
    obtain ⟨⟨rfl, rfl⟩, h102⟩ := h102
    have h104 := h102
    obtain ⟨q106, k105⟩ := h104
    have g107 := jrg (rfl : r103.toInt = r103.toInt)
    refine lv_isub hx hb dX12_likelyFrom_53 ?_
    refine lv_topi (fun x108 ex108 => ?_)
    have gx108 := jrg (rfl : x108.toInt = x108.toInt)
    refine lv_istore (lv' := [(6, .int x108), (5, .int r82), (4, .int x63), (3, .int r53), (0, .ref (ad 55)), (1, .int a1), (2, .int a2)]) hx hb dX12_likelyFrom_54 hl (by decide) rfl (fun ls hl => ?_)
    refine lv_aload_n hx hb dX12_likelyFrom_56 rfl (lv_at hl 4 rfl) ?_
    refine lv_iload_n hx hb dX12_likelyFrom_57 rfl (lv_at hl 3 rfl) ?_
    refine lv_iconst (v := 1) hx hb dX12_likelyFrom_58 (by decide) ?_
    have z109 : (σ81 55 27).toInt = (σ 55 27).toInt := by rw [(show σ81 55 27 = (σ 55 27) from (by rw [f84 27 (by omega)]; exact (by rw [f55 27 (by omega)])))]
    have z110 : (σ81 55 25).toInt = (σ 55 25).toInt := by rw [(show σ81 55 25 = (σ 55 25) from (by rw [f84 25 (by omega)]; exact m60))]
    have z111 : (σ81 55 26).toInt = (σ 55 26).toInt := by rw [(show σ81 55 26 = (σ 55 26) from (by rw [f84 26 (by omega)]; exact (by rw [f55 26 (by omega)])))]
    have z112 : (σ81 68 0).toInt = (σ 68 0).toInt := by rw [(show σ81 68 0 = (σ 68 0) from (by rw [f83 68 (by omega)]; exact (by rw [f54 68 (by omega)])))]
    have z113 : (σ81 68 1).toInt = (σ 68 1).toInt := by rw [(show σ81 68 1 = (σ 68 1) from (by rw [f83 68 (by omega)]; exact (by rw [f54 68 (by omega)])))]
    have z114 : (σ81 68 2).toInt = (σ 68 2).toInt := by rw [(show σ81 68 2 = (σ 68 2) from (by rw [f83 68 (by omega)]; exact (by rw [f54 68 (by omega)])))]
    have z115 : (σ81 68 3).toInt = (σ 68 3).toInt := by rw [(show σ81 68 3 = (σ 68 3) from (by rw [f83 68 (by omega)]; exact (by rw [f54 68 (by omega)])))]
    refine jcallV (As := [.int r53, .int 1]) (rest := []) ⟨hx, hb, hml, hown, hts⟩ hK hP hA hS hZ (c_X12_goes_1 l D cI cL ad zz hJ σ81 τ r53 (r53.toInt) rfl w101 (by omega) (by omega) (by omega) (by omega) (by omega)) cw_RX12_296 (jc_55 cI cL ad σ81 τ) rfl ⟨Nat.le_of_ble_eq_true rfl, Nat.le_of_ble_eq_true rfl⟩ rfl rfl rfl hl.1 rfl (Nat.le_of_ble_eq_true rfl) dX12_likelyFrom_59 ⟨Nat.zero_le _, Nat.zero_le _⟩ (fun r117 σ116 τ116 H locs h116 hP hS => ?_)
    obtain ⟨rfl, f118, f119, w120, w121, w122, h116⟩ := h116
    obtain ⟨k123, k124, k125, h116⟩ := h116
    have h126 := h116
    obtain ⟨q132, k127, k128, k129, k130, k131⟩ := h126
    refine lv_istore (lv' := [(7, .int r117), (6, .int x108), (5, .int r82), (4, .int x63), (3, .int r53), (0, .ref (ad 55)), (1, .int a1), (2, .int a2)]) hx hb dX12_likelyFrom_62 hl (by decide) rfl (fun ls hl => ?_)
    refine lv_aload_n hx hb dX12_likelyFrom_64 rfl (lv_at hl 5 rfl) ?_
    refine lv_iload_n hx hb dX12_likelyFrom_65 rfl (lv_at hl 6 rfl) ?_
    refine lv_iload hx hb dX12_likelyFrom_66 (lv_at hl 1 rfl) ?_
    have z133 : (σ116 55 5).toInt = (σ 55 5).toInt := by rw [(show σ116 55 5 = (σ 55 5) from (by rw [f119 5 (by omega)]; exact (by rw [f84 5 (by omega)]; exact (by rw [f55 5 (by omega)]))))]
    have z134 : (σ116 55 4).toInt = (σ 55 4).toInt := by rw [(show σ116 55 4 = (σ 55 4) from (by rw [f119 4 (by omega)]; exact (by rw [f84 4 (by omega)]; exact (by rw [f55 4 (by omega)]))))]
    have w135 : ∀ k : Nat, k < 68 → (-200) ≤ (σ116 56 k).toInt ∧ (σ116 56 k).toInt ≤ 500 := (by rw [f118 56 (by omega)]; exact w90)
    have w136 : ∀ k : Nat, k < 40 → 0 ≤ (σ116 57 k).toInt ∧ (σ116 57 k).toInt ≤ 67 := (by rw [f118 57 (by omega)]; exact w91)
    have w137 : ∀ k : Nat, k < 40 → (-200) ≤ (σ116 58 k).toInt ∧ (σ116 58 k).toInt ≤ 500 := (by rw [f118 58 (by omega)]; exact w92)
    have w138 : ∀ k : Nat, k < 40 → (-200) ≤ (σ116 59 k).toInt ∧ (σ116 59 k).toInt ≤ 500 := (by rw [f118 59 (by omega)]; exact w93)
    have I139 : jI101 σ116 := ⟨(by omega), (by omega), (by omega), w135, w136, w137, w138⟩
    have z140 : (σ116 55 6).toInt = (σ 55 6).toInt := by rw [(show σ116 55 6 = (σ 55 6) from (by rw [f119 6 (by omega)]; exact (by rw [f84 6 (by omega)]; exact (by rw [f55 6 (by omega)]))))]
    have w141 : ∀ k : Nat, k < 4 → 0 ≤ (σ116 60 k).toInt ∧ (σ116 60 k).toInt ≤ 50 := (by rw [f118 60 (by omega)]; exact w96)
    have w142 : ∀ k : Nat, k < 4 → 0 ≤ (σ116 61 k).toInt ∧ (σ116 61 k).toInt ≤ 20 := (by rw [f118 61 (by omega)]; exact w97)
    have I143 : jI102 σ116 := ⟨(by omega), w141, w142⟩
    have z144 : (σ116 55 9).toInt = (σ 55 9).toInt := by rw [(show σ116 55 9 = (σ 55 9) from (by rw [f119 9 (by omega)]; exact (by rw [f84 9 (by omega)]; exact (by rw [f55 9 (by omega)]))))]
    have I145 : jI103 σ116 := (show 0 ≤ (σ116 55 9).toInt ∧ (σ116 55 9).toInt ≤ 3 by omega)
    have z146 : (σ116 55 10).toInt = (σ 55 10).toInt := by rw [(show σ116 55 10 = (σ 55 10) from (by rw [f119 10 (by omega)]; exact (by rw [f84 10 (by omega)]; exact (by rw [f55 10 (by omega)]))))]
    have z147 : (σ116 55 12).toInt = (σ 55 12).toInt := by rw [(show σ116 55 12 = (σ 55 12) from (by rw [f119 12 (by omega)]; exact (by rw [f84 12 (by omega)]; exact (by rw [f55 12 (by omega)]))))]
    have z148 : (σ116 55 13).toInt = (σ 55 13).toInt := by rw [(show σ116 55 13 = (σ 55 13) from (by rw [f119 13 (by omega)]; exact (by rw [f84 13 (by omega)]; exact (by rw [f55 13 (by omega)]))))]
    have w149 : ∀ k : Nat, k < 8 → 0 ≤ (σ116 62 k).toInt ∧ (σ116 62 k).toInt ≤ 3 := (by rw [f118 62 (by omega)]; exact (by rw [f83 62 (by omega)]; exact w61))
    have w150 : ∀ k : Nat, k < 8 → 0 ≤ (σ116 67 k).toInt ∧ (σ116 67 k).toInt ≤ 3 := (by rw [f118 67 (by omega)]; exact (by rw [f83 67 (by omega)]; exact (by rw [f54 67 (by omega)]; exact w16)))
    have I151 : jI104 σ116 := ⟨(by omega), (by omega), (by omega), w149, w150⟩
    have z152 : (σ116 55 15).toInt = (σ 55 15).toInt := by rw [(show σ116 55 15 = (σ 55 15) from (by rw [f119 15 (by omega)]; exact (by rw [f84 15 (by omega)]; exact (by rw [f55 15 (by omega)]))))]
    have w153 : ∀ k : Nat, k < 2 → (-1) ≤ (σ116 65 k).toInt ∧ (σ116 65 k).toInt ≤ 80 := (by rw [f118 65 (by omega)]; exact (by rw [f83 65 (by omega)]; exact w78))
    have I154 : jI105 σ116 := ⟨(by omega), w153⟩
    have z155 : (σ116 55 32).toInt = (σ 55 32).toInt := by rw [(show σ116 55 32 = (σ 55 32) from (by rw [f119 32 (by omega)]; exact (by rw [f84 32 (by omega)]; exact (by rw [f55 32 (by omega)]))))]
    have w156 : ∀ k : Nat, k < 20 → 0 ≤ (σ116 70 k).toInt ∧ (σ116 70 k).toInt ≤ 6 := (by rw [f118 70 (by omega)]; exact (by rw [f83 70 (by omega)]; exact (by rw [f54 70 (by omega)]; exact w20)))
    have w157 : ∀ k : Nat, k < 20 → 0 ≤ (σ116 71 k).toInt ∧ (σ116 71 k).toInt ≤ 8 := (by rw [f118 71 (by omega)]; exact (by rw [f83 71 (by omega)]; exact (by rw [f54 71 (by omega)]; exact w21)))
    have w158 : ∀ k : Nat, k < 160 → 0 ≤ (σ116 72 k).toInt ∧ (σ116 72 k).toInt ≤ 3 := (by rw [f118 72 (by omega)]; exact (by rw [f83 72 (by omega)]; exact (by rw [f54 72 (by omega)]; exact w22)))
    have I159 : jI106 σ116 := ⟨(by omega), w156, w157, w158⟩
    have I160 : jI120 σ116 := ⟨(by omega), (by omega), (by omega), (by omega), (by omega), w120⟩
    have p161 : jKept σ116 := jKept.fr (by rw [f118 75 (by omega), f83 75 (by omega)]) (by rw [f118 76 (by omega), f83 76 (by omega)]) (by rw [f118 77 (by omega), f83 77 (by omega)]) p56
    refine jcallV (As := [.int a1, .int x108]) (rest := []) ⟨hx, hb, hml, hown, hts⟩ hK hP hA hS hZ (c_X12_likelyFrom_4 l D cI cL ad zz hJ σ116 τ a1 (A1) t1 x108 (x108.toInt) rfl I139 I143 I145 I151 I154 I159 I160 p161 (by omega) (by omega)) cw_RX12_328 (jc_55 cI cL ad σ116 τ) rfl ⟨Nat.le_of_ble_eq_true rfl, Nat.le_of_ble_eq_true rfl⟩ rfl rfl rfl hl.1 rfl (Nat.le_of_ble_eq_true rfl) dX12_likelyFrom_68 ⟨Nat.zero_le _, Nat.zero_le _⟩ (fun r163 σ162 τ162 H locs h162 hP hS => ?_)
    obtain ⟨rfl, f164, f165, p166, h162⟩ := h162
    refine lv_istore (lv' := [(8, .int r163), (7, .int r117), (6, .int x108), (5, .int r82), (4, .int x63), (3, .int r53), (0, .ref (ad 55)), (1, .int a1), (2, .int a2)]) hx hb dX12_likelyFrom_71 hl (by decide) rfl (fun ls hl => ?_)
    refine lv_aload_n hx hb dX12_likelyFrom_73 rfl (lv_at hl 6 rfl) ?_
    refine lv_iload_n hx hb dX12_likelyFrom_74 rfl (lv_at hl 5 rfl) ?_
    refine lv_iconst (v := 1) hx hb dX12_likelyFrom_75 (by decide) ?_
    refine lv_iload hx hb dX12_likelyFrom_76 (lv_at hl 1 rfl) ?_
    have w167 : ∀ k : Nat, k < 4 → 0 ≤ (σ162 68 k).toInt ∧ (σ162 68 k).toInt ≤ 3 := (by rw [f164 68 (by omega)]; exact w120)
    have z168 : (σ162 55 25).toInt = (σ116 55 25).toInt := by rw [(show σ162 55 25 = (σ116 55 25) from (by rw [f165 25 (by omega)]))]
    have z169 : (σ162 55 26).toInt = (σ116 55 26).toInt := by rw [(show σ162 55 26 = (σ116 55 26) from (by rw [f165 26 (by omega)]))]
    have z170 : (σ162 55 6).toInt = (σ 55 6).toInt := by rw [(show σ162 55 6 = (σ 55 6) from (by rw [f165 6 (by omega)]; exact (by rw [f119 6 (by omega)]; exact (by rw [f84 6 (by omega)]; exact (by rw [f55 6 (by omega)])))))]
    have w171 : ∀ k : Nat, k < 4 → 0 ≤ (σ81 68 k).toInt ∧ (σ81 68 k).toInt ≤ 3 := w101
    have z173 : (σ81 55 27).toInt = (σ 55 27).toInt := by rw [(show σ81 55 27 = (σ 55 27) from (by rw [f84 27 (by omega)]; exact (by rw [f55 27 (by omega)])))]
    have k172 := jwas (by omega) (w171 0 (by decide)) (w171 1 (by decide)) (w171 2 (by decide)) (w171 3 (by decide)) k127
    rw [← (show σ162 55 6 = σ81 55 6 from (by rw [f165 6 (by omega), f119 6 (by omega)]))] at k172
    refine jcallVv (As := [.int r53, .int 1, .int r117]) (rest := []) ⟨hx, hb, hml, hown, hts⟩ hK hP hA hS hZ (c_X12_goesBack_1 l D cI cL ad zz hJ σ162 τ r53 (r53.toInt) rfl r117 (r117.toInt) rfl w167 (by omega) (by omega) (by omega) k172) cw_RX12_300 (jc_55 cI cL ad σ162 τ) rfl ⟨Nat.le_of_ble_eq_true rfl, Nat.le_of_ble_eq_true rfl⟩ rfl rfl rfl hl.1 rfl (Nat.le_of_ble_eq_true rfl) dX12_likelyFrom_78 ⟨Nat.zero_le _, Nat.zero_le _⟩ (fun σ174 τ174 H locs h174 hP hS => ?_)
    obtain ⟨rfl, f176, f177, w178, w179, w180, h174⟩ := h174
    obtain ⟨k181, k182, k183, k184, h174⟩ := h174
    have p185 : jKept σ174 := jKept.fr (by rw [f176 75 (by omega)]) (by rw [f176 76 (by omega)]) (by rw [f176 77 (by omega)]) p166
    have e186 : σ162 69 = σ116 69 := (by rw [f164 69 (by omega)])
    have e187 : σ174 69 = σ81 69 := jback69 w121 e186 w179
    have e188 : σ162 68 = σ116 68 := (by rw [f164 68 (by omega)])
    have e189 : σ162 55 6 = σ81 55 6 := (by rw [f165 6 (by omega), f119 6 (by omega)])
    have w197 : ∀ k : Nat, k < 4 → 0 ≤ (σ81 68 k).toInt ∧ (σ81 68 k).toInt ≤ 3 := w101
    have w198 : ∀ k : Nat, k < 4 → 0 ≤ (σ174 68 k).toInt ∧ (σ174 68 k).toInt ≤ 3 := w178
    have k199 := k184
    rw [e189] at k199
    have D190 := jdig (w197 0 (by decide)) (w197 1 (by decide)) (w197 2 (by decide)) (w197 3 (by decide)) (w198 0 (by decide)) (w198 1 (by decide)) (w198 2 (by decide)) (w198 3 (by decide)) k127 k199
    have e191 : σ174 55 27 = σ81 55 27 := Int32.toInt_inj.mp (by have h9 := D190.1; omega)
    have z200 : (σ162 55 26).toInt = (σ116 55 26).toInt := by rw [(show σ162 55 26 = (σ116 55 26) from (by rw [f165 26 (by omega)]))]
    have z201 : (σ81 55 26).toInt = (σ 55 26).toInt := by rw [(show σ81 55 26 = (σ 55 26) from (by rw [f84 26 (by omega)]; exact (by rw [f55 26 (by omega)])))]
    have z202 : (σ162 55 25).toInt = (σ116 55 25).toInt := by rw [(show σ162 55 25 = (σ116 55 25) from (by rw [f165 25 (by omega)]))]
    have z203 : (σ81 55 25).toInt = (σ 55 25).toInt := by rw [(show σ81 55 25 = (σ 55 25) from (by rw [f84 25 (by omega)]; exact (by rw [f55 25 (by omega)])))]
    have e192 : σ174 55 26 = σ81 55 26 := Int32.toInt_inj.mp (by omega)
    have e193 : σ174 55 25 = σ81 55 25 := Int32.toInt_inj.mp (by omega)
    have z204 : (σ81 55 6).toInt = (σ 55 6).toInt := by rw [(show σ81 55 6 = (σ 55 6) from (by rw [f84 6 (by omega)]; exact (by rw [f55 6 (by omega)])))]
    have e194 : σ174 68 = σ81 68 := jback68 (nb := (σ81 55 6).toInt) (by omega) w122 e188 (fun k hk => w180 k (by rw [e189]; exact hk)) D190.2
    have f195 : (∀ i : Nat, (i < 55 ∨ 55 < i) ∧ (i < 66 ∨ 66 < i) ∧ (i < 74 ∨ 78 < i) → σ174 i = σ81 i) := fun i hi => by
      by_cases h8 : i = 68
      · rw [h8]; exact e194
      by_cases h9 : i = 69
      · rw [h9]; exact e187
      rw [f176 i (by omega), f164 i (by omega), f118 i (by omega)]
    have f196 : ∀ k : Nat, (k < 18 ∨ 18 < k) ∧ (k < 19 ∨ 19 < k) ∧ (k < 20 ∨ 20 < k) ∧ (k < 21 ∨ 21 < k) ∧ (k < 22 ∨ 22 < k) ∧ (k < 37 ∨ 37 < k) → σ174 55 k = σ81 55 k := fun k hk => by
      by_cases h25 : k = 25
      · rw [h25]; exact e193
      by_cases h26 : k = 26
      · rw [h26]; exact e192
      by_cases h27 : k = 27
      · rw [h27]; exact e191
      rw [f177 k (by omega), f165 k (by omega), f119 k (by omega)]
    clear k199 k184 k127
    refine lv_aload_n hx hb dX12_likelyFrom_81 rfl (lv_at hl 6 rfl) ?_
    refine lv_iload_n hx hb dX12_likelyFrom_82 rfl (lv_at hl 5 rfl) ?_
    refine lv_iconst (v := 0) hx hb dX12_likelyFrom_83 (by decide) ?_
    have w205 : ∀ k : Nat, k < 4 → 0 ≤ (σ174 68 k).toInt ∧ (σ174 68 k).toInt ≤ 3 := (by rw [f195 68 (by omega)]; exact w101)
    have z206 : (σ174 55 6).toInt = (σ 55 6).toInt := by rw [(show σ174 55 6 = (σ 55 6) from (by rw [f196 6 (by omega)]; exact (by rw [f84 6 (by omega)]; exact (by rw [f55 6 (by omega)]))))]
    have z207 : (σ174 55 27).toInt = (σ 55 27).toInt := by rw [(show σ174 55 27 = (σ 55 27) from (by rw [f196 27 (by omega)]; exact (by rw [f84 27 (by omega)]; exact (by rw [f55 27 (by omega)]))))]
    have z208 : (σ174 55 25).toInt = (σ 55 25).toInt := by rw [(show σ174 55 25 = (σ 55 25) from (by rw [f196 25 (by omega)]; exact (by rw [f84 25 (by omega)]; exact m60)))]
    have z209 : (σ174 55 26).toInt = (σ 55 26).toInt := by rw [(show σ174 55 26 = (σ 55 26) from (by rw [f196 26 (by omega)]; exact (by rw [f84 26 (by omega)]; exact (by rw [f55 26 (by omega)]))))]
    have z210 : (σ174 68 0).toInt = (σ 68 0).toInt := by rw [(show σ174 68 0 = (σ 68 0) from (by rw [f195 68 (by omega)]; exact (by rw [f83 68 (by omega)]; exact (by rw [f54 68 (by omega)]))))]
    have z211 : (σ174 68 1).toInt = (σ 68 1).toInt := by rw [(show σ174 68 1 = (σ 68 1) from (by rw [f195 68 (by omega)]; exact (by rw [f83 68 (by omega)]; exact (by rw [f54 68 (by omega)]))))]
    have z212 : (σ174 68 2).toInt = (σ 68 2).toInt := by rw [(show σ174 68 2 = (σ 68 2) from (by rw [f195 68 (by omega)]; exact (by rw [f83 68 (by omega)]; exact (by rw [f54 68 (by omega)]))))]
    have z213 : (σ174 68 3).toInt = (σ 68 3).toInt := by rw [(show σ174 68 3 = (σ 68 3) from (by rw [f195 68 (by omega)]; exact (by rw [f83 68 (by omega)]; exact (by rw [f54 68 (by omega)]))))]
    refine jcallV (As := [.int r53, .int 0]) (rest := []) ⟨hx, hb, hml, hown, hts⟩ hK hP hA hS hZ (c_X12_goes_0 l D cI cL ad zz hJ σ174 τ r53 (r53.toInt) rfl w205 (by omega) (by omega) (by omega) (by omega) (by omega)) cw_RX12_296 (jc_55 cI cL ad σ174 τ) rfl ⟨Nat.le_of_ble_eq_true rfl, Nat.le_of_ble_eq_true rfl⟩ rfl rfl rfl hl.1 rfl (Nat.le_of_ble_eq_true rfl) dX12_likelyFrom_84 ⟨Nat.zero_le _, Nat.zero_le _⟩ (fun r215 σ214 τ214 H locs h214 hP hS => ?_)
    obtain ⟨rfl, f216, f217, w218, w219, w220, h214⟩ := h214
    obtain ⟨k221, k222, k223, h214⟩ := h214
    have h224 := h214
    obtain ⟨q230, k225, k226, k227, k228, k229⟩ := h224
    refine lv_istore (lv' := [(7, .int r215), (8, .int r163), (6, .int x108), (5, .int r82), (4, .int x63), (3, .int r53), (0, .ref (ad 55)), (1, .int a1), (2, .int a2)]) hx hb dX12_likelyFrom_87 hl (by decide) rfl (fun ls hl => ?_)
    refine lv_aload_n hx hb dX12_likelyFrom_89 rfl (lv_at hl 6 rfl) ?_
    refine lv_iload_n hx hb dX12_likelyFrom_90 rfl (lv_at hl 7 rfl) ?_
    refine lv_iload hx hb dX12_likelyFrom_91 (lv_at hl 2 rfl) ?_
    have z231 : (σ214 55 5).toInt = (σ 55 5).toInt := by rw [(show σ214 55 5 = (σ 55 5) from (by rw [f217 5 (by omega)]; exact (by rw [f196 5 (by omega)]; exact (by rw [f84 5 (by omega)]; exact (by rw [f55 5 (by omega)])))))]
    have z232 : (σ214 55 4).toInt = (σ 55 4).toInt := by rw [(show σ214 55 4 = (σ 55 4) from (by rw [f217 4 (by omega)]; exact (by rw [f196 4 (by omega)]; exact (by rw [f84 4 (by omega)]; exact (by rw [f55 4 (by omega)])))))]
    have w233 : ∀ k : Nat, k < 68 → (-200) ≤ (σ214 56 k).toInt ∧ (σ214 56 k).toInt ≤ 500 := (by rw [f216 56 (by omega)]; exact (by rw [f195 56 (by omega)]; exact w90))
    have w234 : ∀ k : Nat, k < 40 → 0 ≤ (σ214 57 k).toInt ∧ (σ214 57 k).toInt ≤ 67 := (by rw [f216 57 (by omega)]; exact (by rw [f195 57 (by omega)]; exact w91))
    have w235 : ∀ k : Nat, k < 40 → (-200) ≤ (σ214 58 k).toInt ∧ (σ214 58 k).toInt ≤ 500 := (by rw [f216 58 (by omega)]; exact (by rw [f195 58 (by omega)]; exact w92))
    have w236 : ∀ k : Nat, k < 40 → (-200) ≤ (σ214 59 k).toInt ∧ (σ214 59 k).toInt ≤ 500 := (by rw [f216 59 (by omega)]; exact (by rw [f195 59 (by omega)]; exact w93))
    have I237 : jI101 σ214 := ⟨(by omega), (by omega), (by omega), w233, w234, w235, w236⟩
    have z238 : (σ214 55 6).toInt = (σ 55 6).toInt := by rw [(show σ214 55 6 = (σ 55 6) from (by rw [f217 6 (by omega)]; exact (by rw [f196 6 (by omega)]; exact (by rw [f84 6 (by omega)]; exact (by rw [f55 6 (by omega)])))))]
    have w239 : ∀ k : Nat, k < 4 → 0 ≤ (σ214 60 k).toInt ∧ (σ214 60 k).toInt ≤ 50 := (by rw [f216 60 (by omega)]; exact (by rw [f195 60 (by omega)]; exact w96))
    have w240 : ∀ k : Nat, k < 4 → 0 ≤ (σ214 61 k).toInt ∧ (σ214 61 k).toInt ≤ 20 := (by rw [f216 61 (by omega)]; exact (by rw [f195 61 (by omega)]; exact w97))
    have I241 : jI102 σ214 := ⟨(by omega), w239, w240⟩
    have z242 : (σ214 55 9).toInt = (σ 55 9).toInt := by rw [(show σ214 55 9 = (σ 55 9) from (by rw [f217 9 (by omega)]; exact (by rw [f196 9 (by omega)]; exact (by rw [f84 9 (by omega)]; exact (by rw [f55 9 (by omega)])))))]
    have I243 : jI103 σ214 := (show 0 ≤ (σ214 55 9).toInt ∧ (σ214 55 9).toInt ≤ 3 by omega)
    have z244 : (σ214 55 10).toInt = (σ 55 10).toInt := by rw [(show σ214 55 10 = (σ 55 10) from (by rw [f217 10 (by omega)]; exact (by rw [f196 10 (by omega)]; exact (by rw [f84 10 (by omega)]; exact (by rw [f55 10 (by omega)])))))]
    have z245 : (σ214 55 12).toInt = (σ 55 12).toInt := by rw [(show σ214 55 12 = (σ 55 12) from (by rw [f217 12 (by omega)]; exact (by rw [f196 12 (by omega)]; exact (by rw [f84 12 (by omega)]; exact (by rw [f55 12 (by omega)])))))]
    have z246 : (σ214 55 13).toInt = (σ 55 13).toInt := by rw [(show σ214 55 13 = (σ 55 13) from (by rw [f217 13 (by omega)]; exact (by rw [f196 13 (by omega)]; exact (by rw [f84 13 (by omega)]; exact (by rw [f55 13 (by omega)])))))]
    have w247 : ∀ k : Nat, k < 8 → 0 ≤ (σ214 62 k).toInt ∧ (σ214 62 k).toInt ≤ 3 := (by rw [f216 62 (by omega)]; exact (by rw [f195 62 (by omega)]; exact (by rw [f83 62 (by omega)]; exact w61)))
    have w248 : ∀ k : Nat, k < 8 → 0 ≤ (σ214 67 k).toInt ∧ (σ214 67 k).toInt ≤ 3 := (by rw [f216 67 (by omega)]; exact (by rw [f195 67 (by omega)]; exact (by rw [f83 67 (by omega)]; exact (by rw [f54 67 (by omega)]; exact w16))))
    have I249 : jI104 σ214 := ⟨(by omega), (by omega), (by omega), w247, w248⟩
    have z250 : (σ214 55 15).toInt = (σ 55 15).toInt := by rw [(show σ214 55 15 = (σ 55 15) from (by rw [f217 15 (by omega)]; exact (by rw [f196 15 (by omega)]; exact (by rw [f84 15 (by omega)]; exact (by rw [f55 15 (by omega)])))))]
    have w251 : ∀ k : Nat, k < 2 → (-1) ≤ (σ214 65 k).toInt ∧ (σ214 65 k).toInt ≤ 80 := (by rw [f216 65 (by omega)]; exact (by rw [f195 65 (by omega)]; exact (by rw [f83 65 (by omega)]; exact w78)))
    have I252 : jI105 σ214 := ⟨(by omega), w251⟩
    have z253 : (σ214 55 32).toInt = (σ 55 32).toInt := by rw [(show σ214 55 32 = (σ 55 32) from (by rw [f217 32 (by omega)]; exact (by rw [f196 32 (by omega)]; exact (by rw [f84 32 (by omega)]; exact (by rw [f55 32 (by omega)])))))]
    have w254 : ∀ k : Nat, k < 20 → 0 ≤ (σ214 70 k).toInt ∧ (σ214 70 k).toInt ≤ 6 := (by rw [f216 70 (by omega)]; exact (by rw [f195 70 (by omega)]; exact (by rw [f83 70 (by omega)]; exact (by rw [f54 70 (by omega)]; exact w20))))
    have w255 : ∀ k : Nat, k < 20 → 0 ≤ (σ214 71 k).toInt ∧ (σ214 71 k).toInt ≤ 8 := (by rw [f216 71 (by omega)]; exact (by rw [f195 71 (by omega)]; exact (by rw [f83 71 (by omega)]; exact (by rw [f54 71 (by omega)]; exact w21))))
    have w256 : ∀ k : Nat, k < 160 → 0 ≤ (σ214 72 k).toInt ∧ (σ214 72 k).toInt ≤ 3 := (by rw [f216 72 (by omega)]; exact (by rw [f195 72 (by omega)]; exact (by rw [f83 72 (by omega)]; exact (by rw [f54 72 (by omega)]; exact w22))))
    have I257 : jI106 σ214 := ⟨(by omega), w254, w255, w256⟩
    have I258 : jI120 σ214 := ⟨(by omega), (by omega), (by omega), (by omega), (by omega), w218⟩
    have p259 : jKept σ214 := jKept.fr (by rw [f216 75 (by omega)]) (by rw [f216 76 (by omega)]) (by rw [f216 77 (by omega)]) p185
    refine jcallV (As := [.int a1, .int x108]) (rest := []) ⟨hx, hb, hml, hown, hts⟩ hK hP hA hS hZ (c_X12_likelyFrom_4 l D cI cL ad zz hJ σ214 τ a1 (A1) t1 x108 (x108.toInt) rfl I237 I241 I243 I249 I252 I257 I258 p259 (by omega) (by omega)) cw_RX12_328 (jc_55 cI cL ad σ214 τ) rfl ⟨Nat.le_of_ble_eq_true rfl, Nat.le_of_ble_eq_true rfl⟩ rfl rfl rfl hl.1 rfl (Nat.le_of_ble_eq_true rfl) dX12_likelyFrom_93 ⟨Nat.zero_le _, Nat.zero_le _⟩ (fun r261 σ260 τ260 H locs h260 hP hS => ?_)
    obtain ⟨rfl, f262, f263, p264, h260⟩ := h260
    refine lv_istore (lv' := [(9, .int r261), (7, .int r215), (8, .int r163), (6, .int x108), (5, .int r82), (4, .int x63), (3, .int r53), (0, .ref (ad 55)), (1, .int a1), (2, .int a2)]) hx hb dX12_likelyFrom_96 hl (by decide) rfl (fun ls hl => ?_)
    refine lv_aload_n hx hb dX12_likelyFrom_98 rfl (lv_at hl 7 rfl) ?_
    refine lv_iload_n hx hb dX12_likelyFrom_99 rfl (lv_at hl 6 rfl) ?_
    refine lv_iconst (v := 0) hx hb dX12_likelyFrom_100 (by decide) ?_
    refine lv_iload hx hb dX12_likelyFrom_101 (lv_at hl 1 rfl) ?_
    have w265 : ∀ k : Nat, k < 4 → 0 ≤ (σ260 68 k).toInt ∧ (σ260 68 k).toInt ≤ 3 := (by rw [f262 68 (by omega)]; exact w218)
    have z266 : (σ260 55 25).toInt = (σ214 55 25).toInt := by rw [(show σ260 55 25 = (σ214 55 25) from (by rw [f263 25 (by omega)]))]
    have z267 : (σ260 55 26).toInt = (σ214 55 26).toInt := by rw [(show σ260 55 26 = (σ214 55 26) from (by rw [f263 26 (by omega)]))]
    have z268 : (σ260 55 6).toInt = (σ 55 6).toInt := by rw [(show σ260 55 6 = (σ 55 6) from (by rw [f263 6 (by omega)]; exact (by rw [f217 6 (by omega)]; exact (by rw [f196 6 (by omega)]; exact (by rw [f84 6 (by omega)]; exact (by rw [f55 6 (by omega)]))))))]
    have w269 : ∀ k : Nat, k < 4 → 0 ≤ (σ174 68 k).toInt ∧ (σ174 68 k).toInt ≤ 3 := w205
    have z271 : (σ174 55 27).toInt = (σ 55 27).toInt := by rw [(show σ174 55 27 = (σ 55 27) from (by rw [f196 27 (by omega)]; exact (by rw [f84 27 (by omega)]; exact (by rw [f55 27 (by omega)]))))]
    have k270 := jwas (by omega) (w269 0 (by decide)) (w269 1 (by decide)) (w269 2 (by decide)) (w269 3 (by decide)) k225
    rw [← (show σ260 55 6 = σ174 55 6 from (by rw [f263 6 (by omega), f217 6 (by omega)]))] at k270
    refine jcallVv (As := [.int r53, .int 0, .int r215]) (rest := []) ⟨hx, hb, hml, hown, hts⟩ hK hP hA hS hZ (c_X12_goesBack_0 l D cI cL ad zz hJ σ260 τ r53 (r53.toInt) rfl r215 (r215.toInt) rfl w265 (by omega) (by omega) (by omega) k270) cw_RX12_300 (jc_55 cI cL ad σ260 τ) rfl ⟨Nat.le_of_ble_eq_true rfl, Nat.le_of_ble_eq_true rfl⟩ rfl rfl rfl hl.1 rfl (Nat.le_of_ble_eq_true rfl) dX12_likelyFrom_103 ⟨Nat.zero_le _, Nat.zero_le _⟩ (fun σ272 τ272 H locs h272 hP hS => ?_)
    obtain ⟨rfl, f274, f275, w276, w277, w278, h272⟩ := h272
    obtain ⟨k279, k280, k281, k282, h272⟩ := h272
    have p283 : jKept σ272 := jKept.fr (by rw [f274 75 (by omega)]) (by rw [f274 76 (by omega)]) (by rw [f274 77 (by omega)]) p264
    have e284 : σ260 69 = σ214 69 := (by rw [f262 69 (by omega)])
    have e285 : σ272 69 = σ174 69 := jback69 w219 e284 w277
    have e286 : σ260 68 = σ214 68 := (by rw [f262 68 (by omega)])
    have e287 : σ260 55 6 = σ174 55 6 := (by rw [f263 6 (by omega), f217 6 (by omega)])
    have w295 : ∀ k : Nat, k < 4 → 0 ≤ (σ174 68 k).toInt ∧ (σ174 68 k).toInt ≤ 3 := w205
    have w296 : ∀ k : Nat, k < 4 → 0 ≤ (σ272 68 k).toInt ∧ (σ272 68 k).toInt ≤ 3 := w276
    have k297 := k282
    rw [e287] at k297
    have D288 := jdig (w295 0 (by decide)) (w295 1 (by decide)) (w295 2 (by decide)) (w295 3 (by decide)) (w296 0 (by decide)) (w296 1 (by decide)) (w296 2 (by decide)) (w296 3 (by decide)) k225 k297
    have e289 : σ272 55 27 = σ174 55 27 := Int32.toInt_inj.mp (by have h9 := D288.1; omega)
    have z298 : (σ260 55 26).toInt = (σ214 55 26).toInt := by rw [(show σ260 55 26 = (σ214 55 26) from (by rw [f263 26 (by omega)]))]
    have z299 : (σ174 55 26).toInt = (σ 55 26).toInt := by rw [(show σ174 55 26 = (σ 55 26) from (by rw [f196 26 (by omega)]; exact (by rw [f84 26 (by omega)]; exact (by rw [f55 26 (by omega)]))))]
    have z300 : (σ260 55 25).toInt = (σ214 55 25).toInt := by rw [(show σ260 55 25 = (σ214 55 25) from (by rw [f263 25 (by omega)]))]
    have z301 : (σ174 55 25).toInt = (σ 55 25).toInt := by rw [(show σ174 55 25 = (σ 55 25) from (by rw [f196 25 (by omega)]; exact (by rw [f84 25 (by omega)]; exact (by rw [f55 25 (by omega)]))))]
    have e290 : σ272 55 26 = σ174 55 26 := Int32.toInt_inj.mp (by omega)
    have e291 : σ272 55 25 = σ174 55 25 := Int32.toInt_inj.mp (by omega)
    have z302 : (σ174 55 6).toInt = (σ 55 6).toInt := by rw [(show σ174 55 6 = (σ 55 6) from (by rw [f196 6 (by omega)]; exact (by rw [f84 6 (by omega)]; exact (by rw [f55 6 (by omega)]))))]
    have e292 : σ272 68 = σ174 68 := jback68 (nb := (σ174 55 6).toInt) (by omega) w220 e286 (fun k hk => w278 k (by rw [e287]; exact hk)) D288.2
    have f293 : (∀ i : Nat, (i < 55 ∨ 55 < i) ∧ (i < 66 ∨ 66 < i) ∧ (i < 74 ∨ 78 < i) → σ272 i = σ174 i) := fun i hi => by
      by_cases h8 : i = 68
      · rw [h8]; exact e292
      by_cases h9 : i = 69
      · rw [h9]; exact e285
      rw [f274 i (by omega), f262 i (by omega), f216 i (by omega)]
    have f294 : ∀ k : Nat, (k < 18 ∨ 18 < k) ∧ (k < 19 ∨ 19 < k) ∧ (k < 20 ∨ 20 < k) ∧ (k < 21 ∨ 21 < k) ∧ (k < 22 ∨ 22 < k) ∧ (k < 37 ∨ 37 < k) → σ272 55 k = σ174 55 k := fun k hk => by
      by_cases h25 : k = 25
      · rw [h25]; exact e291
      by_cases h26 : k = 26
      · rw [h26]; exact e290
      by_cases h27 : k = 27
      · rw [h27]; exact e289
      rw [f275 k (by omega), f263 k (by omega), f217 k (by omega)]
    clear k297 k282 k225
    refine lv_iload hx hb dX12_likelyFrom_106 (lv_at hl 3 rfl) ?_
    refine lv_if_le (tgt := 117) hx hb dX12_likelyFrom_108 (by decide) (fun c303 => ?_) (fun c303 => ?_)
    · have kc303 := jle c303 rfl jz_0
      refine lv_iconst (v := 0) hx hb dX12_likelyFrom_117 (by decide) ?_
      refine lv_iload hx hb dX12_likelyFrom_118 (lv_at hl 2 rfl) ?_
      refine lv_iload hx hb dX12_likelyFrom_120 (lv_at hl 0 rfl) ?_
      refine lv_iload hx hb dX12_likelyFrom_122 (lv_at hl 4 rfl) ?_
      refine jcallS (As := [.int r163, .int r261, .int r82]) (rest := [.int 0]) ⟨hx, hb, hml, hown, hts⟩ hK hP hA hS hZ (c_X12_mixed l D cI cL ad zz hJ σ272 τ r163 (r163.toInt) rfl r261 (r261.toInt) rfl r82 (r82.toInt) rfl) cw_RX12_304 ⟨Nat.le_of_ble_eq_true rfl, Nat.le_of_ble_eq_true rfl⟩ rfl rfl rfl hl.1 rfl (Nat.le_of_ble_eq_true rfl) dX12_likelyFrom_124 ⟨Nat.zero_le _, Nat.zero_le _⟩ (fun r305 σ304 τ304 H locs h304 hP hS => ?_)
      obtain ⟨⟨rfl, rfl⟩, h304⟩ := h304
      refine lv_aload_n hx hb dX12_likelyFrom_127 rfl (lv_at hl 7 rfl) ?_
      refine va_get (D := D) hx hb hts inlX12 hown hK hP 55 (jc_55 cI cL ad σ272 τ) rfl 13 (by decide) (hts _ kw_15_14) (fun _ h9 => h9) rfl dX12_likelyFrom_128 ?_
      have m306 : σ272 55 13 = (σ 55 13) := (by rw [f294 13 (by omega)]; exact (by rw [f196 13 (by omega)]; exact (by rw [f84 13 (by omega)]; exact (by rw [f55 13 (by omega)]))))
      refine jtopr m306 ?_
      refine jcallS (As := [.int 0, .int r305, .int (σ 55 13)]) (rest := []) ⟨hx, hb, hml, hown, hts⟩ hK hP hA hS hZ (c_X12_mixed l D cI cL ad zz hJ σ272 τ 0 (0) jz_0 r305 (r305.toInt) rfl (σ 55 13) ((σ 55 13).toInt) rfl) cw_RX12_304 ⟨Nat.le_of_ble_eq_true rfl, Nat.le_of_ble_eq_true rfl⟩ rfl rfl rfl hl.1 rfl (Nat.le_of_ble_eq_true rfl) dX12_likelyFrom_131 ⟨Nat.zero_le _, Nat.zero_le _⟩ (fun r308 σ307 τ307 H locs h307 hP hS => ?_)
      obtain ⟨⟨rfl, rfl⟩, h307⟩ := h307
      exact hret r308 σ272 τ _ _ _ _ rfl ⟨rfl, (fun i hi => by rw [f293 i (by omega), f195 i (by omega), f83 i (by omega), f54 i (by omega)]), (fun k hk => by rw [f294 k (by omega), f196 k (by omega), f84 k (by omega), f55 k (by omega)]), p283, trivial⟩ hP hS dX12_likelyFrom_134
    · have kc303 := jnle c303 rfl jz_0
      refine lv_ldcw (v := 1000000) hx hb hown (hts _ kw_37_13) dX12_likelyFrom_111 ?_
      refine lv_goto (tgt := 118) hx hb dX12_likelyFrom_114 (by decide) ?_
      refine lv_iload hx hb dX12_likelyFrom_118 (lv_at hl 2 rfl) ?_
      refine lv_iload hx hb dX12_likelyFrom_120 (lv_at hl 0 rfl) ?_
      refine lv_iload hx hb dX12_likelyFrom_122 (lv_at hl 4 rfl) ?_
      refine jcallS (As := [.int r163, .int r261, .int r82]) (rest := [.int 1000000]) ⟨hx, hb, hml, hown, hts⟩ hK hP hA hS hZ (c_X12_mixed l D cI cL ad zz hJ σ272 τ r163 (r163.toInt) rfl r261 (r261.toInt) rfl r82 (r82.toInt) rfl) cw_RX12_304 ⟨Nat.le_of_ble_eq_true rfl, Nat.le_of_ble_eq_true rfl⟩ rfl rfl rfl hl.1 rfl (Nat.le_of_ble_eq_true rfl) dX12_likelyFrom_124 ⟨Nat.zero_le _, Nat.zero_le _⟩ (fun r310 σ309 τ309 H locs h309 hP hS => ?_)
      obtain ⟨⟨rfl, rfl⟩, h309⟩ := h309
      refine lv_aload_n hx hb dX12_likelyFrom_127 rfl (lv_at hl 7 rfl) ?_
      refine va_get (D := D) hx hb hts inlX12 hown hK hP 55 (jc_55 cI cL ad σ272 τ) rfl 13 (by decide) (hts _ kw_15_14) (fun _ h9 => h9) rfl dX12_likelyFrom_128 ?_
      have m311 : σ272 55 13 = (σ 55 13) := (by rw [f294 13 (by omega)]; exact (by rw [f196 13 (by omega)]; exact (by rw [f84 13 (by omega)]; exact (by rw [f55 13 (by omega)]))))
      refine jtopr m311 ?_
      refine jcallS (As := [.int 1000000, .int r310, .int (σ 55 13)]) (rest := []) ⟨hx, hb, hml, hown, hts⟩ hK hP hA hS hZ (c_X12_mixed l D cI cL ad zz hJ σ272 τ 1000000 (1000000) jz_1000000 r310 (r310.toInt) rfl (σ 55 13) ((σ 55 13).toInt) rfl) cw_RX12_304 ⟨Nat.le_of_ble_eq_true rfl, Nat.le_of_ble_eq_true rfl⟩ rfl rfl rfl hl.1 rfl (Nat.le_of_ble_eq_true rfl) dX12_likelyFrom_131 ⟨Nat.zero_le _, Nat.zero_le _⟩ (fun r313 σ312 τ312 H locs h312 hP hS => ?_)
      obtain ⟨⟨rfl, rfl⟩, h312⟩ := h312
      exact hret r313 σ272 τ _ _ _ _ rfl ⟨rfl, (fun i hi => by rw [f293 i (by omega), f195 i (by omega), f83 i (by omega), f54 i (by omega)]), (fun k hk => by rw [f294 k (by omega), f196 k (by omega), f84 k (by omega), f55 k (by omega)]), p283, trivial⟩ hP hS dX12_likelyFrom_134
set_option maxHeartbeats 4000000 in
set_option maxRecDepth 100000 in
theorem c_X12_likelyFrom_6 (l : Launch) (D : va_G) (cI cL : ClassId) (ad zz : Nat → Nat) (hJ : jD ad) (σ : Nat → Nat → Int32) (τ : Nat → Nat → Int64) (a1 : Int32) (A1 : Int) (t1 : a1.toInt = A1) (a2 : Int32) (A2 : Int) (t2 : a2.toInt = A2) (hI101 : jI101 σ) (hI102 : jI102 σ) (hI103 : jI103 σ) (hI104 : jI104 σ) (hI105 : jI105 σ) (hI106 : jI106 σ) (hI120 : jI120 σ) (hs_jKept : jKept σ) (hp0 : 0 ≤ A1 ∧ A1 ≤ 19) (hp1 : (σ 55 12).toInt - (σ 55 26).toInt ≤ 6) : jM l yX12_likelyFrom cX12_likelyFrom 10 (some .int) ({ frames := 68, cells := 0, slots := 0, locals := 1658 }) D cI cL ad zz [.ref (ad 55), .int a1, .int a2] σ τ (fun r σ' τ' => τ = τ' ∧ (∀ i : Nat, (i < 55 ∨ 55 < i) ∧ (i < 66 ∨ 66 < i) ∧ (i < 74 ∨ 78 < i) → σ' i = σ i) ∧ (∀ k : Nat, (k < 18 ∨ 18 < k) ∧ (k < 19 ∨ 19 < k) ∧ (k < 20 ∨ 20 < k) ∧ (k < 21 ∨ 21 < k) ∧ (k < 22 ∨ 22 < k) ∧ (k < 37 ∨ 37 < k) → σ' 55 k = σ 55 k) ∧ (jKept σ') ∧ True) := by
  refine jM.of hJ (by decide +kernel) (nt := .int) rfl (Nat.le_of_ble_eq_true rfl) ?_
  intro p e s m args below meth c Q ls hC hret hl hP
  obtain ⟨hx, hb, hr, hml, hown, hts, hK, -, hlocks, hZ⟩ := hC
  have hown : s.vm.findClass RX12 = some m.cls := hown
  have hS : va_S (jA ad) s.heap s.heap [] := va_S.rf
  have hA : ∀ q, jA ad q → jA ad q := fun _ h => h
  have hl : lv_has ls 10 [(0, .ref (ad 55)), (1, .int a1), (2, .int a2)] := hl
  have g1 := jrg t1
  have g2 := jrg t2
  obtain ⟨i1, i2, i3, w4, w5, w6, w7⟩ : (0 ≤ (σ 55 5).toInt) ∧ ((σ 55 5).toInt ≤ (σ 55 4).toInt) ∧ ((σ 55 4).toInt ≤ 40) ∧ (∀ k : Nat, k < 68 → (-200) ≤ (σ 56 k).toInt ∧ (σ 56 k).toInt ≤ 500) ∧ (∀ k : Nat, k < 40 → 0 ≤ (σ 57 k).toInt ∧ (σ 57 k).toInt ≤ 67) ∧ (∀ k : Nat, k < 40 → (-200) ≤ (σ 58 k).toInt ∧ (σ 58 k).toInt ≤ 500) ∧ (∀ k : Nat, k < 40 → (-200) ≤ (σ 59 k).toInt ∧ (σ 59 k).toInt ≤ 500) := id hI101
  obtain ⟨i8, w9, w10⟩ : (0 ≤ (σ 55 6).toInt ∧ (σ 55 6).toInt ≤ 4) ∧ (∀ k : Nat, k < 4 → 0 ≤ (σ 60 k).toInt ∧ (σ 60 k).toInt ≤ 50) ∧ (∀ k : Nat, k < 4 → 0 ≤ (σ 61 k).toInt ∧ (σ 61 k).toInt ≤ 20) := id hI102
  have i11 : 0 ≤ (σ 55 9).toInt ∧ (σ 55 9).toInt ≤ 3 := hI103
  obtain ⟨i12, i13, i14, w15, w16⟩ : (1 ≤ (σ 55 10).toInt ∧ (σ 55 10).toInt ≤ 8) ∧ (1 ≤ (σ 55 12).toInt ∧ (σ 55 12).toInt ≤ 12) ∧ (0 ≤ (σ 55 13).toInt ∧ (σ 55 13).toInt ≤ 999) ∧ (∀ k : Nat, k < 8 → 0 ≤ (σ 62 k).toInt ∧ (σ 62 k).toInt ≤ 3) ∧ (∀ k : Nat, k < 8 → 0 ≤ (σ 67 k).toInt ∧ (σ 67 k).toInt ≤ 3) := id hI104
  obtain ⟨i17, w18⟩ : (0 ≤ (σ 55 15).toInt ∧ (σ 55 15).toInt ≤ 80) ∧ (∀ k : Nat, k < 2 → (-1) ≤ (σ 65 k).toInt ∧ (σ 65 k).toInt ≤ 80) := id hI105
  obtain ⟨i19, w20, w21, w22⟩ : (0 ≤ (σ 55 32).toInt ∧ (σ 55 32).toInt ≤ 20) ∧ (∀ k : Nat, k < 20 → 0 ≤ (σ 70 k).toInt ∧ (σ 70 k).toInt ≤ 6) ∧ (∀ k : Nat, k < 20 → 0 ≤ (σ 71 k).toInt ∧ (σ 71 k).toInt ≤ 8) ∧ (∀ k : Nat, k < 160 → 0 ≤ (σ 72 k).toInt ∧ (σ 72 k).toInt ≤ 3) := id hI106
  obtain ⟨i23, i24, i25, i26, i27, w28⟩ : (0 ≤ (σ 55 25).toInt) ∧ ((σ 55 25).toInt ≤ (σ 55 10).toInt) ∧ (0 ≤ (σ 55 26).toInt) ∧ ((σ 55 26).toInt ≤ (σ 55 12).toInt) ∧ ((-1) ≤ (σ 55 27).toInt ∧ (σ 55 27).toInt ≤ 3) ∧ (∀ k : Nat, k < 4 → 0 ≤ (σ 68 k).toInt ∧ (σ 68 k).toInt ≤ 3) := id hI120
  refine lv_aload_n hx hb dX12_likelyFrom_0 rfl (lv_at hl 0 rfl) ?_
  have I29 : jI102 σ := ⟨(by omega), w9, w10⟩
  have I30 : jI104 σ := ⟨(by omega), (by omega), (by omega), w15, w16⟩
  have I31 : jI120 σ := ⟨(by omega), (by omega), (by omega), (by omega), (by omega), w28⟩
  refine jcallV (As := []) (rest := []) ⟨hx, hb, hml, hown, hts⟩ hK hP hA hS hZ (c_X12_isEnded l D cI cL ad zz hJ σ τ I29 I30 I31) cw_RX12_307 (jc_55 cI cL ad σ τ) rfl ⟨Nat.le_of_ble_eq_true rfl, Nat.le_of_ble_eq_true rfl⟩ rfl rfl rfl hl.1 rfl (Nat.le_of_ble_eq_true rfl) dX12_likelyFrom_1 ⟨Nat.zero_le _, Nat.zero_le _⟩ (fun r33 σ32 τ32 H locs h32 hP hS => ?_)
  obtain ⟨⟨rfl, rfl⟩, h32⟩ := h32
  rcases h32 with h34 | h35
  · obtain ⟨q37, k36⟩ := h34
    have q37 := q37.symm
    subst q37
    refine lv_if_eq (tgt := 19) hx hb dX12_likelyFrom_4 (by decide) (fun c => absurd c (by decide)) (fun _ => ?_)
    refine lv_iload_n hx hb dX12_likelyFrom_7 rfl (lv_at hl 2 rfl) ?_
    refine lv_if_le (tgt := 17) hx hb dX12_likelyFrom_8 (by decide) (fun c38 => ?_) (fun c38 => ?_)
    · have kc38 := jle c38 t2 jz_0
      refine lv_iconst (v := 0) hx hb dX12_likelyFrom_17 (by decide) ?_
      exact hret 0 σ τ _ _ _ _ rfl ⟨rfl, (fun _ _ => rfl), (fun _ _ => rfl), hs_jKept, trivial⟩ hP hS dX12_likelyFrom_18
    · have kc38 := jnle c38 t2 jz_0
      refine lv_ldcw (v := 1000000) hx hb hown (hts _ kw_37_13) dX12_likelyFrom_11 ?_
      refine lv_goto (tgt := 18) hx hb dX12_likelyFrom_14 (by decide) ?_
      exact hret 1000000 σ τ _ _ _ _ rfl ⟨rfl, (fun _ _ => rfl), (fun _ _ => rfl), hs_jKept, trivial⟩ hP hS dX12_likelyFrom_18
  · obtain ⟨q42, k39, k40, k41⟩ := h35
    have q42 := q42.symm
    subst q42
    obtain ⟨B43, k44, k45, w46⟩ := k41
    refine lv_if_eq (tgt := 19) hx hb dX12_likelyFrom_4 (by decide) (fun _ => ?_) (fun c => absurd (by decide) c)
    refine lv_aload_n hx hb dX12_likelyFrom_19 rfl (lv_at hl 0 rfl) ?_
    refine lv_iload_n hx hb dX12_likelyFrom_20 rfl (lv_at hl 1 rfl) ?_
    have p47 : jmb σ B43 = 1 := (jmb_fr rfl rfl rfl rfl rfl B43).trans w46
    have I48 : jI101 σ := ⟨(by omega), (by omega), (by omega), w4, w5, w6, w7⟩
    have I49 : jI103 σ := (show 0 ≤ (σ 55 9).toInt ∧ (σ 55 9).toInt ≤ 3 by omega)
    have I50 : jI105 σ := ⟨(by omega), w18⟩
    have I51 : jI106 σ := ⟨(by omega), w20, w21, w22⟩
    refine jcallV (As := [.int a1]) (rest := []) ⟨hx, hb, hml, hown, hts⟩ hK hP hA hS hZ (c_X12_putsOn l D cI cL ad zz hJ σ τ B43 p47 a1 (A1) t1 I48 I29 I49 I30 I50 I51 I31 hs_jKept (by omega) (by omega) (by omega) (by omega) (by omega)) cw_RX12_321 (jc_55 cI cL ad σ τ) rfl ⟨Nat.le_of_ble_eq_true rfl, Nat.le_of_ble_eq_true rfl⟩ rfl rfl rfl hl.1 rfl (Nat.le_of_ble_eq_true rfl) dX12_likelyFrom_21 ⟨Nat.zero_le _, Nat.zero_le _⟩ (fun r53 σ52 τ52 H locs h52 hP hS => ?_)
    obtain ⟨rfl, f54, f55, p56, h52⟩ := h52
    have h57 := h52
    obtain ⟨q59, k58⟩ := h57
    refine lv_istore_n (lv' := [(3, .int r53), (0, .ref (ad 55)), (1, .int a1), (2, .int a2)]) hx hb dX12_likelyFrom_24 rfl hl (by decide) rfl (fun ls hl => ?_)
    refine lv_aload_n hx hb dX12_likelyFrom_25 rfl (lv_at hl 1 rfl) ?_
    refine va_get (D := D) hx hb hts inlX12 hown hK hP 55 (jc_55 cI cL ad σ52 τ) rfl 11 (by decide) (hts _ kw_7_8) (fun _ h9 => h9) rfl dX12_likelyFrom_26 ?_
    refine lv_aload_n hx hb dX12_likelyFrom_29 rfl (lv_at hl 1 rfl) ?_
    refine va_get (D := D) hx hb hts inlX12 hown hK hP 55 (jc_55 cI cL ad σ52 τ) rfl 25 (by decide) (hts _ kw_23_6) (fun _ h9 => h9) rfl dX12_likelyFrom_30 ?_
    have m60 : σ52 55 25 = (σ 55 25) := (by rw [f55 25 (by omega)])
    refine jtopr m60 ?_
    refine jald hx hb hK hP (jc_62 cI cL ad σ52 τ) (jin rfl (by omega) (by omega)) dX12_likelyFrom_33 ?_
    have w61 : ∀ k : Nat, k < 8 → 0 ≤ (σ52 62 k).toInt ∧ (σ52 62 k).toInt ≤ 3 := (by rw [f54 62 (by omega)]; exact w15)
    have g62 := w61 _ (jnat (x := (σ 55 25)) rfl (n := 8) (by omega) (by decide))
    refine lv_topi (fun x63 ex63 => ?_)
    rw [← ex63] at g62
    refine lv_istore (lv' := [(4, .int x63), (3, .int r53), (0, .ref (ad 55)), (1, .int a1), (2, .int a2)]) hx hb dX12_likelyFrom_34 hl (by decide) rfl (fun ls hl => ?_)
    refine lv_aload_n hx hb dX12_likelyFrom_36 rfl (lv_at hl 2 rfl) ?_
    refine lv_iload_n hx hb dX12_likelyFrom_37 rfl (lv_at hl 1 rfl) ?_
    refine lv_iload hx hb dX12_likelyFrom_38 (lv_at hl 0 rfl) ?_
    have z64 : (σ52 55 5).toInt = (σ 55 5).toInt := by rw [(show σ52 55 5 = (σ 55 5) from (by rw [f55 5 (by omega)]))]
    have z65 : (σ52 55 4).toInt = (σ 55 4).toInt := by rw [(show σ52 55 4 = (σ 55 4) from (by rw [f55 4 (by omega)]))]
    have w66 : ∀ k : Nat, k < 68 → (-200) ≤ (σ52 56 k).toInt ∧ (σ52 56 k).toInt ≤ 500 := (by rw [f54 56 (by omega)]; exact w4)
    have w67 : ∀ k : Nat, k < 40 → 0 ≤ (σ52 57 k).toInt ∧ (σ52 57 k).toInt ≤ 67 := (by rw [f54 57 (by omega)]; exact w5)
    have w68 : ∀ k : Nat, k < 40 → (-200) ≤ (σ52 58 k).toInt ∧ (σ52 58 k).toInt ≤ 500 := (by rw [f54 58 (by omega)]; exact w6)
    have w69 : ∀ k : Nat, k < 40 → (-200) ≤ (σ52 59 k).toInt ∧ (σ52 59 k).toInt ≤ 500 := (by rw [f54 59 (by omega)]; exact w7)
    have I70 : jI101 σ52 := ⟨(by omega), (by omega), (by omega), w66, w67, w68, w69⟩
    have z71 : (σ52 55 6).toInt = (σ 55 6).toInt := by rw [(show σ52 55 6 = (σ 55 6) from (by rw [f55 6 (by omega)]))]
    have w72 : ∀ k : Nat, k < 4 → 0 ≤ (σ52 60 k).toInt ∧ (σ52 60 k).toInt ≤ 50 := (by rw [f54 60 (by omega)]; exact w9)
    have w73 : ∀ k : Nat, k < 4 → 0 ≤ (σ52 61 k).toInt ∧ (σ52 61 k).toInt ≤ 20 := (by rw [f54 61 (by omega)]; exact w10)
    have I74 : jI102 σ52 := ⟨(by omega), w72, w73⟩
    have z75 : (σ52 55 9).toInt = (σ 55 9).toInt := by rw [(show σ52 55 9 = (σ 55 9) from (by rw [f55 9 (by omega)]))]
    have I76 : jI103 σ52 := (show 0 ≤ (σ52 55 9).toInt ∧ (σ52 55 9).toInt ≤ 3 by omega)
    have z77 : (σ52 55 15).toInt = (σ 55 15).toInt := by rw [(show σ52 55 15 = (σ 55 15) from (by rw [f55 15 (by omega)]))]
    have w78 : ∀ k : Nat, k < 2 → (-1) ≤ (σ52 65 k).toInt ∧ (σ52 65 k).toInt ≤ 80 := (by rw [f54 65 (by omega)]; exact w18)
    have I79 : jI105 σ52 := ⟨(by omega), w78⟩
    have w80 : ∀ k : Nat, k < 4 → 0 ≤ (σ52 68 k).toInt ∧ (σ52 68 k).toInt ≤ 3 := (by rw [f54 68 (by omega)]; exact w28)
    refine jcallV (As := [.int r53, .int x63]) (rest := []) ⟨hx, hb, hml, hown, hts⟩ hK hP hA hS hZ (c_X12_outBy l D cI cL ad zz hJ σ52 τ r53 (r53.toInt) rfl x63 (x63.toInt) rfl I70 I74 I76 I79 w80 (by omega) (by omega)) cw_RX12_259 (jc_55 cI cL ad σ52 τ) rfl ⟨Nat.le_of_ble_eq_true rfl, Nat.le_of_ble_eq_true rfl⟩ rfl rfl rfl hl.1 rfl (Nat.le_of_ble_eq_true rfl) dX12_likelyFrom_40 ⟨Nat.zero_le _, Nat.zero_le _⟩ (fun r82 σ81 τ81 H locs h81 hP hS => ?_)
    obtain ⟨rfl, f83, f84, h81⟩ := h81
    have h85 := h81
    obtain ⟨q87, k86⟩ := h85
    refine lv_istore (lv' := [(5, .int r82), (4, .int x63), (3, .int r53), (0, .ref (ad 55)), (1, .int a1), (2, .int a2)]) hx hb dX12_likelyFrom_43 hl (by decide) rfl (fun ls hl => ?_)
    refine lv_iload_n hx hb dX12_likelyFrom_45 rfl (lv_at hl 5 rfl) ?_
    refine lv_aload_n hx hb dX12_likelyFrom_46 rfl (lv_at hl 3 rfl) ?_
    refine lv_iload_n hx hb dX12_likelyFrom_47 rfl (lv_at hl 2 rfl) ?_
    refine lv_iload hx hb dX12_likelyFrom_48 (lv_at hl 1 rfl) ?_
    have z88 : (σ81 55 5).toInt = (σ 55 5).toInt := by rw [(show σ81 55 5 = (σ 55 5) from (by rw [f84 5 (by omega)]; exact (by rw [f55 5 (by omega)])))]
    have z89 : (σ81 55 4).toInt = (σ 55 4).toInt := by rw [(show σ81 55 4 = (σ 55 4) from (by rw [f84 4 (by omega)]; exact (by rw [f55 4 (by omega)])))]
    have w90 : ∀ k : Nat, k < 68 → (-200) ≤ (σ81 56 k).toInt ∧ (σ81 56 k).toInt ≤ 500 := (by rw [f83 56 (by omega)]; exact w66)
    have w91 : ∀ k : Nat, k < 40 → 0 ≤ (σ81 57 k).toInt ∧ (σ81 57 k).toInt ≤ 67 := (by rw [f83 57 (by omega)]; exact w67)
    have w92 : ∀ k : Nat, k < 40 → (-200) ≤ (σ81 58 k).toInt ∧ (σ81 58 k).toInt ≤ 500 := (by rw [f83 58 (by omega)]; exact w68)
    have w93 : ∀ k : Nat, k < 40 → (-200) ≤ (σ81 59 k).toInt ∧ (σ81 59 k).toInt ≤ 500 := (by rw [f83 59 (by omega)]; exact w69)
    have I94 : jI101 σ81 := ⟨(by omega), (by omega), (by omega), w90, w91, w92, w93⟩
    have z95 : (σ81 55 6).toInt = (σ 55 6).toInt := by rw [(show σ81 55 6 = (σ 55 6) from (by rw [f84 6 (by omega)]; exact (by rw [f55 6 (by omega)])))]
    have w96 : ∀ k : Nat, k < 4 → 0 ≤ (σ81 60 k).toInt ∧ (σ81 60 k).toInt ≤ 50 := (by rw [f83 60 (by omega)]; exact w72)
    have w97 : ∀ k : Nat, k < 4 → 0 ≤ (σ81 61 k).toInt ∧ (σ81 61 k).toInt ≤ 20 := (by rw [f83 61 (by omega)]; exact w73)
    have I98 : jI102 σ81 := ⟨(by omega), w96, w97⟩
    have z99 : (σ81 55 9).toInt = (σ 55 9).toInt := by rw [(show σ81 55 9 = (σ 55 9) from (by rw [f84 9 (by omega)]; exact (by rw [f55 9 (by omega)])))]
    have I100 : jI103 σ81 := (show 0 ≤ (σ81 55 9).toInt ∧ (σ81 55 9).toInt ≤ 3 by omega)
    have w101 : ∀ k : Nat, k < 4 → 0 ≤ (σ81 68 k).toInt ∧ (σ81 68 k).toInt ≤ 3 := (by rw [f83 68 (by omega)]; exact w80)
    refine jcallV (As := [.int r53, .int x63]) (rest := [.int a2]) ⟨hx, hb, hml, hown, hts⟩ hK hP hA hS hZ (c_X12_runsBy l D cI cL ad zz hJ σ81 τ r53 (r53.toInt) rfl x63 (x63.toInt) rfl I94 I98 I100 w101 (by omega) (by omega)) cw_RX12_262 (jc_55 cI cL ad σ81 τ) rfl ⟨Nat.le_of_ble_eq_true rfl, Nat.le_of_ble_eq_true rfl⟩ rfl rfl rfl hl.1 rfl (Nat.le_of_ble_eq_true rfl) dX12_likelyFrom_50 ⟨Nat.zero_le _, Nat.zero_le _⟩ (fun r103 σ102 τ102 H locs h102 hP hS => ?_)
    obtain ⟨⟨rfl, rfl⟩, h102⟩ := h102
    have h104 := h102
    obtain ⟨q106, k105⟩ := h104
    have g107 := jrg (rfl : r103.toInt = r103.toInt)
    refine lv_isub hx hb dX12_likelyFrom_53 ?_
    refine lv_topi (fun x108 ex108 => ?_)
    have gx108 := jrg (rfl : x108.toInt = x108.toInt)
    refine lv_istore (lv' := [(6, .int x108), (5, .int r82), (4, .int x63), (3, .int r53), (0, .ref (ad 55)), (1, .int a1), (2, .int a2)]) hx hb dX12_likelyFrom_54 hl (by decide) rfl (fun ls hl => ?_)
    refine lv_aload_n hx hb dX12_likelyFrom_56 rfl (lv_at hl 4 rfl) ?_
    refine lv_iload_n hx hb dX12_likelyFrom_57 rfl (lv_at hl 3 rfl) ?_
    refine lv_iconst (v := 1) hx hb dX12_likelyFrom_58 (by decide) ?_
    have z109 : (σ81 55 27).toInt = (σ 55 27).toInt := by rw [(show σ81 55 27 = (σ 55 27) from (by rw [f84 27 (by omega)]; exact (by rw [f55 27 (by omega)])))]
    have z110 : (σ81 55 25).toInt = (σ 55 25).toInt := by rw [(show σ81 55 25 = (σ 55 25) from (by rw [f84 25 (by omega)]; exact m60))]
    have z111 : (σ81 55 26).toInt = (σ 55 26).toInt := by rw [(show σ81 55 26 = (σ 55 26) from (by rw [f84 26 (by omega)]; exact (by rw [f55 26 (by omega)])))]
    have z112 : (σ81 68 0).toInt = (σ 68 0).toInt := by rw [(show σ81 68 0 = (σ 68 0) from (by rw [f83 68 (by omega)]; exact (by rw [f54 68 (by omega)])))]
    have z113 : (σ81 68 1).toInt = (σ 68 1).toInt := by rw [(show σ81 68 1 = (σ 68 1) from (by rw [f83 68 (by omega)]; exact (by rw [f54 68 (by omega)])))]
    have z114 : (σ81 68 2).toInt = (σ 68 2).toInt := by rw [(show σ81 68 2 = (σ 68 2) from (by rw [f83 68 (by omega)]; exact (by rw [f54 68 (by omega)])))]
    have z115 : (σ81 68 3).toInt = (σ 68 3).toInt := by rw [(show σ81 68 3 = (σ 68 3) from (by rw [f83 68 (by omega)]; exact (by rw [f54 68 (by omega)])))]
    refine jcallV (As := [.int r53, .int 1]) (rest := []) ⟨hx, hb, hml, hown, hts⟩ hK hP hA hS hZ (c_X12_goes_1 l D cI cL ad zz hJ σ81 τ r53 (r53.toInt) rfl w101 (by omega) (by omega) (by omega) (by omega) (by omega)) cw_RX12_296 (jc_55 cI cL ad σ81 τ) rfl ⟨Nat.le_of_ble_eq_true rfl, Nat.le_of_ble_eq_true rfl⟩ rfl rfl rfl hl.1 rfl (Nat.le_of_ble_eq_true rfl) dX12_likelyFrom_59 ⟨Nat.zero_le _, Nat.zero_le _⟩ (fun r117 σ116 τ116 H locs h116 hP hS => ?_)
    obtain ⟨rfl, f118, f119, w120, w121, w122, h116⟩ := h116
    obtain ⟨k123, k124, k125, h116⟩ := h116
    have h126 := h116
    obtain ⟨q132, k127, k128, k129, k130, k131⟩ := h126
    refine lv_istore (lv' := [(7, .int r117), (6, .int x108), (5, .int r82), (4, .int x63), (3, .int r53), (0, .ref (ad 55)), (1, .int a1), (2, .int a2)]) hx hb dX12_likelyFrom_62 hl (by decide) rfl (fun ls hl => ?_)
    refine lv_aload_n hx hb dX12_likelyFrom_64 rfl (lv_at hl 5 rfl) ?_
    refine lv_iload_n hx hb dX12_likelyFrom_65 rfl (lv_at hl 6 rfl) ?_
    refine lv_iload hx hb dX12_likelyFrom_66 (lv_at hl 1 rfl) ?_
    have z133 : (σ116 55 5).toInt = (σ 55 5).toInt := by rw [(show σ116 55 5 = (σ 55 5) from (by rw [f119 5 (by omega)]; exact (by rw [f84 5 (by omega)]; exact (by rw [f55 5 (by omega)]))))]
    have z134 : (σ116 55 4).toInt = (σ 55 4).toInt := by rw [(show σ116 55 4 = (σ 55 4) from (by rw [f119 4 (by omega)]; exact (by rw [f84 4 (by omega)]; exact (by rw [f55 4 (by omega)]))))]
    have w135 : ∀ k : Nat, k < 68 → (-200) ≤ (σ116 56 k).toInt ∧ (σ116 56 k).toInt ≤ 500 := (by rw [f118 56 (by omega)]; exact w90)
    have w136 : ∀ k : Nat, k < 40 → 0 ≤ (σ116 57 k).toInt ∧ (σ116 57 k).toInt ≤ 67 := (by rw [f118 57 (by omega)]; exact w91)
    have w137 : ∀ k : Nat, k < 40 → (-200) ≤ (σ116 58 k).toInt ∧ (σ116 58 k).toInt ≤ 500 := (by rw [f118 58 (by omega)]; exact w92)
    have w138 : ∀ k : Nat, k < 40 → (-200) ≤ (σ116 59 k).toInt ∧ (σ116 59 k).toInt ≤ 500 := (by rw [f118 59 (by omega)]; exact w93)
    have I139 : jI101 σ116 := ⟨(by omega), (by omega), (by omega), w135, w136, w137, w138⟩
    have z140 : (σ116 55 6).toInt = (σ 55 6).toInt := by rw [(show σ116 55 6 = (σ 55 6) from (by rw [f119 6 (by omega)]; exact (by rw [f84 6 (by omega)]; exact (by rw [f55 6 (by omega)]))))]
    have w141 : ∀ k : Nat, k < 4 → 0 ≤ (σ116 60 k).toInt ∧ (σ116 60 k).toInt ≤ 50 := (by rw [f118 60 (by omega)]; exact w96)
    have w142 : ∀ k : Nat, k < 4 → 0 ≤ (σ116 61 k).toInt ∧ (σ116 61 k).toInt ≤ 20 := (by rw [f118 61 (by omega)]; exact w97)
    have I143 : jI102 σ116 := ⟨(by omega), w141, w142⟩
    have z144 : (σ116 55 9).toInt = (σ 55 9).toInt := by rw [(show σ116 55 9 = (σ 55 9) from (by rw [f119 9 (by omega)]; exact (by rw [f84 9 (by omega)]; exact (by rw [f55 9 (by omega)]))))]
    have I145 : jI103 σ116 := (show 0 ≤ (σ116 55 9).toInt ∧ (σ116 55 9).toInt ≤ 3 by omega)
    have z146 : (σ116 55 10).toInt = (σ 55 10).toInt := by rw [(show σ116 55 10 = (σ 55 10) from (by rw [f119 10 (by omega)]; exact (by rw [f84 10 (by omega)]; exact (by rw [f55 10 (by omega)]))))]
    have z147 : (σ116 55 12).toInt = (σ 55 12).toInt := by rw [(show σ116 55 12 = (σ 55 12) from (by rw [f119 12 (by omega)]; exact (by rw [f84 12 (by omega)]; exact (by rw [f55 12 (by omega)]))))]
    have z148 : (σ116 55 13).toInt = (σ 55 13).toInt := by rw [(show σ116 55 13 = (σ 55 13) from (by rw [f119 13 (by omega)]; exact (by rw [f84 13 (by omega)]; exact (by rw [f55 13 (by omega)]))))]
    have w149 : ∀ k : Nat, k < 8 → 0 ≤ (σ116 62 k).toInt ∧ (σ116 62 k).toInt ≤ 3 := (by rw [f118 62 (by omega)]; exact (by rw [f83 62 (by omega)]; exact w61))
    have w150 : ∀ k : Nat, k < 8 → 0 ≤ (σ116 67 k).toInt ∧ (σ116 67 k).toInt ≤ 3 := (by rw [f118 67 (by omega)]; exact (by rw [f83 67 (by omega)]; exact (by rw [f54 67 (by omega)]; exact w16)))
    have I151 : jI104 σ116 := ⟨(by omega), (by omega), (by omega), w149, w150⟩
    have z152 : (σ116 55 15).toInt = (σ 55 15).toInt := by rw [(show σ116 55 15 = (σ 55 15) from (by rw [f119 15 (by omega)]; exact (by rw [f84 15 (by omega)]; exact (by rw [f55 15 (by omega)]))))]
    have w153 : ∀ k : Nat, k < 2 → (-1) ≤ (σ116 65 k).toInt ∧ (σ116 65 k).toInt ≤ 80 := (by rw [f118 65 (by omega)]; exact (by rw [f83 65 (by omega)]; exact w78))
    have I154 : jI105 σ116 := ⟨(by omega), w153⟩
    have z155 : (σ116 55 32).toInt = (σ 55 32).toInt := by rw [(show σ116 55 32 = (σ 55 32) from (by rw [f119 32 (by omega)]; exact (by rw [f84 32 (by omega)]; exact (by rw [f55 32 (by omega)]))))]
    have w156 : ∀ k : Nat, k < 20 → 0 ≤ (σ116 70 k).toInt ∧ (σ116 70 k).toInt ≤ 6 := (by rw [f118 70 (by omega)]; exact (by rw [f83 70 (by omega)]; exact (by rw [f54 70 (by omega)]; exact w20)))
    have w157 : ∀ k : Nat, k < 20 → 0 ≤ (σ116 71 k).toInt ∧ (σ116 71 k).toInt ≤ 8 := (by rw [f118 71 (by omega)]; exact (by rw [f83 71 (by omega)]; exact (by rw [f54 71 (by omega)]; exact w21)))
    have w158 : ∀ k : Nat, k < 160 → 0 ≤ (σ116 72 k).toInt ∧ (σ116 72 k).toInt ≤ 3 := (by rw [f118 72 (by omega)]; exact (by rw [f83 72 (by omega)]; exact (by rw [f54 72 (by omega)]; exact w22)))
    have I159 : jI106 σ116 := ⟨(by omega), w156, w157, w158⟩
    have I160 : jI120 σ116 := ⟨(by omega), (by omega), (by omega), (by omega), (by omega), w120⟩
    have p161 : jKept σ116 := jKept.fr (by rw [f118 75 (by omega), f83 75 (by omega)]) (by rw [f118 76 (by omega), f83 76 (by omega)]) (by rw [f118 77 (by omega), f83 77 (by omega)]) p56
    refine jcallV (As := [.int a1, .int x108]) (rest := []) ⟨hx, hb, hml, hown, hts⟩ hK hP hA hS hZ (c_X12_likelyFrom_5 l D cI cL ad zz hJ σ116 τ a1 (A1) t1 x108 (x108.toInt) rfl I139 I143 I145 I151 I154 I159 I160 p161 (by omega) (by omega)) cw_RX12_328 (jc_55 cI cL ad σ116 τ) rfl ⟨Nat.le_of_ble_eq_true rfl, Nat.le_of_ble_eq_true rfl⟩ rfl rfl rfl hl.1 rfl (Nat.le_of_ble_eq_true rfl) dX12_likelyFrom_68 ⟨Nat.zero_le _, Nat.zero_le _⟩ (fun r163 σ162 τ162 H locs h162 hP hS => ?_)
    obtain ⟨rfl, f164, f165, p166, h162⟩ := h162
    refine lv_istore (lv' := [(8, .int r163), (7, .int r117), (6, .int x108), (5, .int r82), (4, .int x63), (3, .int r53), (0, .ref (ad 55)), (1, .int a1), (2, .int a2)]) hx hb dX12_likelyFrom_71 hl (by decide) rfl (fun ls hl => ?_)
    refine lv_aload_n hx hb dX12_likelyFrom_73 rfl (lv_at hl 6 rfl) ?_
    refine lv_iload_n hx hb dX12_likelyFrom_74 rfl (lv_at hl 5 rfl) ?_
    refine lv_iconst (v := 1) hx hb dX12_likelyFrom_75 (by decide) ?_
    refine lv_iload hx hb dX12_likelyFrom_76 (lv_at hl 1 rfl) ?_
    have w167 : ∀ k : Nat, k < 4 → 0 ≤ (σ162 68 k).toInt ∧ (σ162 68 k).toInt ≤ 3 := (by rw [f164 68 (by omega)]; exact w120)
    have z168 : (σ162 55 25).toInt = (σ116 55 25).toInt := by rw [(show σ162 55 25 = (σ116 55 25) from (by rw [f165 25 (by omega)]))]
    have z169 : (σ162 55 26).toInt = (σ116 55 26).toInt := by rw [(show σ162 55 26 = (σ116 55 26) from (by rw [f165 26 (by omega)]))]
    have z170 : (σ162 55 6).toInt = (σ 55 6).toInt := by rw [(show σ162 55 6 = (σ 55 6) from (by rw [f165 6 (by omega)]; exact (by rw [f119 6 (by omega)]; exact (by rw [f84 6 (by omega)]; exact (by rw [f55 6 (by omega)])))))]
    have w171 : ∀ k : Nat, k < 4 → 0 ≤ (σ81 68 k).toInt ∧ (σ81 68 k).toInt ≤ 3 := w101
    have z173 : (σ81 55 27).toInt = (σ 55 27).toInt := by rw [(show σ81 55 27 = (σ 55 27) from (by rw [f84 27 (by omega)]; exact (by rw [f55 27 (by omega)])))]
    have k172 := jwas (by omega) (w171 0 (by decide)) (w171 1 (by decide)) (w171 2 (by decide)) (w171 3 (by decide)) k127
    rw [← (show σ162 55 6 = σ81 55 6 from (by rw [f165 6 (by omega), f119 6 (by omega)]))] at k172
    refine jcallVv (As := [.int r53, .int 1, .int r117]) (rest := []) ⟨hx, hb, hml, hown, hts⟩ hK hP hA hS hZ (c_X12_goesBack_1 l D cI cL ad zz hJ σ162 τ r53 (r53.toInt) rfl r117 (r117.toInt) rfl w167 (by omega) (by omega) (by omega) k172) cw_RX12_300 (jc_55 cI cL ad σ162 τ) rfl ⟨Nat.le_of_ble_eq_true rfl, Nat.le_of_ble_eq_true rfl⟩ rfl rfl rfl hl.1 rfl (Nat.le_of_ble_eq_true rfl) dX12_likelyFrom_78 ⟨Nat.zero_le _, Nat.zero_le _⟩ (fun σ174 τ174 H locs h174 hP hS => ?_)
    obtain ⟨rfl, f176, f177, w178, w179, w180, h174⟩ := h174
    obtain ⟨k181, k182, k183, k184, h174⟩ := h174
    have p185 : jKept σ174 := jKept.fr (by rw [f176 75 (by omega)]) (by rw [f176 76 (by omega)]) (by rw [f176 77 (by omega)]) p166
    have e186 : σ162 69 = σ116 69 := (by rw [f164 69 (by omega)])
    have e187 : σ174 69 = σ81 69 := jback69 w121 e186 w179
    have e188 : σ162 68 = σ116 68 := (by rw [f164 68 (by omega)])
    have e189 : σ162 55 6 = σ81 55 6 := (by rw [f165 6 (by omega), f119 6 (by omega)])
    have w197 : ∀ k : Nat, k < 4 → 0 ≤ (σ81 68 k).toInt ∧ (σ81 68 k).toInt ≤ 3 := w101
    have w198 : ∀ k : Nat, k < 4 → 0 ≤ (σ174 68 k).toInt ∧ (σ174 68 k).toInt ≤ 3 := w178
    have k199 := k184
    rw [e189] at k199
    have D190 := jdig (w197 0 (by decide)) (w197 1 (by decide)) (w197 2 (by decide)) (w197 3 (by decide)) (w198 0 (by decide)) (w198 1 (by decide)) (w198 2 (by decide)) (w198 3 (by decide)) k127 k199
    have e191 : σ174 55 27 = σ81 55 27 := Int32.toInt_inj.mp (by have h9 := D190.1; omega)
    have z200 : (σ162 55 26).toInt = (σ116 55 26).toInt := by rw [(show σ162 55 26 = (σ116 55 26) from (by rw [f165 26 (by omega)]))]
    have z201 : (σ81 55 26).toInt = (σ 55 26).toInt := by rw [(show σ81 55 26 = (σ 55 26) from (by rw [f84 26 (by omega)]; exact (by rw [f55 26 (by omega)])))]
    have z202 : (σ162 55 25).toInt = (σ116 55 25).toInt := by rw [(show σ162 55 25 = (σ116 55 25) from (by rw [f165 25 (by omega)]))]
    have z203 : (σ81 55 25).toInt = (σ 55 25).toInt := by rw [(show σ81 55 25 = (σ 55 25) from (by rw [f84 25 (by omega)]; exact (by rw [f55 25 (by omega)])))]
    have e192 : σ174 55 26 = σ81 55 26 := Int32.toInt_inj.mp (by omega)
    have e193 : σ174 55 25 = σ81 55 25 := Int32.toInt_inj.mp (by omega)
    have z204 : (σ81 55 6).toInt = (σ 55 6).toInt := by rw [(show σ81 55 6 = (σ 55 6) from (by rw [f84 6 (by omega)]; exact (by rw [f55 6 (by omega)])))]
    have e194 : σ174 68 = σ81 68 := jback68 (nb := (σ81 55 6).toInt) (by omega) w122 e188 (fun k hk => w180 k (by rw [e189]; exact hk)) D190.2
    have f195 : (∀ i : Nat, (i < 55 ∨ 55 < i) ∧ (i < 66 ∨ 66 < i) ∧ (i < 74 ∨ 78 < i) → σ174 i = σ81 i) := fun i hi => by
      by_cases h8 : i = 68
      · rw [h8]; exact e194
      by_cases h9 : i = 69
      · rw [h9]; exact e187
      rw [f176 i (by omega), f164 i (by omega), f118 i (by omega)]
    have f196 : ∀ k : Nat, (k < 18 ∨ 18 < k) ∧ (k < 19 ∨ 19 < k) ∧ (k < 20 ∨ 20 < k) ∧ (k < 21 ∨ 21 < k) ∧ (k < 22 ∨ 22 < k) ∧ (k < 37 ∨ 37 < k) → σ174 55 k = σ81 55 k := fun k hk => by
      by_cases h25 : k = 25
      · rw [h25]; exact e193
      by_cases h26 : k = 26
      · rw [h26]; exact e192
      by_cases h27 : k = 27
      · rw [h27]; exact e191
      rw [f177 k (by omega), f165 k (by omega), f119 k (by omega)]
    clear k199 k184 k127
    refine lv_aload_n hx hb dX12_likelyFrom_81 rfl (lv_at hl 6 rfl) ?_
    refine lv_iload_n hx hb dX12_likelyFrom_82 rfl (lv_at hl 5 rfl) ?_
    refine lv_iconst (v := 0) hx hb dX12_likelyFrom_83 (by decide) ?_
    have w205 : ∀ k : Nat, k < 4 → 0 ≤ (σ174 68 k).toInt ∧ (σ174 68 k).toInt ≤ 3 := (by rw [f195 68 (by omega)]; exact w101)
    have z206 : (σ174 55 6).toInt = (σ 55 6).toInt := by rw [(show σ174 55 6 = (σ 55 6) from (by rw [f196 6 (by omega)]; exact (by rw [f84 6 (by omega)]; exact (by rw [f55 6 (by omega)]))))]
    have z207 : (σ174 55 27).toInt = (σ 55 27).toInt := by rw [(show σ174 55 27 = (σ 55 27) from (by rw [f196 27 (by omega)]; exact (by rw [f84 27 (by omega)]; exact (by rw [f55 27 (by omega)]))))]
    have z208 : (σ174 55 25).toInt = (σ 55 25).toInt := by rw [(show σ174 55 25 = (σ 55 25) from (by rw [f196 25 (by omega)]; exact (by rw [f84 25 (by omega)]; exact m60)))]
    have z209 : (σ174 55 26).toInt = (σ 55 26).toInt := by rw [(show σ174 55 26 = (σ 55 26) from (by rw [f196 26 (by omega)]; exact (by rw [f84 26 (by omega)]; exact (by rw [f55 26 (by omega)]))))]
    have z210 : (σ174 68 0).toInt = (σ 68 0).toInt := by rw [(show σ174 68 0 = (σ 68 0) from (by rw [f195 68 (by omega)]; exact (by rw [f83 68 (by omega)]; exact (by rw [f54 68 (by omega)]))))]
    have z211 : (σ174 68 1).toInt = (σ 68 1).toInt := by rw [(show σ174 68 1 = (σ 68 1) from (by rw [f195 68 (by omega)]; exact (by rw [f83 68 (by omega)]; exact (by rw [f54 68 (by omega)]))))]
    have z212 : (σ174 68 2).toInt = (σ 68 2).toInt := by rw [(show σ174 68 2 = (σ 68 2) from (by rw [f195 68 (by omega)]; exact (by rw [f83 68 (by omega)]; exact (by rw [f54 68 (by omega)]))))]
    have z213 : (σ174 68 3).toInt = (σ 68 3).toInt := by rw [(show σ174 68 3 = (σ 68 3) from (by rw [f195 68 (by omega)]; exact (by rw [f83 68 (by omega)]; exact (by rw [f54 68 (by omega)]))))]
    refine jcallV (As := [.int r53, .int 0]) (rest := []) ⟨hx, hb, hml, hown, hts⟩ hK hP hA hS hZ (c_X12_goes_0 l D cI cL ad zz hJ σ174 τ r53 (r53.toInt) rfl w205 (by omega) (by omega) (by omega) (by omega) (by omega)) cw_RX12_296 (jc_55 cI cL ad σ174 τ) rfl ⟨Nat.le_of_ble_eq_true rfl, Nat.le_of_ble_eq_true rfl⟩ rfl rfl rfl hl.1 rfl (Nat.le_of_ble_eq_true rfl) dX12_likelyFrom_84 ⟨Nat.zero_le _, Nat.zero_le _⟩ (fun r215 σ214 τ214 H locs h214 hP hS => ?_)
    obtain ⟨rfl, f216, f217, w218, w219, w220, h214⟩ := h214
    obtain ⟨k221, k222, k223, h214⟩ := h214
    have h224 := h214
    obtain ⟨q230, k225, k226, k227, k228, k229⟩ := h224
    refine lv_istore (lv' := [(7, .int r215), (8, .int r163), (6, .int x108), (5, .int r82), (4, .int x63), (3, .int r53), (0, .ref (ad 55)), (1, .int a1), (2, .int a2)]) hx hb dX12_likelyFrom_87 hl (by decide) rfl (fun ls hl => ?_)
    refine lv_aload_n hx hb dX12_likelyFrom_89 rfl (lv_at hl 6 rfl) ?_
    refine lv_iload_n hx hb dX12_likelyFrom_90 rfl (lv_at hl 7 rfl) ?_
    refine lv_iload hx hb dX12_likelyFrom_91 (lv_at hl 2 rfl) ?_
    have z231 : (σ214 55 5).toInt = (σ 55 5).toInt := by rw [(show σ214 55 5 = (σ 55 5) from (by rw [f217 5 (by omega)]; exact (by rw [f196 5 (by omega)]; exact (by rw [f84 5 (by omega)]; exact (by rw [f55 5 (by omega)])))))]
    have z232 : (σ214 55 4).toInt = (σ 55 4).toInt := by rw [(show σ214 55 4 = (σ 55 4) from (by rw [f217 4 (by omega)]; exact (by rw [f196 4 (by omega)]; exact (by rw [f84 4 (by omega)]; exact (by rw [f55 4 (by omega)])))))]
    have w233 : ∀ k : Nat, k < 68 → (-200) ≤ (σ214 56 k).toInt ∧ (σ214 56 k).toInt ≤ 500 := (by rw [f216 56 (by omega)]; exact (by rw [f195 56 (by omega)]; exact w90))
    have w234 : ∀ k : Nat, k < 40 → 0 ≤ (σ214 57 k).toInt ∧ (σ214 57 k).toInt ≤ 67 := (by rw [f216 57 (by omega)]; exact (by rw [f195 57 (by omega)]; exact w91))
    have w235 : ∀ k : Nat, k < 40 → (-200) ≤ (σ214 58 k).toInt ∧ (σ214 58 k).toInt ≤ 500 := (by rw [f216 58 (by omega)]; exact (by rw [f195 58 (by omega)]; exact w92))
    have w236 : ∀ k : Nat, k < 40 → (-200) ≤ (σ214 59 k).toInt ∧ (σ214 59 k).toInt ≤ 500 := (by rw [f216 59 (by omega)]; exact (by rw [f195 59 (by omega)]; exact w93))
    have I237 : jI101 σ214 := ⟨(by omega), (by omega), (by omega), w233, w234, w235, w236⟩
    have z238 : (σ214 55 6).toInt = (σ 55 6).toInt := by rw [(show σ214 55 6 = (σ 55 6) from (by rw [f217 6 (by omega)]; exact (by rw [f196 6 (by omega)]; exact (by rw [f84 6 (by omega)]; exact (by rw [f55 6 (by omega)])))))]
    have w239 : ∀ k : Nat, k < 4 → 0 ≤ (σ214 60 k).toInt ∧ (σ214 60 k).toInt ≤ 50 := (by rw [f216 60 (by omega)]; exact (by rw [f195 60 (by omega)]; exact w96))
    have w240 : ∀ k : Nat, k < 4 → 0 ≤ (σ214 61 k).toInt ∧ (σ214 61 k).toInt ≤ 20 := (by rw [f216 61 (by omega)]; exact (by rw [f195 61 (by omega)]; exact w97))
    have I241 : jI102 σ214 := ⟨(by omega), w239, w240⟩
    have z242 : (σ214 55 9).toInt = (σ 55 9).toInt := by rw [(show σ214 55 9 = (σ 55 9) from (by rw [f217 9 (by omega)]; exact (by rw [f196 9 (by omega)]; exact (by rw [f84 9 (by omega)]; exact (by rw [f55 9 (by omega)])))))]
    have I243 : jI103 σ214 := (show 0 ≤ (σ214 55 9).toInt ∧ (σ214 55 9).toInt ≤ 3 by omega)
    have z244 : (σ214 55 10).toInt = (σ 55 10).toInt := by rw [(show σ214 55 10 = (σ 55 10) from (by rw [f217 10 (by omega)]; exact (by rw [f196 10 (by omega)]; exact (by rw [f84 10 (by omega)]; exact (by rw [f55 10 (by omega)])))))]
    have z245 : (σ214 55 12).toInt = (σ 55 12).toInt := by rw [(show σ214 55 12 = (σ 55 12) from (by rw [f217 12 (by omega)]; exact (by rw [f196 12 (by omega)]; exact (by rw [f84 12 (by omega)]; exact (by rw [f55 12 (by omega)])))))]
    have z246 : (σ214 55 13).toInt = (σ 55 13).toInt := by rw [(show σ214 55 13 = (σ 55 13) from (by rw [f217 13 (by omega)]; exact (by rw [f196 13 (by omega)]; exact (by rw [f84 13 (by omega)]; exact (by rw [f55 13 (by omega)])))))]
    have w247 : ∀ k : Nat, k < 8 → 0 ≤ (σ214 62 k).toInt ∧ (σ214 62 k).toInt ≤ 3 := (by rw [f216 62 (by omega)]; exact (by rw [f195 62 (by omega)]; exact (by rw [f83 62 (by omega)]; exact w61)))
    have w248 : ∀ k : Nat, k < 8 → 0 ≤ (σ214 67 k).toInt ∧ (σ214 67 k).toInt ≤ 3 := (by rw [f216 67 (by omega)]; exact (by rw [f195 67 (by omega)]; exact (by rw [f83 67 (by omega)]; exact (by rw [f54 67 (by omega)]; exact w16))))
    have I249 : jI104 σ214 := ⟨(by omega), (by omega), (by omega), w247, w248⟩
    have z250 : (σ214 55 15).toInt = (σ 55 15).toInt := by rw [(show σ214 55 15 = (σ 55 15) from (by rw [f217 15 (by omega)]; exact (by rw [f196 15 (by omega)]; exact (by rw [f84 15 (by omega)]; exact (by rw [f55 15 (by omega)])))))]
    have w251 : ∀ k : Nat, k < 2 → (-1) ≤ (σ214 65 k).toInt ∧ (σ214 65 k).toInt ≤ 80 := (by rw [f216 65 (by omega)]; exact (by rw [f195 65 (by omega)]; exact (by rw [f83 65 (by omega)]; exact w78)))
    have I252 : jI105 σ214 := ⟨(by omega), w251⟩
    have z253 : (σ214 55 32).toInt = (σ 55 32).toInt := by rw [(show σ214 55 32 = (σ 55 32) from (by rw [f217 32 (by omega)]; exact (by rw [f196 32 (by omega)]; exact (by rw [f84 32 (by omega)]; exact (by rw [f55 32 (by omega)])))))]
    have w254 : ∀ k : Nat, k < 20 → 0 ≤ (σ214 70 k).toInt ∧ (σ214 70 k).toInt ≤ 6 := (by rw [f216 70 (by omega)]; exact (by rw [f195 70 (by omega)]; exact (by rw [f83 70 (by omega)]; exact (by rw [f54 70 (by omega)]; exact w20))))
    have w255 : ∀ k : Nat, k < 20 → 0 ≤ (σ214 71 k).toInt ∧ (σ214 71 k).toInt ≤ 8 := (by rw [f216 71 (by omega)]; exact (by rw [f195 71 (by omega)]; exact (by rw [f83 71 (by omega)]; exact (by rw [f54 71 (by omega)]; exact w21))))
    have w256 : ∀ k : Nat, k < 160 → 0 ≤ (σ214 72 k).toInt ∧ (σ214 72 k).toInt ≤ 3 := (by rw [f216 72 (by omega)]; exact (by rw [f195 72 (by omega)]; exact (by rw [f83 72 (by omega)]; exact (by rw [f54 72 (by omega)]; exact w22))))
    have I257 : jI106 σ214 := ⟨(by omega), w254, w255, w256⟩
    have I258 : jI120 σ214 := ⟨(by omega), (by omega), (by omega), (by omega), (by omega), w218⟩
    have p259 : jKept σ214 := jKept.fr (by rw [f216 75 (by omega)]) (by rw [f216 76 (by omega)]) (by rw [f216 77 (by omega)]) p185
    refine jcallV (As := [.int a1, .int x108]) (rest := []) ⟨hx, hb, hml, hown, hts⟩ hK hP hA hS hZ (c_X12_likelyFrom_5 l D cI cL ad zz hJ σ214 τ a1 (A1) t1 x108 (x108.toInt) rfl I237 I241 I243 I249 I252 I257 I258 p259 (by omega) (by omega)) cw_RX12_328 (jc_55 cI cL ad σ214 τ) rfl ⟨Nat.le_of_ble_eq_true rfl, Nat.le_of_ble_eq_true rfl⟩ rfl rfl rfl hl.1 rfl (Nat.le_of_ble_eq_true rfl) dX12_likelyFrom_93 ⟨Nat.zero_le _, Nat.zero_le _⟩ (fun r261 σ260 τ260 H locs h260 hP hS => ?_)
    obtain ⟨rfl, f262, f263, p264, h260⟩ := h260
    refine lv_istore (lv' := [(9, .int r261), (7, .int r215), (8, .int r163), (6, .int x108), (5, .int r82), (4, .int x63), (3, .int r53), (0, .ref (ad 55)), (1, .int a1), (2, .int a2)]) hx hb dX12_likelyFrom_96 hl (by decide) rfl (fun ls hl => ?_)
    refine lv_aload_n hx hb dX12_likelyFrom_98 rfl (lv_at hl 7 rfl) ?_
    refine lv_iload_n hx hb dX12_likelyFrom_99 rfl (lv_at hl 6 rfl) ?_
    refine lv_iconst (v := 0) hx hb dX12_likelyFrom_100 (by decide) ?_
    refine lv_iload hx hb dX12_likelyFrom_101 (lv_at hl 1 rfl) ?_
    have w265 : ∀ k : Nat, k < 4 → 0 ≤ (σ260 68 k).toInt ∧ (σ260 68 k).toInt ≤ 3 := (by rw [f262 68 (by omega)]; exact w218)
    have z266 : (σ260 55 25).toInt = (σ214 55 25).toInt := by rw [(show σ260 55 25 = (σ214 55 25) from (by rw [f263 25 (by omega)]))]
    have z267 : (σ260 55 26).toInt = (σ214 55 26).toInt := by rw [(show σ260 55 26 = (σ214 55 26) from (by rw [f263 26 (by omega)]))]
    have z268 : (σ260 55 6).toInt = (σ 55 6).toInt := by rw [(show σ260 55 6 = (σ 55 6) from (by rw [f263 6 (by omega)]; exact (by rw [f217 6 (by omega)]; exact (by rw [f196 6 (by omega)]; exact (by rw [f84 6 (by omega)]; exact (by rw [f55 6 (by omega)]))))))]
    have w269 : ∀ k : Nat, k < 4 → 0 ≤ (σ174 68 k).toInt ∧ (σ174 68 k).toInt ≤ 3 := w205
    have z271 : (σ174 55 27).toInt = (σ 55 27).toInt := by rw [(show σ174 55 27 = (σ 55 27) from (by rw [f196 27 (by omega)]; exact (by rw [f84 27 (by omega)]; exact (by rw [f55 27 (by omega)]))))]
    have k270 := jwas (by omega) (w269 0 (by decide)) (w269 1 (by decide)) (w269 2 (by decide)) (w269 3 (by decide)) k225
    rw [← (show σ260 55 6 = σ174 55 6 from (by rw [f263 6 (by omega), f217 6 (by omega)]))] at k270
    refine jcallVv (As := [.int r53, .int 0, .int r215]) (rest := []) ⟨hx, hb, hml, hown, hts⟩ hK hP hA hS hZ (c_X12_goesBack_0 l D cI cL ad zz hJ σ260 τ r53 (r53.toInt) rfl r215 (r215.toInt) rfl w265 (by omega) (by omega) (by omega) k270) cw_RX12_300 (jc_55 cI cL ad σ260 τ) rfl ⟨Nat.le_of_ble_eq_true rfl, Nat.le_of_ble_eq_true rfl⟩ rfl rfl rfl hl.1 rfl (Nat.le_of_ble_eq_true rfl) dX12_likelyFrom_103 ⟨Nat.zero_le _, Nat.zero_le _⟩ (fun σ272 τ272 H locs h272 hP hS => ?_)
    obtain ⟨rfl, f274, f275, w276, w277, w278, h272⟩ := h272
    obtain ⟨k279, k280, k281, k282, h272⟩ := h272
    have p283 : jKept σ272 := jKept.fr (by rw [f274 75 (by omega)]) (by rw [f274 76 (by omega)]) (by rw [f274 77 (by omega)]) p264
    have e284 : σ260 69 = σ214 69 := (by rw [f262 69 (by omega)])
    have e285 : σ272 69 = σ174 69 := jback69 w219 e284 w277
    have e286 : σ260 68 = σ214 68 := (by rw [f262 68 (by omega)])
    have e287 : σ260 55 6 = σ174 55 6 := (by rw [f263 6 (by omega), f217 6 (by omega)])
    have w295 : ∀ k : Nat, k < 4 → 0 ≤ (σ174 68 k).toInt ∧ (σ174 68 k).toInt ≤ 3 := w205
    have w296 : ∀ k : Nat, k < 4 → 0 ≤ (σ272 68 k).toInt ∧ (σ272 68 k).toInt ≤ 3 := w276
    have k297 := k282
    rw [e287] at k297
    have D288 := jdig (w295 0 (by decide)) (w295 1 (by decide)) (w295 2 (by decide)) (w295 3 (by decide)) (w296 0 (by decide)) (w296 1 (by decide)) (w296 2 (by decide)) (w296 3 (by decide)) k225 k297
    have e289 : σ272 55 27 = σ174 55 27 := Int32.toInt_inj.mp (by have h9 := D288.1; omega)
    have z298 : (σ260 55 26).toInt = (σ214 55 26).toInt := by rw [(show σ260 55 26 = (σ214 55 26) from (by rw [f263 26 (by omega)]))]
    have z299 : (σ174 55 26).toInt = (σ 55 26).toInt := by rw [(show σ174 55 26 = (σ 55 26) from (by rw [f196 26 (by omega)]; exact (by rw [f84 26 (by omega)]; exact (by rw [f55 26 (by omega)]))))]
    have z300 : (σ260 55 25).toInt = (σ214 55 25).toInt := by rw [(show σ260 55 25 = (σ214 55 25) from (by rw [f263 25 (by omega)]))]
    have z301 : (σ174 55 25).toInt = (σ 55 25).toInt := by rw [(show σ174 55 25 = (σ 55 25) from (by rw [f196 25 (by omega)]; exact (by rw [f84 25 (by omega)]; exact (by rw [f55 25 (by omega)]))))]
    have e290 : σ272 55 26 = σ174 55 26 := Int32.toInt_inj.mp (by omega)
    have e291 : σ272 55 25 = σ174 55 25 := Int32.toInt_inj.mp (by omega)
    have z302 : (σ174 55 6).toInt = (σ 55 6).toInt := by rw [(show σ174 55 6 = (σ 55 6) from (by rw [f196 6 (by omega)]; exact (by rw [f84 6 (by omega)]; exact (by rw [f55 6 (by omega)]))))]
    have e292 : σ272 68 = σ174 68 := jback68 (nb := (σ174 55 6).toInt) (by omega) w220 e286 (fun k hk => w278 k (by rw [e287]; exact hk)) D288.2
    have f293 : (∀ i : Nat, (i < 55 ∨ 55 < i) ∧ (i < 66 ∨ 66 < i) ∧ (i < 74 ∨ 78 < i) → σ272 i = σ174 i) := fun i hi => by
      by_cases h8 : i = 68
      · rw [h8]; exact e292
      by_cases h9 : i = 69
      · rw [h9]; exact e285
      rw [f274 i (by omega), f262 i (by omega), f216 i (by omega)]
    have f294 : ∀ k : Nat, (k < 18 ∨ 18 < k) ∧ (k < 19 ∨ 19 < k) ∧ (k < 20 ∨ 20 < k) ∧ (k < 21 ∨ 21 < k) ∧ (k < 22 ∨ 22 < k) ∧ (k < 37 ∨ 37 < k) → σ272 55 k = σ174 55 k := fun k hk => by
      by_cases h25 : k = 25
      · rw [h25]; exact e291
      by_cases h26 : k = 26
      · rw [h26]; exact e290
      by_cases h27 : k = 27
      · rw [h27]; exact e289
      rw [f275 k (by omega), f263 k (by omega), f217 k (by omega)]
    clear k297 k282 k225
    refine lv_iload hx hb dX12_likelyFrom_106 (lv_at hl 3 rfl) ?_
    refine lv_if_le (tgt := 117) hx hb dX12_likelyFrom_108 (by decide) (fun c303 => ?_) (fun c303 => ?_)
    · have kc303 := jle c303 rfl jz_0
      refine lv_iconst (v := 0) hx hb dX12_likelyFrom_117 (by decide) ?_
      refine lv_iload hx hb dX12_likelyFrom_118 (lv_at hl 2 rfl) ?_
      refine lv_iload hx hb dX12_likelyFrom_120 (lv_at hl 0 rfl) ?_
      refine lv_iload hx hb dX12_likelyFrom_122 (lv_at hl 4 rfl) ?_
      refine jcallS (As := [.int r163, .int r261, .int r82]) (rest := [.int 0]) ⟨hx, hb, hml, hown, hts⟩ hK hP hA hS hZ (c_X12_mixed l D cI cL ad zz hJ σ272 τ r163 (r163.toInt) rfl r261 (r261.toInt) rfl r82 (r82.toInt) rfl) cw_RX12_304 ⟨Nat.le_of_ble_eq_true rfl, Nat.le_of_ble_eq_true rfl⟩ rfl rfl rfl hl.1 rfl (Nat.le_of_ble_eq_true rfl) dX12_likelyFrom_124 ⟨Nat.zero_le _, Nat.zero_le _⟩ (fun r305 σ304 τ304 H locs h304 hP hS => ?_)
      obtain ⟨⟨rfl, rfl⟩, h304⟩ := h304
      refine lv_aload_n hx hb dX12_likelyFrom_127 rfl (lv_at hl 7 rfl) ?_
      refine va_get (D := D) hx hb hts inlX12 hown hK hP 55 (jc_55 cI cL ad σ272 τ) rfl 13 (by decide) (hts _ kw_15_14) (fun _ h9 => h9) rfl dX12_likelyFrom_128 ?_
      have m306 : σ272 55 13 = (σ 55 13) := (by rw [f294 13 (by omega)]; exact (by rw [f196 13 (by omega)]; exact (by rw [f84 13 (by omega)]; exact (by rw [f55 13 (by omega)]))))
      refine jtopr m306 ?_
      refine jcallS (As := [.int 0, .int r305, .int (σ 55 13)]) (rest := []) ⟨hx, hb, hml, hown, hts⟩ hK hP hA hS hZ (c_X12_mixed l D cI cL ad zz hJ σ272 τ 0 (0) jz_0 r305 (r305.toInt) rfl (σ 55 13) ((σ 55 13).toInt) rfl) cw_RX12_304 ⟨Nat.le_of_ble_eq_true rfl, Nat.le_of_ble_eq_true rfl⟩ rfl rfl rfl hl.1 rfl (Nat.le_of_ble_eq_true rfl) dX12_likelyFrom_131 ⟨Nat.zero_le _, Nat.zero_le _⟩ (fun r308 σ307 τ307 H locs h307 hP hS => ?_)
      obtain ⟨⟨rfl, rfl⟩, h307⟩ := h307
      exact hret r308 σ272 τ _ _ _ _ rfl ⟨rfl, (fun i hi => by rw [f293 i (by omega), f195 i (by omega), f83 i (by omega), f54 i (by omega)]), (fun k hk => by rw [f294 k (by omega), f196 k (by omega), f84 k (by omega), f55 k (by omega)]), p283, trivial⟩ hP hS dX12_likelyFrom_134
    · have kc303 := jnle c303 rfl jz_0
      refine lv_ldcw (v := 1000000) hx hb hown (hts _ kw_37_13) dX12_likelyFrom_111 ?_
      refine lv_goto (tgt := 118) hx hb dX12_likelyFrom_114 (by decide) ?_
      refine lv_iload hx hb dX12_likelyFrom_118 (lv_at hl 2 rfl) ?_
      refine lv_iload hx hb dX12_likelyFrom_120 (lv_at hl 0 rfl) ?_
      refine lv_iload hx hb dX12_likelyFrom_122 (lv_at hl 4 rfl) ?_
      refine jcallS (As := [.int r163, .int r261, .int r82]) (rest := [.int 1000000]) ⟨hx, hb, hml, hown, hts⟩ hK hP hA hS hZ (c_X12_mixed l D cI cL ad zz hJ σ272 τ r163 (r163.toInt) rfl r261 (r261.toInt) rfl r82 (r82.toInt) rfl) cw_RX12_304 ⟨Nat.le_of_ble_eq_true rfl, Nat.le_of_ble_eq_true rfl⟩ rfl rfl rfl hl.1 rfl (Nat.le_of_ble_eq_true rfl) dX12_likelyFrom_124 ⟨Nat.zero_le _, Nat.zero_le _⟩ (fun r310 σ309 τ309 H locs h309 hP hS => ?_)
      obtain ⟨⟨rfl, rfl⟩, h309⟩ := h309
      refine lv_aload_n hx hb dX12_likelyFrom_127 rfl (lv_at hl 7 rfl) ?_
      refine va_get (D := D) hx hb hts inlX12 hown hK hP 55 (jc_55 cI cL ad σ272 τ) rfl 13 (by decide) (hts _ kw_15_14) (fun _ h9 => h9) rfl dX12_likelyFrom_128 ?_
      have m311 : σ272 55 13 = (σ 55 13) := (by rw [f294 13 (by omega)]; exact (by rw [f196 13 (by omega)]; exact (by rw [f84 13 (by omega)]; exact (by rw [f55 13 (by omega)]))))
      refine jtopr m311 ?_
      refine jcallS (As := [.int 1000000, .int r310, .int (σ 55 13)]) (rest := []) ⟨hx, hb, hml, hown, hts⟩ hK hP hA hS hZ (c_X12_mixed l D cI cL ad zz hJ σ272 τ 1000000 (1000000) jz_1000000 r310 (r310.toInt) rfl (σ 55 13) ((σ 55 13).toInt) rfl) cw_RX12_304 ⟨Nat.le_of_ble_eq_true rfl, Nat.le_of_ble_eq_true rfl⟩ rfl rfl rfl hl.1 rfl (Nat.le_of_ble_eq_true rfl) dX12_likelyFrom_131 ⟨Nat.zero_le _, Nat.zero_le _⟩ (fun r313 σ312 τ312 H locs h312 hP hS => ?_)
      obtain ⟨⟨rfl, rfl⟩, h312⟩ := h312
      exact hret r313 σ272 τ _ _ _ _ rfl ⟨rfl, (fun i hi => by rw [f293 i (by omega), f195 i (by omega), f83 i (by omega), f54 i (by omega)]), (fun k hk => by rw [f294 k (by omega), f196 k (by omega), f84 k (by omega), f55 k (by omega)]), p283, trivial⟩ hP hS dX12_likelyFrom_134
set_option maxHeartbeats 4000000 in
set_option maxRecDepth 100000 in
theorem c_X12_likelyFrom_7 (l : Launch) (D : va_G) (cI cL : ClassId) (ad zz : Nat → Nat) (hJ : jD ad) (σ : Nat → Nat → Int32) (τ : Nat → Nat → Int64) (a1 : Int32) (A1 : Int) (t1 : a1.toInt = A1) (a2 : Int32) (A2 : Int) (t2 : a2.toInt = A2) (hI101 : jI101 σ) (hI102 : jI102 σ) (hI103 : jI103 σ) (hI104 : jI104 σ) (hI105 : jI105 σ) (hI106 : jI106 σ) (hI120 : jI120 σ) (hs_jKept : jKept σ) (hp0 : 0 ≤ A1 ∧ A1 ≤ 19) (hp1 : (σ 55 12).toInt - (σ 55 26).toInt ≤ 7) : jM l yX12_likelyFrom cX12_likelyFrom 10 (some .int) ({ frames := 69, cells := 0, slots := 0, locals := 1687 }) D cI cL ad zz [.ref (ad 55), .int a1, .int a2] σ τ (fun r σ' τ' => τ = τ' ∧ (∀ i : Nat, (i < 55 ∨ 55 < i) ∧ (i < 66 ∨ 66 < i) ∧ (i < 74 ∨ 78 < i) → σ' i = σ i) ∧ (∀ k : Nat, (k < 18 ∨ 18 < k) ∧ (k < 19 ∨ 19 < k) ∧ (k < 20 ∨ 20 < k) ∧ (k < 21 ∨ 21 < k) ∧ (k < 22 ∨ 22 < k) ∧ (k < 37 ∨ 37 < k) → σ' 55 k = σ 55 k) ∧ (jKept σ') ∧ True) := by
  refine jM.of hJ (by decide +kernel) (nt := .int) rfl (Nat.le_of_ble_eq_true rfl) ?_
  intro p e s m args below meth c Q ls hC hret hl hP
  obtain ⟨hx, hb, hr, hml, hown, hts, hK, -, hlocks, hZ⟩ := hC
  have hown : s.vm.findClass RX12 = some m.cls := hown
  have hS : va_S (jA ad) s.heap s.heap [] := va_S.rf
  have hA : ∀ q, jA ad q → jA ad q := fun _ h => h
  have hl : lv_has ls 10 [(0, .ref (ad 55)), (1, .int a1), (2, .int a2)] := hl
  have g1 := jrg t1
  have g2 := jrg t2
  obtain ⟨i1, i2, i3, w4, w5, w6, w7⟩ : (0 ≤ (σ 55 5).toInt) ∧ ((σ 55 5).toInt ≤ (σ 55 4).toInt) ∧ ((σ 55 4).toInt ≤ 40) ∧ (∀ k : Nat, k < 68 → (-200) ≤ (σ 56 k).toInt ∧ (σ 56 k).toInt ≤ 500) ∧ (∀ k : Nat, k < 40 → 0 ≤ (σ 57 k).toInt ∧ (σ 57 k).toInt ≤ 67) ∧ (∀ k : Nat, k < 40 → (-200) ≤ (σ 58 k).toInt ∧ (σ 58 k).toInt ≤ 500) ∧ (∀ k : Nat, k < 40 → (-200) ≤ (σ 59 k).toInt ∧ (σ 59 k).toInt ≤ 500) := id hI101
  obtain ⟨i8, w9, w10⟩ : (0 ≤ (σ 55 6).toInt ∧ (σ 55 6).toInt ≤ 4) ∧ (∀ k : Nat, k < 4 → 0 ≤ (σ 60 k).toInt ∧ (σ 60 k).toInt ≤ 50) ∧ (∀ k : Nat, k < 4 → 0 ≤ (σ 61 k).toInt ∧ (σ 61 k).toInt ≤ 20) := id hI102
  have i11 : 0 ≤ (σ 55 9).toInt ∧ (σ 55 9).toInt ≤ 3 := hI103
  obtain ⟨i12, i13, i14, w15, w16⟩ : (1 ≤ (σ 55 10).toInt ∧ (σ 55 10).toInt ≤ 8) ∧ (1 ≤ (σ 55 12).toInt ∧ (σ 55 12).toInt ≤ 12) ∧ (0 ≤ (σ 55 13).toInt ∧ (σ 55 13).toInt ≤ 999) ∧ (∀ k : Nat, k < 8 → 0 ≤ (σ 62 k).toInt ∧ (σ 62 k).toInt ≤ 3) ∧ (∀ k : Nat, k < 8 → 0 ≤ (σ 67 k).toInt ∧ (σ 67 k).toInt ≤ 3) := id hI104
  obtain ⟨i17, w18⟩ : (0 ≤ (σ 55 15).toInt ∧ (σ 55 15).toInt ≤ 80) ∧ (∀ k : Nat, k < 2 → (-1) ≤ (σ 65 k).toInt ∧ (σ 65 k).toInt ≤ 80) := id hI105
  obtain ⟨i19, w20, w21, w22⟩ : (0 ≤ (σ 55 32).toInt ∧ (σ 55 32).toInt ≤ 20) ∧ (∀ k : Nat, k < 20 → 0 ≤ (σ 70 k).toInt ∧ (σ 70 k).toInt ≤ 6) ∧ (∀ k : Nat, k < 20 → 0 ≤ (σ 71 k).toInt ∧ (σ 71 k).toInt ≤ 8) ∧ (∀ k : Nat, k < 160 → 0 ≤ (σ 72 k).toInt ∧ (σ 72 k).toInt ≤ 3) := id hI106
  obtain ⟨i23, i24, i25, i26, i27, w28⟩ : (0 ≤ (σ 55 25).toInt) ∧ ((σ 55 25).toInt ≤ (σ 55 10).toInt) ∧ (0 ≤ (σ 55 26).toInt) ∧ ((σ 55 26).toInt ≤ (σ 55 12).toInt) ∧ ((-1) ≤ (σ 55 27).toInt ∧ (σ 55 27).toInt ≤ 3) ∧ (∀ k : Nat, k < 4 → 0 ≤ (σ 68 k).toInt ∧ (σ 68 k).toInt ≤ 3) := id hI120
  refine lv_aload_n hx hb dX12_likelyFrom_0 rfl (lv_at hl 0 rfl) ?_
  have I29 : jI102 σ := ⟨(by omega), w9, w10⟩
  have I30 : jI104 σ := ⟨(by omega), (by omega), (by omega), w15, w16⟩
  have I31 : jI120 σ := ⟨(by omega), (by omega), (by omega), (by omega), (by omega), w28⟩
  refine jcallV (As := []) (rest := []) ⟨hx, hb, hml, hown, hts⟩ hK hP hA hS hZ (c_X12_isEnded l D cI cL ad zz hJ σ τ I29 I30 I31) cw_RX12_307 (jc_55 cI cL ad σ τ) rfl ⟨Nat.le_of_ble_eq_true rfl, Nat.le_of_ble_eq_true rfl⟩ rfl rfl rfl hl.1 rfl (Nat.le_of_ble_eq_true rfl) dX12_likelyFrom_1 ⟨Nat.zero_le _, Nat.zero_le _⟩ (fun r33 σ32 τ32 H locs h32 hP hS => ?_)
  obtain ⟨⟨rfl, rfl⟩, h32⟩ := h32
  rcases h32 with h34 | h35
  · obtain ⟨q37, k36⟩ := h34
    have q37 := q37.symm
    subst q37
    refine lv_if_eq (tgt := 19) hx hb dX12_likelyFrom_4 (by decide) (fun c => absurd c (by decide)) (fun _ => ?_)
    refine lv_iload_n hx hb dX12_likelyFrom_7 rfl (lv_at hl 2 rfl) ?_
    refine lv_if_le (tgt := 17) hx hb dX12_likelyFrom_8 (by decide) (fun c38 => ?_) (fun c38 => ?_)
    · have kc38 := jle c38 t2 jz_0
      refine lv_iconst (v := 0) hx hb dX12_likelyFrom_17 (by decide) ?_
      exact hret 0 σ τ _ _ _ _ rfl ⟨rfl, (fun _ _ => rfl), (fun _ _ => rfl), hs_jKept, trivial⟩ hP hS dX12_likelyFrom_18
    · have kc38 := jnle c38 t2 jz_0
      refine lv_ldcw (v := 1000000) hx hb hown (hts _ kw_37_13) dX12_likelyFrom_11 ?_
      refine lv_goto (tgt := 18) hx hb dX12_likelyFrom_14 (by decide) ?_
      exact hret 1000000 σ τ _ _ _ _ rfl ⟨rfl, (fun _ _ => rfl), (fun _ _ => rfl), hs_jKept, trivial⟩ hP hS dX12_likelyFrom_18
  · obtain ⟨q42, k39, k40, k41⟩ := h35
    have q42 := q42.symm
    subst q42
    obtain ⟨B43, k44, k45, w46⟩ := k41
    refine lv_if_eq (tgt := 19) hx hb dX12_likelyFrom_4 (by decide) (fun _ => ?_) (fun c => absurd (by decide) c)
    refine lv_aload_n hx hb dX12_likelyFrom_19 rfl (lv_at hl 0 rfl) ?_
    refine lv_iload_n hx hb dX12_likelyFrom_20 rfl (lv_at hl 1 rfl) ?_
    have p47 : jmb σ B43 = 1 := (jmb_fr rfl rfl rfl rfl rfl B43).trans w46
    have I48 : jI101 σ := ⟨(by omega), (by omega), (by omega), w4, w5, w6, w7⟩
    have I49 : jI103 σ := (show 0 ≤ (σ 55 9).toInt ∧ (σ 55 9).toInt ≤ 3 by omega)
    have I50 : jI105 σ := ⟨(by omega), w18⟩
    have I51 : jI106 σ := ⟨(by omega), w20, w21, w22⟩
    refine jcallV (As := [.int a1]) (rest := []) ⟨hx, hb, hml, hown, hts⟩ hK hP hA hS hZ (c_X12_putsOn l D cI cL ad zz hJ σ τ B43 p47 a1 (A1) t1 I48 I29 I49 I30 I50 I51 I31 hs_jKept (by omega) (by omega) (by omega) (by omega) (by omega)) cw_RX12_321 (jc_55 cI cL ad σ τ) rfl ⟨Nat.le_of_ble_eq_true rfl, Nat.le_of_ble_eq_true rfl⟩ rfl rfl rfl hl.1 rfl (Nat.le_of_ble_eq_true rfl) dX12_likelyFrom_21 ⟨Nat.zero_le _, Nat.zero_le _⟩ (fun r53 σ52 τ52 H locs h52 hP hS => ?_)
    obtain ⟨rfl, f54, f55, p56, h52⟩ := h52
    have h57 := h52
    obtain ⟨q59, k58⟩ := h57
    refine lv_istore_n (lv' := [(3, .int r53), (0, .ref (ad 55)), (1, .int a1), (2, .int a2)]) hx hb dX12_likelyFrom_24 rfl hl (by decide) rfl (fun ls hl => ?_)
    refine lv_aload_n hx hb dX12_likelyFrom_25 rfl (lv_at hl 1 rfl) ?_
    refine va_get (D := D) hx hb hts inlX12 hown hK hP 55 (jc_55 cI cL ad σ52 τ) rfl 11 (by decide) (hts _ kw_7_8) (fun _ h9 => h9) rfl dX12_likelyFrom_26 ?_
    refine lv_aload_n hx hb dX12_likelyFrom_29 rfl (lv_at hl 1 rfl) ?_
    refine va_get (D := D) hx hb hts inlX12 hown hK hP 55 (jc_55 cI cL ad σ52 τ) rfl 25 (by decide) (hts _ kw_23_6) (fun _ h9 => h9) rfl dX12_likelyFrom_30 ?_
    have m60 : σ52 55 25 = (σ 55 25) := (by rw [f55 25 (by omega)])
    refine jtopr m60 ?_
    refine jald hx hb hK hP (jc_62 cI cL ad σ52 τ) (jin rfl (by omega) (by omega)) dX12_likelyFrom_33 ?_
    have w61 : ∀ k : Nat, k < 8 → 0 ≤ (σ52 62 k).toInt ∧ (σ52 62 k).toInt ≤ 3 := (by rw [f54 62 (by omega)]; exact w15)
    have g62 := w61 _ (jnat (x := (σ 55 25)) rfl (n := 8) (by omega) (by decide))
    refine lv_topi (fun x63 ex63 => ?_)
    rw [← ex63] at g62
    refine lv_istore (lv' := [(4, .int x63), (3, .int r53), (0, .ref (ad 55)), (1, .int a1), (2, .int a2)]) hx hb dX12_likelyFrom_34 hl (by decide) rfl (fun ls hl => ?_)
    refine lv_aload_n hx hb dX12_likelyFrom_36 rfl (lv_at hl 2 rfl) ?_
    refine lv_iload_n hx hb dX12_likelyFrom_37 rfl (lv_at hl 1 rfl) ?_
    refine lv_iload hx hb dX12_likelyFrom_38 (lv_at hl 0 rfl) ?_
    have z64 : (σ52 55 5).toInt = (σ 55 5).toInt := by rw [(show σ52 55 5 = (σ 55 5) from (by rw [f55 5 (by omega)]))]
    have z65 : (σ52 55 4).toInt = (σ 55 4).toInt := by rw [(show σ52 55 4 = (σ 55 4) from (by rw [f55 4 (by omega)]))]
    have w66 : ∀ k : Nat, k < 68 → (-200) ≤ (σ52 56 k).toInt ∧ (σ52 56 k).toInt ≤ 500 := (by rw [f54 56 (by omega)]; exact w4)
    have w67 : ∀ k : Nat, k < 40 → 0 ≤ (σ52 57 k).toInt ∧ (σ52 57 k).toInt ≤ 67 := (by rw [f54 57 (by omega)]; exact w5)
    have w68 : ∀ k : Nat, k < 40 → (-200) ≤ (σ52 58 k).toInt ∧ (σ52 58 k).toInt ≤ 500 := (by rw [f54 58 (by omega)]; exact w6)
    have w69 : ∀ k : Nat, k < 40 → (-200) ≤ (σ52 59 k).toInt ∧ (σ52 59 k).toInt ≤ 500 := (by rw [f54 59 (by omega)]; exact w7)
    have I70 : jI101 σ52 := ⟨(by omega), (by omega), (by omega), w66, w67, w68, w69⟩
    have z71 : (σ52 55 6).toInt = (σ 55 6).toInt := by rw [(show σ52 55 6 = (σ 55 6) from (by rw [f55 6 (by omega)]))]
    have w72 : ∀ k : Nat, k < 4 → 0 ≤ (σ52 60 k).toInt ∧ (σ52 60 k).toInt ≤ 50 := (by rw [f54 60 (by omega)]; exact w9)
    have w73 : ∀ k : Nat, k < 4 → 0 ≤ (σ52 61 k).toInt ∧ (σ52 61 k).toInt ≤ 20 := (by rw [f54 61 (by omega)]; exact w10)
    have I74 : jI102 σ52 := ⟨(by omega), w72, w73⟩
    have z75 : (σ52 55 9).toInt = (σ 55 9).toInt := by rw [(show σ52 55 9 = (σ 55 9) from (by rw [f55 9 (by omega)]))]
    have I76 : jI103 σ52 := (show 0 ≤ (σ52 55 9).toInt ∧ (σ52 55 9).toInt ≤ 3 by omega)
    have z77 : (σ52 55 15).toInt = (σ 55 15).toInt := by rw [(show σ52 55 15 = (σ 55 15) from (by rw [f55 15 (by omega)]))]
    have w78 : ∀ k : Nat, k < 2 → (-1) ≤ (σ52 65 k).toInt ∧ (σ52 65 k).toInt ≤ 80 := (by rw [f54 65 (by omega)]; exact w18)
    have I79 : jI105 σ52 := ⟨(by omega), w78⟩
    have w80 : ∀ k : Nat, k < 4 → 0 ≤ (σ52 68 k).toInt ∧ (σ52 68 k).toInt ≤ 3 := (by rw [f54 68 (by omega)]; exact w28)
    refine jcallV (As := [.int r53, .int x63]) (rest := []) ⟨hx, hb, hml, hown, hts⟩ hK hP hA hS hZ (c_X12_outBy l D cI cL ad zz hJ σ52 τ r53 (r53.toInt) rfl x63 (x63.toInt) rfl I70 I74 I76 I79 w80 (by omega) (by omega)) cw_RX12_259 (jc_55 cI cL ad σ52 τ) rfl ⟨Nat.le_of_ble_eq_true rfl, Nat.le_of_ble_eq_true rfl⟩ rfl rfl rfl hl.1 rfl (Nat.le_of_ble_eq_true rfl) dX12_likelyFrom_40 ⟨Nat.zero_le _, Nat.zero_le _⟩ (fun r82 σ81 τ81 H locs h81 hP hS => ?_)
    obtain ⟨rfl, f83, f84, h81⟩ := h81
    have h85 := h81
    obtain ⟨q87, k86⟩ := h85
    refine lv_istore (lv' := [(5, .int r82), (4, .int x63), (3, .int r53), (0, .ref (ad 55)), (1, .int a1), (2, .int a2)]) hx hb dX12_likelyFrom_43 hl (by decide) rfl (fun ls hl => ?_)
    refine lv_iload_n hx hb dX12_likelyFrom_45 rfl (lv_at hl 5 rfl) ?_
    refine lv_aload_n hx hb dX12_likelyFrom_46 rfl (lv_at hl 3 rfl) ?_
    refine lv_iload_n hx hb dX12_likelyFrom_47 rfl (lv_at hl 2 rfl) ?_
    refine lv_iload hx hb dX12_likelyFrom_48 (lv_at hl 1 rfl) ?_
    have z88 : (σ81 55 5).toInt = (σ 55 5).toInt := by rw [(show σ81 55 5 = (σ 55 5) from (by rw [f84 5 (by omega)]; exact (by rw [f55 5 (by omega)])))]
    have z89 : (σ81 55 4).toInt = (σ 55 4).toInt := by rw [(show σ81 55 4 = (σ 55 4) from (by rw [f84 4 (by omega)]; exact (by rw [f55 4 (by omega)])))]
    have w90 : ∀ k : Nat, k < 68 → (-200) ≤ (σ81 56 k).toInt ∧ (σ81 56 k).toInt ≤ 500 := (by rw [f83 56 (by omega)]; exact w66)
    have w91 : ∀ k : Nat, k < 40 → 0 ≤ (σ81 57 k).toInt ∧ (σ81 57 k).toInt ≤ 67 := (by rw [f83 57 (by omega)]; exact w67)
    have w92 : ∀ k : Nat, k < 40 → (-200) ≤ (σ81 58 k).toInt ∧ (σ81 58 k).toInt ≤ 500 := (by rw [f83 58 (by omega)]; exact w68)
    have w93 : ∀ k : Nat, k < 40 → (-200) ≤ (σ81 59 k).toInt ∧ (σ81 59 k).toInt ≤ 500 := (by rw [f83 59 (by omega)]; exact w69)
    have I94 : jI101 σ81 := ⟨(by omega), (by omega), (by omega), w90, w91, w92, w93⟩
    have z95 : (σ81 55 6).toInt = (σ 55 6).toInt := by rw [(show σ81 55 6 = (σ 55 6) from (by rw [f84 6 (by omega)]; exact (by rw [f55 6 (by omega)])))]
    have w96 : ∀ k : Nat, k < 4 → 0 ≤ (σ81 60 k).toInt ∧ (σ81 60 k).toInt ≤ 50 := (by rw [f83 60 (by omega)]; exact w72)
    have w97 : ∀ k : Nat, k < 4 → 0 ≤ (σ81 61 k).toInt ∧ (σ81 61 k).toInt ≤ 20 := (by rw [f83 61 (by omega)]; exact w73)
    have I98 : jI102 σ81 := ⟨(by omega), w96, w97⟩
    have z99 : (σ81 55 9).toInt = (σ 55 9).toInt := by rw [(show σ81 55 9 = (σ 55 9) from (by rw [f84 9 (by omega)]; exact (by rw [f55 9 (by omega)])))]
    have I100 : jI103 σ81 := (show 0 ≤ (σ81 55 9).toInt ∧ (σ81 55 9).toInt ≤ 3 by omega)
    have w101 : ∀ k : Nat, k < 4 → 0 ≤ (σ81 68 k).toInt ∧ (σ81 68 k).toInt ≤ 3 := (by rw [f83 68 (by omega)]; exact w80)
    refine jcallV (As := [.int r53, .int x63]) (rest := [.int a2]) ⟨hx, hb, hml, hown, hts⟩ hK hP hA hS hZ (c_X12_runsBy l D cI cL ad zz hJ σ81 τ r53 (r53.toInt) rfl x63 (x63.toInt) rfl I94 I98 I100 w101 (by omega) (by omega)) cw_RX12_262 (jc_55 cI cL ad σ81 τ) rfl ⟨Nat.le_of_ble_eq_true rfl, Nat.le_of_ble_eq_true rfl⟩ rfl rfl rfl hl.1 rfl (Nat.le_of_ble_eq_true rfl) dX12_likelyFrom_50 ⟨Nat.zero_le _, Nat.zero_le _⟩ (fun r103 σ102 τ102 H locs h102 hP hS => ?_)
    obtain ⟨⟨rfl, rfl⟩, h102⟩ := h102
    have h104 := h102
    obtain ⟨q106, k105⟩ := h104
    have g107 := jrg (rfl : r103.toInt = r103.toInt)
    refine lv_isub hx hb dX12_likelyFrom_53 ?_
    refine lv_topi (fun x108 ex108 => ?_)
    have gx108 := jrg (rfl : x108.toInt = x108.toInt)
    refine lv_istore (lv' := [(6, .int x108), (5, .int r82), (4, .int x63), (3, .int r53), (0, .ref (ad 55)), (1, .int a1), (2, .int a2)]) hx hb dX12_likelyFrom_54 hl (by decide) rfl (fun ls hl => ?_)
    refine lv_aload_n hx hb dX12_likelyFrom_56 rfl (lv_at hl 4 rfl) ?_
    refine lv_iload_n hx hb dX12_likelyFrom_57 rfl (lv_at hl 3 rfl) ?_
    refine lv_iconst (v := 1) hx hb dX12_likelyFrom_58 (by decide) ?_
    have z109 : (σ81 55 27).toInt = (σ 55 27).toInt := by rw [(show σ81 55 27 = (σ 55 27) from (by rw [f84 27 (by omega)]; exact (by rw [f55 27 (by omega)])))]
    have z110 : (σ81 55 25).toInt = (σ 55 25).toInt := by rw [(show σ81 55 25 = (σ 55 25) from (by rw [f84 25 (by omega)]; exact m60))]
    have z111 : (σ81 55 26).toInt = (σ 55 26).toInt := by rw [(show σ81 55 26 = (σ 55 26) from (by rw [f84 26 (by omega)]; exact (by rw [f55 26 (by omega)])))]
    have z112 : (σ81 68 0).toInt = (σ 68 0).toInt := by rw [(show σ81 68 0 = (σ 68 0) from (by rw [f83 68 (by omega)]; exact (by rw [f54 68 (by omega)])))]
    have z113 : (σ81 68 1).toInt = (σ 68 1).toInt := by rw [(show σ81 68 1 = (σ 68 1) from (by rw [f83 68 (by omega)]; exact (by rw [f54 68 (by omega)])))]
    have z114 : (σ81 68 2).toInt = (σ 68 2).toInt := by rw [(show σ81 68 2 = (σ 68 2) from (by rw [f83 68 (by omega)]; exact (by rw [f54 68 (by omega)])))]
    have z115 : (σ81 68 3).toInt = (σ 68 3).toInt := by rw [(show σ81 68 3 = (σ 68 3) from (by rw [f83 68 (by omega)]; exact (by rw [f54 68 (by omega)])))]
    refine jcallV (As := [.int r53, .int 1]) (rest := []) ⟨hx, hb, hml, hown, hts⟩ hK hP hA hS hZ (c_X12_goes_1 l D cI cL ad zz hJ σ81 τ r53 (r53.toInt) rfl w101 (by omega) (by omega) (by omega) (by omega) (by omega)) cw_RX12_296 (jc_55 cI cL ad σ81 τ) rfl ⟨Nat.le_of_ble_eq_true rfl, Nat.le_of_ble_eq_true rfl⟩ rfl rfl rfl hl.1 rfl (Nat.le_of_ble_eq_true rfl) dX12_likelyFrom_59 ⟨Nat.zero_le _, Nat.zero_le _⟩ (fun r117 σ116 τ116 H locs h116 hP hS => ?_)
    obtain ⟨rfl, f118, f119, w120, w121, w122, h116⟩ := h116
    obtain ⟨k123, k124, k125, h116⟩ := h116
    have h126 := h116
    obtain ⟨q132, k127, k128, k129, k130, k131⟩ := h126
    refine lv_istore (lv' := [(7, .int r117), (6, .int x108), (5, .int r82), (4, .int x63), (3, .int r53), (0, .ref (ad 55)), (1, .int a1), (2, .int a2)]) hx hb dX12_likelyFrom_62 hl (by decide) rfl (fun ls hl => ?_)
    refine lv_aload_n hx hb dX12_likelyFrom_64 rfl (lv_at hl 5 rfl) ?_
    refine lv_iload_n hx hb dX12_likelyFrom_65 rfl (lv_at hl 6 rfl) ?_
    refine lv_iload hx hb dX12_likelyFrom_66 (lv_at hl 1 rfl) ?_
    have z133 : (σ116 55 5).toInt = (σ 55 5).toInt := by rw [(show σ116 55 5 = (σ 55 5) from (by rw [f119 5 (by omega)]; exact (by rw [f84 5 (by omega)]; exact (by rw [f55 5 (by omega)]))))]
    have z134 : (σ116 55 4).toInt = (σ 55 4).toInt := by rw [(show σ116 55 4 = (σ 55 4) from (by rw [f119 4 (by omega)]; exact (by rw [f84 4 (by omega)]; exact (by rw [f55 4 (by omega)]))))]
    have w135 : ∀ k : Nat, k < 68 → (-200) ≤ (σ116 56 k).toInt ∧ (σ116 56 k).toInt ≤ 500 := (by rw [f118 56 (by omega)]; exact w90)
    have w136 : ∀ k : Nat, k < 40 → 0 ≤ (σ116 57 k).toInt ∧ (σ116 57 k).toInt ≤ 67 := (by rw [f118 57 (by omega)]; exact w91)
    have w137 : ∀ k : Nat, k < 40 → (-200) ≤ (σ116 58 k).toInt ∧ (σ116 58 k).toInt ≤ 500 := (by rw [f118 58 (by omega)]; exact w92)
    have w138 : ∀ k : Nat, k < 40 → (-200) ≤ (σ116 59 k).toInt ∧ (σ116 59 k).toInt ≤ 500 := (by rw [f118 59 (by omega)]; exact w93)
    have I139 : jI101 σ116 := ⟨(by omega), (by omega), (by omega), w135, w136, w137, w138⟩
    have z140 : (σ116 55 6).toInt = (σ 55 6).toInt := by rw [(show σ116 55 6 = (σ 55 6) from (by rw [f119 6 (by omega)]; exact (by rw [f84 6 (by omega)]; exact (by rw [f55 6 (by omega)]))))]
    have w141 : ∀ k : Nat, k < 4 → 0 ≤ (σ116 60 k).toInt ∧ (σ116 60 k).toInt ≤ 50 := (by rw [f118 60 (by omega)]; exact w96)
    have w142 : ∀ k : Nat, k < 4 → 0 ≤ (σ116 61 k).toInt ∧ (σ116 61 k).toInt ≤ 20 := (by rw [f118 61 (by omega)]; exact w97)
    have I143 : jI102 σ116 := ⟨(by omega), w141, w142⟩
    have z144 : (σ116 55 9).toInt = (σ 55 9).toInt := by rw [(show σ116 55 9 = (σ 55 9) from (by rw [f119 9 (by omega)]; exact (by rw [f84 9 (by omega)]; exact (by rw [f55 9 (by omega)]))))]
    have I145 : jI103 σ116 := (show 0 ≤ (σ116 55 9).toInt ∧ (σ116 55 9).toInt ≤ 3 by omega)
    have z146 : (σ116 55 10).toInt = (σ 55 10).toInt := by rw [(show σ116 55 10 = (σ 55 10) from (by rw [f119 10 (by omega)]; exact (by rw [f84 10 (by omega)]; exact (by rw [f55 10 (by omega)]))))]
    have z147 : (σ116 55 12).toInt = (σ 55 12).toInt := by rw [(show σ116 55 12 = (σ 55 12) from (by rw [f119 12 (by omega)]; exact (by rw [f84 12 (by omega)]; exact (by rw [f55 12 (by omega)]))))]
    have z148 : (σ116 55 13).toInt = (σ 55 13).toInt := by rw [(show σ116 55 13 = (σ 55 13) from (by rw [f119 13 (by omega)]; exact (by rw [f84 13 (by omega)]; exact (by rw [f55 13 (by omega)]))))]
    have w149 : ∀ k : Nat, k < 8 → 0 ≤ (σ116 62 k).toInt ∧ (σ116 62 k).toInt ≤ 3 := (by rw [f118 62 (by omega)]; exact (by rw [f83 62 (by omega)]; exact w61))
    have w150 : ∀ k : Nat, k < 8 → 0 ≤ (σ116 67 k).toInt ∧ (σ116 67 k).toInt ≤ 3 := (by rw [f118 67 (by omega)]; exact (by rw [f83 67 (by omega)]; exact (by rw [f54 67 (by omega)]; exact w16)))
    have I151 : jI104 σ116 := ⟨(by omega), (by omega), (by omega), w149, w150⟩
    have z152 : (σ116 55 15).toInt = (σ 55 15).toInt := by rw [(show σ116 55 15 = (σ 55 15) from (by rw [f119 15 (by omega)]; exact (by rw [f84 15 (by omega)]; exact (by rw [f55 15 (by omega)]))))]
    have w153 : ∀ k : Nat, k < 2 → (-1) ≤ (σ116 65 k).toInt ∧ (σ116 65 k).toInt ≤ 80 := (by rw [f118 65 (by omega)]; exact (by rw [f83 65 (by omega)]; exact w78))
    have I154 : jI105 σ116 := ⟨(by omega), w153⟩
    have z155 : (σ116 55 32).toInt = (σ 55 32).toInt := by rw [(show σ116 55 32 = (σ 55 32) from (by rw [f119 32 (by omega)]; exact (by rw [f84 32 (by omega)]; exact (by rw [f55 32 (by omega)]))))]
    have w156 : ∀ k : Nat, k < 20 → 0 ≤ (σ116 70 k).toInt ∧ (σ116 70 k).toInt ≤ 6 := (by rw [f118 70 (by omega)]; exact (by rw [f83 70 (by omega)]; exact (by rw [f54 70 (by omega)]; exact w20)))
    have w157 : ∀ k : Nat, k < 20 → 0 ≤ (σ116 71 k).toInt ∧ (σ116 71 k).toInt ≤ 8 := (by rw [f118 71 (by omega)]; exact (by rw [f83 71 (by omega)]; exact (by rw [f54 71 (by omega)]; exact w21)))
    have w158 : ∀ k : Nat, k < 160 → 0 ≤ (σ116 72 k).toInt ∧ (σ116 72 k).toInt ≤ 3 := (by rw [f118 72 (by omega)]; exact (by rw [f83 72 (by omega)]; exact (by rw [f54 72 (by omega)]; exact w22)))
    have I159 : jI106 σ116 := ⟨(by omega), w156, w157, w158⟩
    have I160 : jI120 σ116 := ⟨(by omega), (by omega), (by omega), (by omega), (by omega), w120⟩
    have p161 : jKept σ116 := jKept.fr (by rw [f118 75 (by omega), f83 75 (by omega)]) (by rw [f118 76 (by omega), f83 76 (by omega)]) (by rw [f118 77 (by omega), f83 77 (by omega)]) p56
    refine jcallV (As := [.int a1, .int x108]) (rest := []) ⟨hx, hb, hml, hown, hts⟩ hK hP hA hS hZ (c_X12_likelyFrom_6 l D cI cL ad zz hJ σ116 τ a1 (A1) t1 x108 (x108.toInt) rfl I139 I143 I145 I151 I154 I159 I160 p161 (by omega) (by omega)) cw_RX12_328 (jc_55 cI cL ad σ116 τ) rfl ⟨Nat.le_of_ble_eq_true rfl, Nat.le_of_ble_eq_true rfl⟩ rfl rfl rfl hl.1 rfl (Nat.le_of_ble_eq_true rfl) dX12_likelyFrom_68 ⟨Nat.zero_le _, Nat.zero_le _⟩ (fun r163 σ162 τ162 H locs h162 hP hS => ?_)
    obtain ⟨rfl, f164, f165, p166, h162⟩ := h162
    refine lv_istore (lv' := [(8, .int r163), (7, .int r117), (6, .int x108), (5, .int r82), (4, .int x63), (3, .int r53), (0, .ref (ad 55)), (1, .int a1), (2, .int a2)]) hx hb dX12_likelyFrom_71 hl (by decide) rfl (fun ls hl => ?_)
    refine lv_aload_n hx hb dX12_likelyFrom_73 rfl (lv_at hl 6 rfl) ?_
    refine lv_iload_n hx hb dX12_likelyFrom_74 rfl (lv_at hl 5 rfl) ?_
    refine lv_iconst (v := 1) hx hb dX12_likelyFrom_75 (by decide) ?_
    refine lv_iload hx hb dX12_likelyFrom_76 (lv_at hl 1 rfl) ?_
    have w167 : ∀ k : Nat, k < 4 → 0 ≤ (σ162 68 k).toInt ∧ (σ162 68 k).toInt ≤ 3 := (by rw [f164 68 (by omega)]; exact w120)
    have z168 : (σ162 55 25).toInt = (σ116 55 25).toInt := by rw [(show σ162 55 25 = (σ116 55 25) from (by rw [f165 25 (by omega)]))]
    have z169 : (σ162 55 26).toInt = (σ116 55 26).toInt := by rw [(show σ162 55 26 = (σ116 55 26) from (by rw [f165 26 (by omega)]))]
    have z170 : (σ162 55 6).toInt = (σ 55 6).toInt := by rw [(show σ162 55 6 = (σ 55 6) from (by rw [f165 6 (by omega)]; exact (by rw [f119 6 (by omega)]; exact (by rw [f84 6 (by omega)]; exact (by rw [f55 6 (by omega)])))))]
    have w171 : ∀ k : Nat, k < 4 → 0 ≤ (σ81 68 k).toInt ∧ (σ81 68 k).toInt ≤ 3 := w101
    have z173 : (σ81 55 27).toInt = (σ 55 27).toInt := by rw [(show σ81 55 27 = (σ 55 27) from (by rw [f84 27 (by omega)]; exact (by rw [f55 27 (by omega)])))]
    have k172 := jwas (by omega) (w171 0 (by decide)) (w171 1 (by decide)) (w171 2 (by decide)) (w171 3 (by decide)) k127
    rw [← (show σ162 55 6 = σ81 55 6 from (by rw [f165 6 (by omega), f119 6 (by omega)]))] at k172
    refine jcallVv (As := [.int r53, .int 1, .int r117]) (rest := []) ⟨hx, hb, hml, hown, hts⟩ hK hP hA hS hZ (c_X12_goesBack_1 l D cI cL ad zz hJ σ162 τ r53 (r53.toInt) rfl r117 (r117.toInt) rfl w167 (by omega) (by omega) (by omega) k172) cw_RX12_300 (jc_55 cI cL ad σ162 τ) rfl ⟨Nat.le_of_ble_eq_true rfl, Nat.le_of_ble_eq_true rfl⟩ rfl rfl rfl hl.1 rfl (Nat.le_of_ble_eq_true rfl) dX12_likelyFrom_78 ⟨Nat.zero_le _, Nat.zero_le _⟩ (fun σ174 τ174 H locs h174 hP hS => ?_)
    obtain ⟨rfl, f176, f177, w178, w179, w180, h174⟩ := h174
    obtain ⟨k181, k182, k183, k184, h174⟩ := h174
    have p185 : jKept σ174 := jKept.fr (by rw [f176 75 (by omega)]) (by rw [f176 76 (by omega)]) (by rw [f176 77 (by omega)]) p166
    have e186 : σ162 69 = σ116 69 := (by rw [f164 69 (by omega)])
    have e187 : σ174 69 = σ81 69 := jback69 w121 e186 w179
    have e188 : σ162 68 = σ116 68 := (by rw [f164 68 (by omega)])
    have e189 : σ162 55 6 = σ81 55 6 := (by rw [f165 6 (by omega), f119 6 (by omega)])
    have w197 : ∀ k : Nat, k < 4 → 0 ≤ (σ81 68 k).toInt ∧ (σ81 68 k).toInt ≤ 3 := w101
    have w198 : ∀ k : Nat, k < 4 → 0 ≤ (σ174 68 k).toInt ∧ (σ174 68 k).toInt ≤ 3 := w178
    have k199 := k184
    rw [e189] at k199
    have D190 := jdig (w197 0 (by decide)) (w197 1 (by decide)) (w197 2 (by decide)) (w197 3 (by decide)) (w198 0 (by decide)) (w198 1 (by decide)) (w198 2 (by decide)) (w198 3 (by decide)) k127 k199
    have e191 : σ174 55 27 = σ81 55 27 := Int32.toInt_inj.mp (by have h9 := D190.1; omega)
    have z200 : (σ162 55 26).toInt = (σ116 55 26).toInt := by rw [(show σ162 55 26 = (σ116 55 26) from (by rw [f165 26 (by omega)]))]
    have z201 : (σ81 55 26).toInt = (σ 55 26).toInt := by rw [(show σ81 55 26 = (σ 55 26) from (by rw [f84 26 (by omega)]; exact (by rw [f55 26 (by omega)])))]
    have z202 : (σ162 55 25).toInt = (σ116 55 25).toInt := by rw [(show σ162 55 25 = (σ116 55 25) from (by rw [f165 25 (by omega)]))]
    have z203 : (σ81 55 25).toInt = (σ 55 25).toInt := by rw [(show σ81 55 25 = (σ 55 25) from (by rw [f84 25 (by omega)]; exact (by rw [f55 25 (by omega)])))]
    have e192 : σ174 55 26 = σ81 55 26 := Int32.toInt_inj.mp (by omega)
    have e193 : σ174 55 25 = σ81 55 25 := Int32.toInt_inj.mp (by omega)
    have z204 : (σ81 55 6).toInt = (σ 55 6).toInt := by rw [(show σ81 55 6 = (σ 55 6) from (by rw [f84 6 (by omega)]; exact (by rw [f55 6 (by omega)])))]
    have e194 : σ174 68 = σ81 68 := jback68 (nb := (σ81 55 6).toInt) (by omega) w122 e188 (fun k hk => w180 k (by rw [e189]; exact hk)) D190.2
    have f195 : (∀ i : Nat, (i < 55 ∨ 55 < i) ∧ (i < 66 ∨ 66 < i) ∧ (i < 74 ∨ 78 < i) → σ174 i = σ81 i) := fun i hi => by
      by_cases h8 : i = 68
      · rw [h8]; exact e194
      by_cases h9 : i = 69
      · rw [h9]; exact e187
      rw [f176 i (by omega), f164 i (by omega), f118 i (by omega)]
    have f196 : ∀ k : Nat, (k < 18 ∨ 18 < k) ∧ (k < 19 ∨ 19 < k) ∧ (k < 20 ∨ 20 < k) ∧ (k < 21 ∨ 21 < k) ∧ (k < 22 ∨ 22 < k) ∧ (k < 37 ∨ 37 < k) → σ174 55 k = σ81 55 k := fun k hk => by
      by_cases h25 : k = 25
      · rw [h25]; exact e193
      by_cases h26 : k = 26
      · rw [h26]; exact e192
      by_cases h27 : k = 27
      · rw [h27]; exact e191
      rw [f177 k (by omega), f165 k (by omega), f119 k (by omega)]
    clear k199 k184 k127
    refine lv_aload_n hx hb dX12_likelyFrom_81 rfl (lv_at hl 6 rfl) ?_
    refine lv_iload_n hx hb dX12_likelyFrom_82 rfl (lv_at hl 5 rfl) ?_
    refine lv_iconst (v := 0) hx hb dX12_likelyFrom_83 (by decide) ?_
    have w205 : ∀ k : Nat, k < 4 → 0 ≤ (σ174 68 k).toInt ∧ (σ174 68 k).toInt ≤ 3 := (by rw [f195 68 (by omega)]; exact w101)
    have z206 : (σ174 55 6).toInt = (σ 55 6).toInt := by rw [(show σ174 55 6 = (σ 55 6) from (by rw [f196 6 (by omega)]; exact (by rw [f84 6 (by omega)]; exact (by rw [f55 6 (by omega)]))))]
    have z207 : (σ174 55 27).toInt = (σ 55 27).toInt := by rw [(show σ174 55 27 = (σ 55 27) from (by rw [f196 27 (by omega)]; exact (by rw [f84 27 (by omega)]; exact (by rw [f55 27 (by omega)]))))]
    have z208 : (σ174 55 25).toInt = (σ 55 25).toInt := by rw [(show σ174 55 25 = (σ 55 25) from (by rw [f196 25 (by omega)]; exact (by rw [f84 25 (by omega)]; exact m60)))]
    have z209 : (σ174 55 26).toInt = (σ 55 26).toInt := by rw [(show σ174 55 26 = (σ 55 26) from (by rw [f196 26 (by omega)]; exact (by rw [f84 26 (by omega)]; exact (by rw [f55 26 (by omega)]))))]
    have z210 : (σ174 68 0).toInt = (σ 68 0).toInt := by rw [(show σ174 68 0 = (σ 68 0) from (by rw [f195 68 (by omega)]; exact (by rw [f83 68 (by omega)]; exact (by rw [f54 68 (by omega)]))))]
    have z211 : (σ174 68 1).toInt = (σ 68 1).toInt := by rw [(show σ174 68 1 = (σ 68 1) from (by rw [f195 68 (by omega)]; exact (by rw [f83 68 (by omega)]; exact (by rw [f54 68 (by omega)]))))]
    have z212 : (σ174 68 2).toInt = (σ 68 2).toInt := by rw [(show σ174 68 2 = (σ 68 2) from (by rw [f195 68 (by omega)]; exact (by rw [f83 68 (by omega)]; exact (by rw [f54 68 (by omega)]))))]
    have z213 : (σ174 68 3).toInt = (σ 68 3).toInt := by rw [(show σ174 68 3 = (σ 68 3) from (by rw [f195 68 (by omega)]; exact (by rw [f83 68 (by omega)]; exact (by rw [f54 68 (by omega)]))))]
    refine jcallV (As := [.int r53, .int 0]) (rest := []) ⟨hx, hb, hml, hown, hts⟩ hK hP hA hS hZ (c_X12_goes_0 l D cI cL ad zz hJ σ174 τ r53 (r53.toInt) rfl w205 (by omega) (by omega) (by omega) (by omega) (by omega)) cw_RX12_296 (jc_55 cI cL ad σ174 τ) rfl ⟨Nat.le_of_ble_eq_true rfl, Nat.le_of_ble_eq_true rfl⟩ rfl rfl rfl hl.1 rfl (Nat.le_of_ble_eq_true rfl) dX12_likelyFrom_84 ⟨Nat.zero_le _, Nat.zero_le _⟩ (fun r215 σ214 τ214 H locs h214 hP hS => ?_)
    obtain ⟨rfl, f216, f217, w218, w219, w220, h214⟩ := h214
    obtain ⟨k221, k222, k223, h214⟩ := h214
    have h224 := h214
    obtain ⟨q230, k225, k226, k227, k228, k229⟩ := h224
    refine lv_istore (lv' := [(7, .int r215), (8, .int r163), (6, .int x108), (5, .int r82), (4, .int x63), (3, .int r53), (0, .ref (ad 55)), (1, .int a1), (2, .int a2)]) hx hb dX12_likelyFrom_87 hl (by decide) rfl (fun ls hl => ?_)
    refine lv_aload_n hx hb dX12_likelyFrom_89 rfl (lv_at hl 6 rfl) ?_
    refine lv_iload_n hx hb dX12_likelyFrom_90 rfl (lv_at hl 7 rfl) ?_
    refine lv_iload hx hb dX12_likelyFrom_91 (lv_at hl 2 rfl) ?_
    have z231 : (σ214 55 5).toInt = (σ 55 5).toInt := by rw [(show σ214 55 5 = (σ 55 5) from (by rw [f217 5 (by omega)]; exact (by rw [f196 5 (by omega)]; exact (by rw [f84 5 (by omega)]; exact (by rw [f55 5 (by omega)])))))]
    have z232 : (σ214 55 4).toInt = (σ 55 4).toInt := by rw [(show σ214 55 4 = (σ 55 4) from (by rw [f217 4 (by omega)]; exact (by rw [f196 4 (by omega)]; exact (by rw [f84 4 (by omega)]; exact (by rw [f55 4 (by omega)])))))]
    have w233 : ∀ k : Nat, k < 68 → (-200) ≤ (σ214 56 k).toInt ∧ (σ214 56 k).toInt ≤ 500 := (by rw [f216 56 (by omega)]; exact (by rw [f195 56 (by omega)]; exact w90))
    have w234 : ∀ k : Nat, k < 40 → 0 ≤ (σ214 57 k).toInt ∧ (σ214 57 k).toInt ≤ 67 := (by rw [f216 57 (by omega)]; exact (by rw [f195 57 (by omega)]; exact w91))
    have w235 : ∀ k : Nat, k < 40 → (-200) ≤ (σ214 58 k).toInt ∧ (σ214 58 k).toInt ≤ 500 := (by rw [f216 58 (by omega)]; exact (by rw [f195 58 (by omega)]; exact w92))
    have w236 : ∀ k : Nat, k < 40 → (-200) ≤ (σ214 59 k).toInt ∧ (σ214 59 k).toInt ≤ 500 := (by rw [f216 59 (by omega)]; exact (by rw [f195 59 (by omega)]; exact w93))
    have I237 : jI101 σ214 := ⟨(by omega), (by omega), (by omega), w233, w234, w235, w236⟩
    have z238 : (σ214 55 6).toInt = (σ 55 6).toInt := by rw [(show σ214 55 6 = (σ 55 6) from (by rw [f217 6 (by omega)]; exact (by rw [f196 6 (by omega)]; exact (by rw [f84 6 (by omega)]; exact (by rw [f55 6 (by omega)])))))]
    have w239 : ∀ k : Nat, k < 4 → 0 ≤ (σ214 60 k).toInt ∧ (σ214 60 k).toInt ≤ 50 := (by rw [f216 60 (by omega)]; exact (by rw [f195 60 (by omega)]; exact w96))
    have w240 : ∀ k : Nat, k < 4 → 0 ≤ (σ214 61 k).toInt ∧ (σ214 61 k).toInt ≤ 20 := (by rw [f216 61 (by omega)]; exact (by rw [f195 61 (by omega)]; exact w97))
    have I241 : jI102 σ214 := ⟨(by omega), w239, w240⟩
    have z242 : (σ214 55 9).toInt = (σ 55 9).toInt := by rw [(show σ214 55 9 = (σ 55 9) from (by rw [f217 9 (by omega)]; exact (by rw [f196 9 (by omega)]; exact (by rw [f84 9 (by omega)]; exact (by rw [f55 9 (by omega)])))))]
    have I243 : jI103 σ214 := (show 0 ≤ (σ214 55 9).toInt ∧ (σ214 55 9).toInt ≤ 3 by omega)
    have z244 : (σ214 55 10).toInt = (σ 55 10).toInt := by rw [(show σ214 55 10 = (σ 55 10) from (by rw [f217 10 (by omega)]; exact (by rw [f196 10 (by omega)]; exact (by rw [f84 10 (by omega)]; exact (by rw [f55 10 (by omega)])))))]
    have z245 : (σ214 55 12).toInt = (σ 55 12).toInt := by rw [(show σ214 55 12 = (σ 55 12) from (by rw [f217 12 (by omega)]; exact (by rw [f196 12 (by omega)]; exact (by rw [f84 12 (by omega)]; exact (by rw [f55 12 (by omega)])))))]
    have z246 : (σ214 55 13).toInt = (σ 55 13).toInt := by rw [(show σ214 55 13 = (σ 55 13) from (by rw [f217 13 (by omega)]; exact (by rw [f196 13 (by omega)]; exact (by rw [f84 13 (by omega)]; exact (by rw [f55 13 (by omega)])))))]
    have w247 : ∀ k : Nat, k < 8 → 0 ≤ (σ214 62 k).toInt ∧ (σ214 62 k).toInt ≤ 3 := (by rw [f216 62 (by omega)]; exact (by rw [f195 62 (by omega)]; exact (by rw [f83 62 (by omega)]; exact w61)))
    have w248 : ∀ k : Nat, k < 8 → 0 ≤ (σ214 67 k).toInt ∧ (σ214 67 k).toInt ≤ 3 := (by rw [f216 67 (by omega)]; exact (by rw [f195 67 (by omega)]; exact (by rw [f83 67 (by omega)]; exact (by rw [f54 67 (by omega)]; exact w16))))
    have I249 : jI104 σ214 := ⟨(by omega), (by omega), (by omega), w247, w248⟩
    have z250 : (σ214 55 15).toInt = (σ 55 15).toInt := by rw [(show σ214 55 15 = (σ 55 15) from (by rw [f217 15 (by omega)]; exact (by rw [f196 15 (by omega)]; exact (by rw [f84 15 (by omega)]; exact (by rw [f55 15 (by omega)])))))]
    have w251 : ∀ k : Nat, k < 2 → (-1) ≤ (σ214 65 k).toInt ∧ (σ214 65 k).toInt ≤ 80 := (by rw [f216 65 (by omega)]; exact (by rw [f195 65 (by omega)]; exact (by rw [f83 65 (by omega)]; exact w78)))
    have I252 : jI105 σ214 := ⟨(by omega), w251⟩
    have z253 : (σ214 55 32).toInt = (σ 55 32).toInt := by rw [(show σ214 55 32 = (σ 55 32) from (by rw [f217 32 (by omega)]; exact (by rw [f196 32 (by omega)]; exact (by rw [f84 32 (by omega)]; exact (by rw [f55 32 (by omega)])))))]
    have w254 : ∀ k : Nat, k < 20 → 0 ≤ (σ214 70 k).toInt ∧ (σ214 70 k).toInt ≤ 6 := (by rw [f216 70 (by omega)]; exact (by rw [f195 70 (by omega)]; exact (by rw [f83 70 (by omega)]; exact (by rw [f54 70 (by omega)]; exact w20))))
    have w255 : ∀ k : Nat, k < 20 → 0 ≤ (σ214 71 k).toInt ∧ (σ214 71 k).toInt ≤ 8 := (by rw [f216 71 (by omega)]; exact (by rw [f195 71 (by omega)]; exact (by rw [f83 71 (by omega)]; exact (by rw [f54 71 (by omega)]; exact w21))))
    have w256 : ∀ k : Nat, k < 160 → 0 ≤ (σ214 72 k).toInt ∧ (σ214 72 k).toInt ≤ 3 := (by rw [f216 72 (by omega)]; exact (by rw [f195 72 (by omega)]; exact (by rw [f83 72 (by omega)]; exact (by rw [f54 72 (by omega)]; exact w22))))
    have I257 : jI106 σ214 := ⟨(by omega), w254, w255, w256⟩
    have I258 : jI120 σ214 := ⟨(by omega), (by omega), (by omega), (by omega), (by omega), w218⟩
    have p259 : jKept σ214 := jKept.fr (by rw [f216 75 (by omega)]) (by rw [f216 76 (by omega)]) (by rw [f216 77 (by omega)]) p185
    refine jcallV (As := [.int a1, .int x108]) (rest := []) ⟨hx, hb, hml, hown, hts⟩ hK hP hA hS hZ (c_X12_likelyFrom_6 l D cI cL ad zz hJ σ214 τ a1 (A1) t1 x108 (x108.toInt) rfl I237 I241 I243 I249 I252 I257 I258 p259 (by omega) (by omega)) cw_RX12_328 (jc_55 cI cL ad σ214 τ) rfl ⟨Nat.le_of_ble_eq_true rfl, Nat.le_of_ble_eq_true rfl⟩ rfl rfl rfl hl.1 rfl (Nat.le_of_ble_eq_true rfl) dX12_likelyFrom_93 ⟨Nat.zero_le _, Nat.zero_le _⟩ (fun r261 σ260 τ260 H locs h260 hP hS => ?_)
    obtain ⟨rfl, f262, f263, p264, h260⟩ := h260
    refine lv_istore (lv' := [(9, .int r261), (7, .int r215), (8, .int r163), (6, .int x108), (5, .int r82), (4, .int x63), (3, .int r53), (0, .ref (ad 55)), (1, .int a1), (2, .int a2)]) hx hb dX12_likelyFrom_96 hl (by decide) rfl (fun ls hl => ?_)
    refine lv_aload_n hx hb dX12_likelyFrom_98 rfl (lv_at hl 7 rfl) ?_
    refine lv_iload_n hx hb dX12_likelyFrom_99 rfl (lv_at hl 6 rfl) ?_
    refine lv_iconst (v := 0) hx hb dX12_likelyFrom_100 (by decide) ?_
    refine lv_iload hx hb dX12_likelyFrom_101 (lv_at hl 1 rfl) ?_
    have w265 : ∀ k : Nat, k < 4 → 0 ≤ (σ260 68 k).toInt ∧ (σ260 68 k).toInt ≤ 3 := (by rw [f262 68 (by omega)]; exact w218)
    have z266 : (σ260 55 25).toInt = (σ214 55 25).toInt := by rw [(show σ260 55 25 = (σ214 55 25) from (by rw [f263 25 (by omega)]))]
    have z267 : (σ260 55 26).toInt = (σ214 55 26).toInt := by rw [(show σ260 55 26 = (σ214 55 26) from (by rw [f263 26 (by omega)]))]
    have z268 : (σ260 55 6).toInt = (σ 55 6).toInt := by rw [(show σ260 55 6 = (σ 55 6) from (by rw [f263 6 (by omega)]; exact (by rw [f217 6 (by omega)]; exact (by rw [f196 6 (by omega)]; exact (by rw [f84 6 (by omega)]; exact (by rw [f55 6 (by omega)]))))))]
    have w269 : ∀ k : Nat, k < 4 → 0 ≤ (σ174 68 k).toInt ∧ (σ174 68 k).toInt ≤ 3 := w205
    have z271 : (σ174 55 27).toInt = (σ 55 27).toInt := by rw [(show σ174 55 27 = (σ 55 27) from (by rw [f196 27 (by omega)]; exact (by rw [f84 27 (by omega)]; exact (by rw [f55 27 (by omega)]))))]
    have k270 := jwas (by omega) (w269 0 (by decide)) (w269 1 (by decide)) (w269 2 (by decide)) (w269 3 (by decide)) k225
    rw [← (show σ260 55 6 = σ174 55 6 from (by rw [f263 6 (by omega), f217 6 (by omega)]))] at k270
    refine jcallVv (As := [.int r53, .int 0, .int r215]) (rest := []) ⟨hx, hb, hml, hown, hts⟩ hK hP hA hS hZ (c_X12_goesBack_0 l D cI cL ad zz hJ σ260 τ r53 (r53.toInt) rfl r215 (r215.toInt) rfl w265 (by omega) (by omega) (by omega) k270) cw_RX12_300 (jc_55 cI cL ad σ260 τ) rfl ⟨Nat.le_of_ble_eq_true rfl, Nat.le_of_ble_eq_true rfl⟩ rfl rfl rfl hl.1 rfl (Nat.le_of_ble_eq_true rfl) dX12_likelyFrom_103 ⟨Nat.zero_le _, Nat.zero_le _⟩ (fun σ272 τ272 H locs h272 hP hS => ?_)
    obtain ⟨rfl, f274, f275, w276, w277, w278, h272⟩ := h272
    obtain ⟨k279, k280, k281, k282, h272⟩ := h272
    have p283 : jKept σ272 := jKept.fr (by rw [f274 75 (by omega)]) (by rw [f274 76 (by omega)]) (by rw [f274 77 (by omega)]) p264
    have e284 : σ260 69 = σ214 69 := (by rw [f262 69 (by omega)])
    have e285 : σ272 69 = σ174 69 := jback69 w219 e284 w277
    have e286 : σ260 68 = σ214 68 := (by rw [f262 68 (by omega)])
    have e287 : σ260 55 6 = σ174 55 6 := (by rw [f263 6 (by omega), f217 6 (by omega)])
    have w295 : ∀ k : Nat, k < 4 → 0 ≤ (σ174 68 k).toInt ∧ (σ174 68 k).toInt ≤ 3 := w205
    have w296 : ∀ k : Nat, k < 4 → 0 ≤ (σ272 68 k).toInt ∧ (σ272 68 k).toInt ≤ 3 := w276
    have k297 := k282
    rw [e287] at k297
    have D288 := jdig (w295 0 (by decide)) (w295 1 (by decide)) (w295 2 (by decide)) (w295 3 (by decide)) (w296 0 (by decide)) (w296 1 (by decide)) (w296 2 (by decide)) (w296 3 (by decide)) k225 k297
    have e289 : σ272 55 27 = σ174 55 27 := Int32.toInt_inj.mp (by have h9 := D288.1; omega)
    have z298 : (σ260 55 26).toInt = (σ214 55 26).toInt := by rw [(show σ260 55 26 = (σ214 55 26) from (by rw [f263 26 (by omega)]))]
    have z299 : (σ174 55 26).toInt = (σ 55 26).toInt := by rw [(show σ174 55 26 = (σ 55 26) from (by rw [f196 26 (by omega)]; exact (by rw [f84 26 (by omega)]; exact (by rw [f55 26 (by omega)]))))]
    have z300 : (σ260 55 25).toInt = (σ214 55 25).toInt := by rw [(show σ260 55 25 = (σ214 55 25) from (by rw [f263 25 (by omega)]))]
    have z301 : (σ174 55 25).toInt = (σ 55 25).toInt := by rw [(show σ174 55 25 = (σ 55 25) from (by rw [f196 25 (by omega)]; exact (by rw [f84 25 (by omega)]; exact (by rw [f55 25 (by omega)]))))]
    have e290 : σ272 55 26 = σ174 55 26 := Int32.toInt_inj.mp (by omega)
    have e291 : σ272 55 25 = σ174 55 25 := Int32.toInt_inj.mp (by omega)
    have z302 : (σ174 55 6).toInt = (σ 55 6).toInt := by rw [(show σ174 55 6 = (σ 55 6) from (by rw [f196 6 (by omega)]; exact (by rw [f84 6 (by omega)]; exact (by rw [f55 6 (by omega)]))))]
    have e292 : σ272 68 = σ174 68 := jback68 (nb := (σ174 55 6).toInt) (by omega) w220 e286 (fun k hk => w278 k (by rw [e287]; exact hk)) D288.2
    have f293 : (∀ i : Nat, (i < 55 ∨ 55 < i) ∧ (i < 66 ∨ 66 < i) ∧ (i < 74 ∨ 78 < i) → σ272 i = σ174 i) := fun i hi => by
      by_cases h8 : i = 68
      · rw [h8]; exact e292
      by_cases h9 : i = 69
      · rw [h9]; exact e285
      rw [f274 i (by omega), f262 i (by omega), f216 i (by omega)]
    have f294 : ∀ k : Nat, (k < 18 ∨ 18 < k) ∧ (k < 19 ∨ 19 < k) ∧ (k < 20 ∨ 20 < k) ∧ (k < 21 ∨ 21 < k) ∧ (k < 22 ∨ 22 < k) ∧ (k < 37 ∨ 37 < k) → σ272 55 k = σ174 55 k := fun k hk => by
      by_cases h25 : k = 25
      · rw [h25]; exact e291
      by_cases h26 : k = 26
      · rw [h26]; exact e290
      by_cases h27 : k = 27
      · rw [h27]; exact e289
      rw [f275 k (by omega), f263 k (by omega), f217 k (by omega)]
    clear k297 k282 k225
    refine lv_iload hx hb dX12_likelyFrom_106 (lv_at hl 3 rfl) ?_
    refine lv_if_le (tgt := 117) hx hb dX12_likelyFrom_108 (by decide) (fun c303 => ?_) (fun c303 => ?_)
    · have kc303 := jle c303 rfl jz_0
      refine lv_iconst (v := 0) hx hb dX12_likelyFrom_117 (by decide) ?_
      refine lv_iload hx hb dX12_likelyFrom_118 (lv_at hl 2 rfl) ?_
      refine lv_iload hx hb dX12_likelyFrom_120 (lv_at hl 0 rfl) ?_
      refine lv_iload hx hb dX12_likelyFrom_122 (lv_at hl 4 rfl) ?_
      refine jcallS (As := [.int r163, .int r261, .int r82]) (rest := [.int 0]) ⟨hx, hb, hml, hown, hts⟩ hK hP hA hS hZ (c_X12_mixed l D cI cL ad zz hJ σ272 τ r163 (r163.toInt) rfl r261 (r261.toInt) rfl r82 (r82.toInt) rfl) cw_RX12_304 ⟨Nat.le_of_ble_eq_true rfl, Nat.le_of_ble_eq_true rfl⟩ rfl rfl rfl hl.1 rfl (Nat.le_of_ble_eq_true rfl) dX12_likelyFrom_124 ⟨Nat.zero_le _, Nat.zero_le _⟩ (fun r305 σ304 τ304 H locs h304 hP hS => ?_)
      obtain ⟨⟨rfl, rfl⟩, h304⟩ := h304
      refine lv_aload_n hx hb dX12_likelyFrom_127 rfl (lv_at hl 7 rfl) ?_
      refine va_get (D := D) hx hb hts inlX12 hown hK hP 55 (jc_55 cI cL ad σ272 τ) rfl 13 (by decide) (hts _ kw_15_14) (fun _ h9 => h9) rfl dX12_likelyFrom_128 ?_
      have m306 : σ272 55 13 = (σ 55 13) := (by rw [f294 13 (by omega)]; exact (by rw [f196 13 (by omega)]; exact (by rw [f84 13 (by omega)]; exact (by rw [f55 13 (by omega)]))))
      refine jtopr m306 ?_
      refine jcallS (As := [.int 0, .int r305, .int (σ 55 13)]) (rest := []) ⟨hx, hb, hml, hown, hts⟩ hK hP hA hS hZ (c_X12_mixed l D cI cL ad zz hJ σ272 τ 0 (0) jz_0 r305 (r305.toInt) rfl (σ 55 13) ((σ 55 13).toInt) rfl) cw_RX12_304 ⟨Nat.le_of_ble_eq_true rfl, Nat.le_of_ble_eq_true rfl⟩ rfl rfl rfl hl.1 rfl (Nat.le_of_ble_eq_true rfl) dX12_likelyFrom_131 ⟨Nat.zero_le _, Nat.zero_le _⟩ (fun r308 σ307 τ307 H locs h307 hP hS => ?_)
      obtain ⟨⟨rfl, rfl⟩, h307⟩ := h307
      exact hret r308 σ272 τ _ _ _ _ rfl ⟨rfl, (fun i hi => by rw [f293 i (by omega), f195 i (by omega), f83 i (by omega), f54 i (by omega)]), (fun k hk => by rw [f294 k (by omega), f196 k (by omega), f84 k (by omega), f55 k (by omega)]), p283, trivial⟩ hP hS dX12_likelyFrom_134
    · have kc303 := jnle c303 rfl jz_0
      refine lv_ldcw (v := 1000000) hx hb hown (hts _ kw_37_13) dX12_likelyFrom_111 ?_
      refine lv_goto (tgt := 118) hx hb dX12_likelyFrom_114 (by decide) ?_
      refine lv_iload hx hb dX12_likelyFrom_118 (lv_at hl 2 rfl) ?_
      refine lv_iload hx hb dX12_likelyFrom_120 (lv_at hl 0 rfl) ?_
      refine lv_iload hx hb dX12_likelyFrom_122 (lv_at hl 4 rfl) ?_
      refine jcallS (As := [.int r163, .int r261, .int r82]) (rest := [.int 1000000]) ⟨hx, hb, hml, hown, hts⟩ hK hP hA hS hZ (c_X12_mixed l D cI cL ad zz hJ σ272 τ r163 (r163.toInt) rfl r261 (r261.toInt) rfl r82 (r82.toInt) rfl) cw_RX12_304 ⟨Nat.le_of_ble_eq_true rfl, Nat.le_of_ble_eq_true rfl⟩ rfl rfl rfl hl.1 rfl (Nat.le_of_ble_eq_true rfl) dX12_likelyFrom_124 ⟨Nat.zero_le _, Nat.zero_le _⟩ (fun r310 σ309 τ309 H locs h309 hP hS => ?_)
      obtain ⟨⟨rfl, rfl⟩, h309⟩ := h309
      refine lv_aload_n hx hb dX12_likelyFrom_127 rfl (lv_at hl 7 rfl) ?_
      refine va_get (D := D) hx hb hts inlX12 hown hK hP 55 (jc_55 cI cL ad σ272 τ) rfl 13 (by decide) (hts _ kw_15_14) (fun _ h9 => h9) rfl dX12_likelyFrom_128 ?_
      have m311 : σ272 55 13 = (σ 55 13) := (by rw [f294 13 (by omega)]; exact (by rw [f196 13 (by omega)]; exact (by rw [f84 13 (by omega)]; exact (by rw [f55 13 (by omega)]))))
      refine jtopr m311 ?_
      refine jcallS (As := [.int 1000000, .int r310, .int (σ 55 13)]) (rest := []) ⟨hx, hb, hml, hown, hts⟩ hK hP hA hS hZ (c_X12_mixed l D cI cL ad zz hJ σ272 τ 1000000 (1000000) jz_1000000 r310 (r310.toInt) rfl (σ 55 13) ((σ 55 13).toInt) rfl) cw_RX12_304 ⟨Nat.le_of_ble_eq_true rfl, Nat.le_of_ble_eq_true rfl⟩ rfl rfl rfl hl.1 rfl (Nat.le_of_ble_eq_true rfl) dX12_likelyFrom_131 ⟨Nat.zero_le _, Nat.zero_le _⟩ (fun r313 σ312 τ312 H locs h312 hP hS => ?_)
      obtain ⟨⟨rfl, rfl⟩, h312⟩ := h312
      exact hret r313 σ272 τ _ _ _ _ rfl ⟨rfl, (fun i hi => by rw [f293 i (by omega), f195 i (by omega), f83 i (by omega), f54 i (by omega)]), (fun k hk => by rw [f294 k (by omega), f196 k (by omega), f84 k (by omega), f55 k (by omega)]), p283, trivial⟩ hP hS dX12_likelyFrom_134
set_option maxHeartbeats 4000000 in
set_option maxRecDepth 100000 in
theorem c_X12_likelyFrom_8 (l : Launch) (D : va_G) (cI cL : ClassId) (ad zz : Nat → Nat) (hJ : jD ad) (σ : Nat → Nat → Int32) (τ : Nat → Nat → Int64) (a1 : Int32) (A1 : Int) (t1 : a1.toInt = A1) (a2 : Int32) (A2 : Int) (t2 : a2.toInt = A2) (hI101 : jI101 σ) (hI102 : jI102 σ) (hI103 : jI103 σ) (hI104 : jI104 σ) (hI105 : jI105 σ) (hI106 : jI106 σ) (hI120 : jI120 σ) (hs_jKept : jKept σ) (hp0 : 0 ≤ A1 ∧ A1 ≤ 19) (hp1 : (σ 55 12).toInt - (σ 55 26).toInt ≤ 8) : jM l yX12_likelyFrom cX12_likelyFrom 10 (some .int) ({ frames := 70, cells := 0, slots := 0, locals := 1716 }) D cI cL ad zz [.ref (ad 55), .int a1, .int a2] σ τ (fun r σ' τ' => τ = τ' ∧ (∀ i : Nat, (i < 55 ∨ 55 < i) ∧ (i < 66 ∨ 66 < i) ∧ (i < 74 ∨ 78 < i) → σ' i = σ i) ∧ (∀ k : Nat, (k < 18 ∨ 18 < k) ∧ (k < 19 ∨ 19 < k) ∧ (k < 20 ∨ 20 < k) ∧ (k < 21 ∨ 21 < k) ∧ (k < 22 ∨ 22 < k) ∧ (k < 37 ∨ 37 < k) → σ' 55 k = σ 55 k) ∧ (jKept σ') ∧ True) := by
  refine jM.of hJ (by decide +kernel) (nt := .int) rfl (Nat.le_of_ble_eq_true rfl) ?_
  intro p e s m args below meth c Q ls hC hret hl hP
  obtain ⟨hx, hb, hr, hml, hown, hts, hK, -, hlocks, hZ⟩ := hC
  have hown : s.vm.findClass RX12 = some m.cls := hown
  have hS : va_S (jA ad) s.heap s.heap [] := va_S.rf
  have hA : ∀ q, jA ad q → jA ad q := fun _ h => h
  have hl : lv_has ls 10 [(0, .ref (ad 55)), (1, .int a1), (2, .int a2)] := hl
  have g1 := jrg t1
  have g2 := jrg t2
  obtain ⟨i1, i2, i3, w4, w5, w6, w7⟩ : (0 ≤ (σ 55 5).toInt) ∧ ((σ 55 5).toInt ≤ (σ 55 4).toInt) ∧ ((σ 55 4).toInt ≤ 40) ∧ (∀ k : Nat, k < 68 → (-200) ≤ (σ 56 k).toInt ∧ (σ 56 k).toInt ≤ 500) ∧ (∀ k : Nat, k < 40 → 0 ≤ (σ 57 k).toInt ∧ (σ 57 k).toInt ≤ 67) ∧ (∀ k : Nat, k < 40 → (-200) ≤ (σ 58 k).toInt ∧ (σ 58 k).toInt ≤ 500) ∧ (∀ k : Nat, k < 40 → (-200) ≤ (σ 59 k).toInt ∧ (σ 59 k).toInt ≤ 500) := id hI101
  obtain ⟨i8, w9, w10⟩ : (0 ≤ (σ 55 6).toInt ∧ (σ 55 6).toInt ≤ 4) ∧ (∀ k : Nat, k < 4 → 0 ≤ (σ 60 k).toInt ∧ (σ 60 k).toInt ≤ 50) ∧ (∀ k : Nat, k < 4 → 0 ≤ (σ 61 k).toInt ∧ (σ 61 k).toInt ≤ 20) := id hI102
  have i11 : 0 ≤ (σ 55 9).toInt ∧ (σ 55 9).toInt ≤ 3 := hI103
  obtain ⟨i12, i13, i14, w15, w16⟩ : (1 ≤ (σ 55 10).toInt ∧ (σ 55 10).toInt ≤ 8) ∧ (1 ≤ (σ 55 12).toInt ∧ (σ 55 12).toInt ≤ 12) ∧ (0 ≤ (σ 55 13).toInt ∧ (σ 55 13).toInt ≤ 999) ∧ (∀ k : Nat, k < 8 → 0 ≤ (σ 62 k).toInt ∧ (σ 62 k).toInt ≤ 3) ∧ (∀ k : Nat, k < 8 → 0 ≤ (σ 67 k).toInt ∧ (σ 67 k).toInt ≤ 3) := id hI104
  obtain ⟨i17, w18⟩ : (0 ≤ (σ 55 15).toInt ∧ (σ 55 15).toInt ≤ 80) ∧ (∀ k : Nat, k < 2 → (-1) ≤ (σ 65 k).toInt ∧ (σ 65 k).toInt ≤ 80) := id hI105
  obtain ⟨i19, w20, w21, w22⟩ : (0 ≤ (σ 55 32).toInt ∧ (σ 55 32).toInt ≤ 20) ∧ (∀ k : Nat, k < 20 → 0 ≤ (σ 70 k).toInt ∧ (σ 70 k).toInt ≤ 6) ∧ (∀ k : Nat, k < 20 → 0 ≤ (σ 71 k).toInt ∧ (σ 71 k).toInt ≤ 8) ∧ (∀ k : Nat, k < 160 → 0 ≤ (σ 72 k).toInt ∧ (σ 72 k).toInt ≤ 3) := id hI106
  obtain ⟨i23, i24, i25, i26, i27, w28⟩ : (0 ≤ (σ 55 25).toInt) ∧ ((σ 55 25).toInt ≤ (σ 55 10).toInt) ∧ (0 ≤ (σ 55 26).toInt) ∧ ((σ 55 26).toInt ≤ (σ 55 12).toInt) ∧ ((-1) ≤ (σ 55 27).toInt ∧ (σ 55 27).toInt ≤ 3) ∧ (∀ k : Nat, k < 4 → 0 ≤ (σ 68 k).toInt ∧ (σ 68 k).toInt ≤ 3) := id hI120
  refine lv_aload_n hx hb dX12_likelyFrom_0 rfl (lv_at hl 0 rfl) ?_
  have I29 : jI102 σ := ⟨(by omega), w9, w10⟩
  have I30 : jI104 σ := ⟨(by omega), (by omega), (by omega), w15, w16⟩
  have I31 : jI120 σ := ⟨(by omega), (by omega), (by omega), (by omega), (by omega), w28⟩
  refine jcallV (As := []) (rest := []) ⟨hx, hb, hml, hown, hts⟩ hK hP hA hS hZ (c_X12_isEnded l D cI cL ad zz hJ σ τ I29 I30 I31) cw_RX12_307 (jc_55 cI cL ad σ τ) rfl ⟨Nat.le_of_ble_eq_true rfl, Nat.le_of_ble_eq_true rfl⟩ rfl rfl rfl hl.1 rfl (Nat.le_of_ble_eq_true rfl) dX12_likelyFrom_1 ⟨Nat.zero_le _, Nat.zero_le _⟩ (fun r33 σ32 τ32 H locs h32 hP hS => ?_)
  obtain ⟨⟨rfl, rfl⟩, h32⟩ := h32
  rcases h32 with h34 | h35
  · obtain ⟨q37, k36⟩ := h34
    have q37 := q37.symm
    subst q37
    refine lv_if_eq (tgt := 19) hx hb dX12_likelyFrom_4 (by decide) (fun c => absurd c (by decide)) (fun _ => ?_)
    refine lv_iload_n hx hb dX12_likelyFrom_7 rfl (lv_at hl 2 rfl) ?_
    refine lv_if_le (tgt := 17) hx hb dX12_likelyFrom_8 (by decide) (fun c38 => ?_) (fun c38 => ?_)
    · have kc38 := jle c38 t2 jz_0
      refine lv_iconst (v := 0) hx hb dX12_likelyFrom_17 (by decide) ?_
      exact hret 0 σ τ _ _ _ _ rfl ⟨rfl, (fun _ _ => rfl), (fun _ _ => rfl), hs_jKept, trivial⟩ hP hS dX12_likelyFrom_18
    · have kc38 := jnle c38 t2 jz_0
      refine lv_ldcw (v := 1000000) hx hb hown (hts _ kw_37_13) dX12_likelyFrom_11 ?_
      refine lv_goto (tgt := 18) hx hb dX12_likelyFrom_14 (by decide) ?_
      exact hret 1000000 σ τ _ _ _ _ rfl ⟨rfl, (fun _ _ => rfl), (fun _ _ => rfl), hs_jKept, trivial⟩ hP hS dX12_likelyFrom_18
  · obtain ⟨q42, k39, k40, k41⟩ := h35
    have q42 := q42.symm
    subst q42
    obtain ⟨B43, k44, k45, w46⟩ := k41
    refine lv_if_eq (tgt := 19) hx hb dX12_likelyFrom_4 (by decide) (fun _ => ?_) (fun c => absurd (by decide) c)
    refine lv_aload_n hx hb dX12_likelyFrom_19 rfl (lv_at hl 0 rfl) ?_
    refine lv_iload_n hx hb dX12_likelyFrom_20 rfl (lv_at hl 1 rfl) ?_
    have p47 : jmb σ B43 = 1 := (jmb_fr rfl rfl rfl rfl rfl B43).trans w46
    have I48 : jI101 σ := ⟨(by omega), (by omega), (by omega), w4, w5, w6, w7⟩
    have I49 : jI103 σ := (show 0 ≤ (σ 55 9).toInt ∧ (σ 55 9).toInt ≤ 3 by omega)
    have I50 : jI105 σ := ⟨(by omega), w18⟩
    have I51 : jI106 σ := ⟨(by omega), w20, w21, w22⟩
    refine jcallV (As := [.int a1]) (rest := []) ⟨hx, hb, hml, hown, hts⟩ hK hP hA hS hZ (c_X12_putsOn l D cI cL ad zz hJ σ τ B43 p47 a1 (A1) t1 I48 I29 I49 I30 I50 I51 I31 hs_jKept (by omega) (by omega) (by omega) (by omega) (by omega)) cw_RX12_321 (jc_55 cI cL ad σ τ) rfl ⟨Nat.le_of_ble_eq_true rfl, Nat.le_of_ble_eq_true rfl⟩ rfl rfl rfl hl.1 rfl (Nat.le_of_ble_eq_true rfl) dX12_likelyFrom_21 ⟨Nat.zero_le _, Nat.zero_le _⟩ (fun r53 σ52 τ52 H locs h52 hP hS => ?_)
    obtain ⟨rfl, f54, f55, p56, h52⟩ := h52
    have h57 := h52
    obtain ⟨q59, k58⟩ := h57
    refine lv_istore_n (lv' := [(3, .int r53), (0, .ref (ad 55)), (1, .int a1), (2, .int a2)]) hx hb dX12_likelyFrom_24 rfl hl (by decide) rfl (fun ls hl => ?_)
    refine lv_aload_n hx hb dX12_likelyFrom_25 rfl (lv_at hl 1 rfl) ?_
    refine va_get (D := D) hx hb hts inlX12 hown hK hP 55 (jc_55 cI cL ad σ52 τ) rfl 11 (by decide) (hts _ kw_7_8) (fun _ h9 => h9) rfl dX12_likelyFrom_26 ?_
    refine lv_aload_n hx hb dX12_likelyFrom_29 rfl (lv_at hl 1 rfl) ?_
    refine va_get (D := D) hx hb hts inlX12 hown hK hP 55 (jc_55 cI cL ad σ52 τ) rfl 25 (by decide) (hts _ kw_23_6) (fun _ h9 => h9) rfl dX12_likelyFrom_30 ?_
    have m60 : σ52 55 25 = (σ 55 25) := (by rw [f55 25 (by omega)])
    refine jtopr m60 ?_
    refine jald hx hb hK hP (jc_62 cI cL ad σ52 τ) (jin rfl (by omega) (by omega)) dX12_likelyFrom_33 ?_
    have w61 : ∀ k : Nat, k < 8 → 0 ≤ (σ52 62 k).toInt ∧ (σ52 62 k).toInt ≤ 3 := (by rw [f54 62 (by omega)]; exact w15)
    have g62 := w61 _ (jnat (x := (σ 55 25)) rfl (n := 8) (by omega) (by decide))
    refine lv_topi (fun x63 ex63 => ?_)
    rw [← ex63] at g62
    refine lv_istore (lv' := [(4, .int x63), (3, .int r53), (0, .ref (ad 55)), (1, .int a1), (2, .int a2)]) hx hb dX12_likelyFrom_34 hl (by decide) rfl (fun ls hl => ?_)
    refine lv_aload_n hx hb dX12_likelyFrom_36 rfl (lv_at hl 2 rfl) ?_
    refine lv_iload_n hx hb dX12_likelyFrom_37 rfl (lv_at hl 1 rfl) ?_
    refine lv_iload hx hb dX12_likelyFrom_38 (lv_at hl 0 rfl) ?_
    have z64 : (σ52 55 5).toInt = (σ 55 5).toInt := by rw [(show σ52 55 5 = (σ 55 5) from (by rw [f55 5 (by omega)]))]
    have z65 : (σ52 55 4).toInt = (σ 55 4).toInt := by rw [(show σ52 55 4 = (σ 55 4) from (by rw [f55 4 (by omega)]))]
    have w66 : ∀ k : Nat, k < 68 → (-200) ≤ (σ52 56 k).toInt ∧ (σ52 56 k).toInt ≤ 500 := (by rw [f54 56 (by omega)]; exact w4)
    have w67 : ∀ k : Nat, k < 40 → 0 ≤ (σ52 57 k).toInt ∧ (σ52 57 k).toInt ≤ 67 := (by rw [f54 57 (by omega)]; exact w5)
    have w68 : ∀ k : Nat, k < 40 → (-200) ≤ (σ52 58 k).toInt ∧ (σ52 58 k).toInt ≤ 500 := (by rw [f54 58 (by omega)]; exact w6)
    have w69 : ∀ k : Nat, k < 40 → (-200) ≤ (σ52 59 k).toInt ∧ (σ52 59 k).toInt ≤ 500 := (by rw [f54 59 (by omega)]; exact w7)
    have I70 : jI101 σ52 := ⟨(by omega), (by omega), (by omega), w66, w67, w68, w69⟩
    have z71 : (σ52 55 6).toInt = (σ 55 6).toInt := by rw [(show σ52 55 6 = (σ 55 6) from (by rw [f55 6 (by omega)]))]
    have w72 : ∀ k : Nat, k < 4 → 0 ≤ (σ52 60 k).toInt ∧ (σ52 60 k).toInt ≤ 50 := (by rw [f54 60 (by omega)]; exact w9)
    have w73 : ∀ k : Nat, k < 4 → 0 ≤ (σ52 61 k).toInt ∧ (σ52 61 k).toInt ≤ 20 := (by rw [f54 61 (by omega)]; exact w10)
    have I74 : jI102 σ52 := ⟨(by omega), w72, w73⟩
    have z75 : (σ52 55 9).toInt = (σ 55 9).toInt := by rw [(show σ52 55 9 = (σ 55 9) from (by rw [f55 9 (by omega)]))]
    have I76 : jI103 σ52 := (show 0 ≤ (σ52 55 9).toInt ∧ (σ52 55 9).toInt ≤ 3 by omega)
    have z77 : (σ52 55 15).toInt = (σ 55 15).toInt := by rw [(show σ52 55 15 = (σ 55 15) from (by rw [f55 15 (by omega)]))]
    have w78 : ∀ k : Nat, k < 2 → (-1) ≤ (σ52 65 k).toInt ∧ (σ52 65 k).toInt ≤ 80 := (by rw [f54 65 (by omega)]; exact w18)
    have I79 : jI105 σ52 := ⟨(by omega), w78⟩
    have w80 : ∀ k : Nat, k < 4 → 0 ≤ (σ52 68 k).toInt ∧ (σ52 68 k).toInt ≤ 3 := (by rw [f54 68 (by omega)]; exact w28)
    refine jcallV (As := [.int r53, .int x63]) (rest := []) ⟨hx, hb, hml, hown, hts⟩ hK hP hA hS hZ (c_X12_outBy l D cI cL ad zz hJ σ52 τ r53 (r53.toInt) rfl x63 (x63.toInt) rfl I70 I74 I76 I79 w80 (by omega) (by omega)) cw_RX12_259 (jc_55 cI cL ad σ52 τ) rfl ⟨Nat.le_of_ble_eq_true rfl, Nat.le_of_ble_eq_true rfl⟩ rfl rfl rfl hl.1 rfl (Nat.le_of_ble_eq_true rfl) dX12_likelyFrom_40 ⟨Nat.zero_le _, Nat.zero_le _⟩ (fun r82 σ81 τ81 H locs h81 hP hS => ?_)
    obtain ⟨rfl, f83, f84, h81⟩ := h81
    have h85 := h81
    obtain ⟨q87, k86⟩ := h85
    refine lv_istore (lv' := [(5, .int r82), (4, .int x63), (3, .int r53), (0, .ref (ad 55)), (1, .int a1), (2, .int a2)]) hx hb dX12_likelyFrom_43 hl (by decide) rfl (fun ls hl => ?_)
    refine lv_iload_n hx hb dX12_likelyFrom_45 rfl (lv_at hl 5 rfl) ?_
    refine lv_aload_n hx hb dX12_likelyFrom_46 rfl (lv_at hl 3 rfl) ?_
    refine lv_iload_n hx hb dX12_likelyFrom_47 rfl (lv_at hl 2 rfl) ?_
    refine lv_iload hx hb dX12_likelyFrom_48 (lv_at hl 1 rfl) ?_
    have z88 : (σ81 55 5).toInt = (σ 55 5).toInt := by rw [(show σ81 55 5 = (σ 55 5) from (by rw [f84 5 (by omega)]; exact (by rw [f55 5 (by omega)])))]
    have z89 : (σ81 55 4).toInt = (σ 55 4).toInt := by rw [(show σ81 55 4 = (σ 55 4) from (by rw [f84 4 (by omega)]; exact (by rw [f55 4 (by omega)])))]
    have w90 : ∀ k : Nat, k < 68 → (-200) ≤ (σ81 56 k).toInt ∧ (σ81 56 k).toInt ≤ 500 := (by rw [f83 56 (by omega)]; exact w66)
    have w91 : ∀ k : Nat, k < 40 → 0 ≤ (σ81 57 k).toInt ∧ (σ81 57 k).toInt ≤ 67 := (by rw [f83 57 (by omega)]; exact w67)
    have w92 : ∀ k : Nat, k < 40 → (-200) ≤ (σ81 58 k).toInt ∧ (σ81 58 k).toInt ≤ 500 := (by rw [f83 58 (by omega)]; exact w68)
    have w93 : ∀ k : Nat, k < 40 → (-200) ≤ (σ81 59 k).toInt ∧ (σ81 59 k).toInt ≤ 500 := (by rw [f83 59 (by omega)]; exact w69)
    have I94 : jI101 σ81 := ⟨(by omega), (by omega), (by omega), w90, w91, w92, w93⟩
    have z95 : (σ81 55 6).toInt = (σ 55 6).toInt := by rw [(show σ81 55 6 = (σ 55 6) from (by rw [f84 6 (by omega)]; exact (by rw [f55 6 (by omega)])))]
    have w96 : ∀ k : Nat, k < 4 → 0 ≤ (σ81 60 k).toInt ∧ (σ81 60 k).toInt ≤ 50 := (by rw [f83 60 (by omega)]; exact w72)
    have w97 : ∀ k : Nat, k < 4 → 0 ≤ (σ81 61 k).toInt ∧ (σ81 61 k).toInt ≤ 20 := (by rw [f83 61 (by omega)]; exact w73)
    have I98 : jI102 σ81 := ⟨(by omega), w96, w97⟩
    have z99 : (σ81 55 9).toInt = (σ 55 9).toInt := by rw [(show σ81 55 9 = (σ 55 9) from (by rw [f84 9 (by omega)]; exact (by rw [f55 9 (by omega)])))]
    have I100 : jI103 σ81 := (show 0 ≤ (σ81 55 9).toInt ∧ (σ81 55 9).toInt ≤ 3 by omega)
    have w101 : ∀ k : Nat, k < 4 → 0 ≤ (σ81 68 k).toInt ∧ (σ81 68 k).toInt ≤ 3 := (by rw [f83 68 (by omega)]; exact w80)
    refine jcallV (As := [.int r53, .int x63]) (rest := [.int a2]) ⟨hx, hb, hml, hown, hts⟩ hK hP hA hS hZ (c_X12_runsBy l D cI cL ad zz hJ σ81 τ r53 (r53.toInt) rfl x63 (x63.toInt) rfl I94 I98 I100 w101 (by omega) (by omega)) cw_RX12_262 (jc_55 cI cL ad σ81 τ) rfl ⟨Nat.le_of_ble_eq_true rfl, Nat.le_of_ble_eq_true rfl⟩ rfl rfl rfl hl.1 rfl (Nat.le_of_ble_eq_true rfl) dX12_likelyFrom_50 ⟨Nat.zero_le _, Nat.zero_le _⟩ (fun r103 σ102 τ102 H locs h102 hP hS => ?_)
    obtain ⟨⟨rfl, rfl⟩, h102⟩ := h102
    have h104 := h102
    obtain ⟨q106, k105⟩ := h104
    have g107 := jrg (rfl : r103.toInt = r103.toInt)
    refine lv_isub hx hb dX12_likelyFrom_53 ?_
    refine lv_topi (fun x108 ex108 => ?_)
    have gx108 := jrg (rfl : x108.toInt = x108.toInt)
    refine lv_istore (lv' := [(6, .int x108), (5, .int r82), (4, .int x63), (3, .int r53), (0, .ref (ad 55)), (1, .int a1), (2, .int a2)]) hx hb dX12_likelyFrom_54 hl (by decide) rfl (fun ls hl => ?_)
    refine lv_aload_n hx hb dX12_likelyFrom_56 rfl (lv_at hl 4 rfl) ?_
    refine lv_iload_n hx hb dX12_likelyFrom_57 rfl (lv_at hl 3 rfl) ?_
    refine lv_iconst (v := 1) hx hb dX12_likelyFrom_58 (by decide) ?_
    have z109 : (σ81 55 27).toInt = (σ 55 27).toInt := by rw [(show σ81 55 27 = (σ 55 27) from (by rw [f84 27 (by omega)]; exact (by rw [f55 27 (by omega)])))]
    have z110 : (σ81 55 25).toInt = (σ 55 25).toInt := by rw [(show σ81 55 25 = (σ 55 25) from (by rw [f84 25 (by omega)]; exact m60))]
    have z111 : (σ81 55 26).toInt = (σ 55 26).toInt := by rw [(show σ81 55 26 = (σ 55 26) from (by rw [f84 26 (by omega)]; exact (by rw [f55 26 (by omega)])))]
    have z112 : (σ81 68 0).toInt = (σ 68 0).toInt := by rw [(show σ81 68 0 = (σ 68 0) from (by rw [f83 68 (by omega)]; exact (by rw [f54 68 (by omega)])))]
    have z113 : (σ81 68 1).toInt = (σ 68 1).toInt := by rw [(show σ81 68 1 = (σ 68 1) from (by rw [f83 68 (by omega)]; exact (by rw [f54 68 (by omega)])))]
    have z114 : (σ81 68 2).toInt = (σ 68 2).toInt := by rw [(show σ81 68 2 = (σ 68 2) from (by rw [f83 68 (by omega)]; exact (by rw [f54 68 (by omega)])))]
    have z115 : (σ81 68 3).toInt = (σ 68 3).toInt := by rw [(show σ81 68 3 = (σ 68 3) from (by rw [f83 68 (by omega)]; exact (by rw [f54 68 (by omega)])))]
    refine jcallV (As := [.int r53, .int 1]) (rest := []) ⟨hx, hb, hml, hown, hts⟩ hK hP hA hS hZ (c_X12_goes_1 l D cI cL ad zz hJ σ81 τ r53 (r53.toInt) rfl w101 (by omega) (by omega) (by omega) (by omega) (by omega)) cw_RX12_296 (jc_55 cI cL ad σ81 τ) rfl ⟨Nat.le_of_ble_eq_true rfl, Nat.le_of_ble_eq_true rfl⟩ rfl rfl rfl hl.1 rfl (Nat.le_of_ble_eq_true rfl) dX12_likelyFrom_59 ⟨Nat.zero_le _, Nat.zero_le _⟩ (fun r117 σ116 τ116 H locs h116 hP hS => ?_)
    obtain ⟨rfl, f118, f119, w120, w121, w122, h116⟩ := h116
    obtain ⟨k123, k124, k125, h116⟩ := h116
    have h126 := h116
    obtain ⟨q132, k127, k128, k129, k130, k131⟩ := h126
    refine lv_istore (lv' := [(7, .int r117), (6, .int x108), (5, .int r82), (4, .int x63), (3, .int r53), (0, .ref (ad 55)), (1, .int a1), (2, .int a2)]) hx hb dX12_likelyFrom_62 hl (by decide) rfl (fun ls hl => ?_)
    refine lv_aload_n hx hb dX12_likelyFrom_64 rfl (lv_at hl 5 rfl) ?_
    refine lv_iload_n hx hb dX12_likelyFrom_65 rfl (lv_at hl 6 rfl) ?_
    refine lv_iload hx hb dX12_likelyFrom_66 (lv_at hl 1 rfl) ?_
    have z133 : (σ116 55 5).toInt = (σ 55 5).toInt := by rw [(show σ116 55 5 = (σ 55 5) from (by rw [f119 5 (by omega)]; exact (by rw [f84 5 (by omega)]; exact (by rw [f55 5 (by omega)]))))]
    have z134 : (σ116 55 4).toInt = (σ 55 4).toInt := by rw [(show σ116 55 4 = (σ 55 4) from (by rw [f119 4 (by omega)]; exact (by rw [f84 4 (by omega)]; exact (by rw [f55 4 (by omega)]))))]
    have w135 : ∀ k : Nat, k < 68 → (-200) ≤ (σ116 56 k).toInt ∧ (σ116 56 k).toInt ≤ 500 := (by rw [f118 56 (by omega)]; exact w90)
    have w136 : ∀ k : Nat, k < 40 → 0 ≤ (σ116 57 k).toInt ∧ (σ116 57 k).toInt ≤ 67 := (by rw [f118 57 (by omega)]; exact w91)
    have w137 : ∀ k : Nat, k < 40 → (-200) ≤ (σ116 58 k).toInt ∧ (σ116 58 k).toInt ≤ 500 := (by rw [f118 58 (by omega)]; exact w92)
    have w138 : ∀ k : Nat, k < 40 → (-200) ≤ (σ116 59 k).toInt ∧ (σ116 59 k).toInt ≤ 500 := (by rw [f118 59 (by omega)]; exact w93)
    have I139 : jI101 σ116 := ⟨(by omega), (by omega), (by omega), w135, w136, w137, w138⟩
    have z140 : (σ116 55 6).toInt = (σ 55 6).toInt := by rw [(show σ116 55 6 = (σ 55 6) from (by rw [f119 6 (by omega)]; exact (by rw [f84 6 (by omega)]; exact (by rw [f55 6 (by omega)]))))]
    have w141 : ∀ k : Nat, k < 4 → 0 ≤ (σ116 60 k).toInt ∧ (σ116 60 k).toInt ≤ 50 := (by rw [f118 60 (by omega)]; exact w96)
    have w142 : ∀ k : Nat, k < 4 → 0 ≤ (σ116 61 k).toInt ∧ (σ116 61 k).toInt ≤ 20 := (by rw [f118 61 (by omega)]; exact w97)
    have I143 : jI102 σ116 := ⟨(by omega), w141, w142⟩
    have z144 : (σ116 55 9).toInt = (σ 55 9).toInt := by rw [(show σ116 55 9 = (σ 55 9) from (by rw [f119 9 (by omega)]; exact (by rw [f84 9 (by omega)]; exact (by rw [f55 9 (by omega)]))))]
    have I145 : jI103 σ116 := (show 0 ≤ (σ116 55 9).toInt ∧ (σ116 55 9).toInt ≤ 3 by omega)
    have z146 : (σ116 55 10).toInt = (σ 55 10).toInt := by rw [(show σ116 55 10 = (σ 55 10) from (by rw [f119 10 (by omega)]; exact (by rw [f84 10 (by omega)]; exact (by rw [f55 10 (by omega)]))))]
    have z147 : (σ116 55 12).toInt = (σ 55 12).toInt := by rw [(show σ116 55 12 = (σ 55 12) from (by rw [f119 12 (by omega)]; exact (by rw [f84 12 (by omega)]; exact (by rw [f55 12 (by omega)]))))]
    have z148 : (σ116 55 13).toInt = (σ 55 13).toInt := by rw [(show σ116 55 13 = (σ 55 13) from (by rw [f119 13 (by omega)]; exact (by rw [f84 13 (by omega)]; exact (by rw [f55 13 (by omega)]))))]
    have w149 : ∀ k : Nat, k < 8 → 0 ≤ (σ116 62 k).toInt ∧ (σ116 62 k).toInt ≤ 3 := (by rw [f118 62 (by omega)]; exact (by rw [f83 62 (by omega)]; exact w61))
    have w150 : ∀ k : Nat, k < 8 → 0 ≤ (σ116 67 k).toInt ∧ (σ116 67 k).toInt ≤ 3 := (by rw [f118 67 (by omega)]; exact (by rw [f83 67 (by omega)]; exact (by rw [f54 67 (by omega)]; exact w16)))
    have I151 : jI104 σ116 := ⟨(by omega), (by omega), (by omega), w149, w150⟩
    have z152 : (σ116 55 15).toInt = (σ 55 15).toInt := by rw [(show σ116 55 15 = (σ 55 15) from (by rw [f119 15 (by omega)]; exact (by rw [f84 15 (by omega)]; exact (by rw [f55 15 (by omega)]))))]
    have w153 : ∀ k : Nat, k < 2 → (-1) ≤ (σ116 65 k).toInt ∧ (σ116 65 k).toInt ≤ 80 := (by rw [f118 65 (by omega)]; exact (by rw [f83 65 (by omega)]; exact w78))
    have I154 : jI105 σ116 := ⟨(by omega), w153⟩
    have z155 : (σ116 55 32).toInt = (σ 55 32).toInt := by rw [(show σ116 55 32 = (σ 55 32) from (by rw [f119 32 (by omega)]; exact (by rw [f84 32 (by omega)]; exact (by rw [f55 32 (by omega)]))))]
    have w156 : ∀ k : Nat, k < 20 → 0 ≤ (σ116 70 k).toInt ∧ (σ116 70 k).toInt ≤ 6 := (by rw [f118 70 (by omega)]; exact (by rw [f83 70 (by omega)]; exact (by rw [f54 70 (by omega)]; exact w20)))
    have w157 : ∀ k : Nat, k < 20 → 0 ≤ (σ116 71 k).toInt ∧ (σ116 71 k).toInt ≤ 8 := (by rw [f118 71 (by omega)]; exact (by rw [f83 71 (by omega)]; exact (by rw [f54 71 (by omega)]; exact w21)))
    have w158 : ∀ k : Nat, k < 160 → 0 ≤ (σ116 72 k).toInt ∧ (σ116 72 k).toInt ≤ 3 := (by rw [f118 72 (by omega)]; exact (by rw [f83 72 (by omega)]; exact (by rw [f54 72 (by omega)]; exact w22)))
    have I159 : jI106 σ116 := ⟨(by omega), w156, w157, w158⟩
    have I160 : jI120 σ116 := ⟨(by omega), (by omega), (by omega), (by omega), (by omega), w120⟩
    have p161 : jKept σ116 := jKept.fr (by rw [f118 75 (by omega), f83 75 (by omega)]) (by rw [f118 76 (by omega), f83 76 (by omega)]) (by rw [f118 77 (by omega), f83 77 (by omega)]) p56
    refine jcallV (As := [.int a1, .int x108]) (rest := []) ⟨hx, hb, hml, hown, hts⟩ hK hP hA hS hZ (c_X12_likelyFrom_7 l D cI cL ad zz hJ σ116 τ a1 (A1) t1 x108 (x108.toInt) rfl I139 I143 I145 I151 I154 I159 I160 p161 (by omega) (by omega)) cw_RX12_328 (jc_55 cI cL ad σ116 τ) rfl ⟨Nat.le_of_ble_eq_true rfl, Nat.le_of_ble_eq_true rfl⟩ rfl rfl rfl hl.1 rfl (Nat.le_of_ble_eq_true rfl) dX12_likelyFrom_68 ⟨Nat.zero_le _, Nat.zero_le _⟩ (fun r163 σ162 τ162 H locs h162 hP hS => ?_)
    obtain ⟨rfl, f164, f165, p166, h162⟩ := h162
    refine lv_istore (lv' := [(8, .int r163), (7, .int r117), (6, .int x108), (5, .int r82), (4, .int x63), (3, .int r53), (0, .ref (ad 55)), (1, .int a1), (2, .int a2)]) hx hb dX12_likelyFrom_71 hl (by decide) rfl (fun ls hl => ?_)
    refine lv_aload_n hx hb dX12_likelyFrom_73 rfl (lv_at hl 6 rfl) ?_
    refine lv_iload_n hx hb dX12_likelyFrom_74 rfl (lv_at hl 5 rfl) ?_
    refine lv_iconst (v := 1) hx hb dX12_likelyFrom_75 (by decide) ?_
    refine lv_iload hx hb dX12_likelyFrom_76 (lv_at hl 1 rfl) ?_
    have w167 : ∀ k : Nat, k < 4 → 0 ≤ (σ162 68 k).toInt ∧ (σ162 68 k).toInt ≤ 3 := (by rw [f164 68 (by omega)]; exact w120)
    have z168 : (σ162 55 25).toInt = (σ116 55 25).toInt := by rw [(show σ162 55 25 = (σ116 55 25) from (by rw [f165 25 (by omega)]))]
    have z169 : (σ162 55 26).toInt = (σ116 55 26).toInt := by rw [(show σ162 55 26 = (σ116 55 26) from (by rw [f165 26 (by omega)]))]
    have z170 : (σ162 55 6).toInt = (σ 55 6).toInt := by rw [(show σ162 55 6 = (σ 55 6) from (by rw [f165 6 (by omega)]; exact (by rw [f119 6 (by omega)]; exact (by rw [f84 6 (by omega)]; exact (by rw [f55 6 (by omega)])))))]
    have w171 : ∀ k : Nat, k < 4 → 0 ≤ (σ81 68 k).toInt ∧ (σ81 68 k).toInt ≤ 3 := w101
    have z173 : (σ81 55 27).toInt = (σ 55 27).toInt := by rw [(show σ81 55 27 = (σ 55 27) from (by rw [f84 27 (by omega)]; exact (by rw [f55 27 (by omega)])))]
    have k172 := jwas (by omega) (w171 0 (by decide)) (w171 1 (by decide)) (w171 2 (by decide)) (w171 3 (by decide)) k127
    rw [← (show σ162 55 6 = σ81 55 6 from (by rw [f165 6 (by omega), f119 6 (by omega)]))] at k172
    refine jcallVv (As := [.int r53, .int 1, .int r117]) (rest := []) ⟨hx, hb, hml, hown, hts⟩ hK hP hA hS hZ (c_X12_goesBack_1 l D cI cL ad zz hJ σ162 τ r53 (r53.toInt) rfl r117 (r117.toInt) rfl w167 (by omega) (by omega) (by omega) k172) cw_RX12_300 (jc_55 cI cL ad σ162 τ) rfl ⟨Nat.le_of_ble_eq_true rfl, Nat.le_of_ble_eq_true rfl⟩ rfl rfl rfl hl.1 rfl (Nat.le_of_ble_eq_true rfl) dX12_likelyFrom_78 ⟨Nat.zero_le _, Nat.zero_le _⟩ (fun σ174 τ174 H locs h174 hP hS => ?_)
    obtain ⟨rfl, f176, f177, w178, w179, w180, h174⟩ := h174
    obtain ⟨k181, k182, k183, k184, h174⟩ := h174
    have p185 : jKept σ174 := jKept.fr (by rw [f176 75 (by omega)]) (by rw [f176 76 (by omega)]) (by rw [f176 77 (by omega)]) p166
    have e186 : σ162 69 = σ116 69 := (by rw [f164 69 (by omega)])
    have e187 : σ174 69 = σ81 69 := jback69 w121 e186 w179
    have e188 : σ162 68 = σ116 68 := (by rw [f164 68 (by omega)])
    have e189 : σ162 55 6 = σ81 55 6 := (by rw [f165 6 (by omega), f119 6 (by omega)])
    have w197 : ∀ k : Nat, k < 4 → 0 ≤ (σ81 68 k).toInt ∧ (σ81 68 k).toInt ≤ 3 := w101
    have w198 : ∀ k : Nat, k < 4 → 0 ≤ (σ174 68 k).toInt ∧ (σ174 68 k).toInt ≤ 3 := w178
    have k199 := k184
    rw [e189] at k199
    have D190 := jdig (w197 0 (by decide)) (w197 1 (by decide)) (w197 2 (by decide)) (w197 3 (by decide)) (w198 0 (by decide)) (w198 1 (by decide)) (w198 2 (by decide)) (w198 3 (by decide)) k127 k199
    have e191 : σ174 55 27 = σ81 55 27 := Int32.toInt_inj.mp (by have h9 := D190.1; omega)
    have z200 : (σ162 55 26).toInt = (σ116 55 26).toInt := by rw [(show σ162 55 26 = (σ116 55 26) from (by rw [f165 26 (by omega)]))]
    have z201 : (σ81 55 26).toInt = (σ 55 26).toInt := by rw [(show σ81 55 26 = (σ 55 26) from (by rw [f84 26 (by omega)]; exact (by rw [f55 26 (by omega)])))]
    have z202 : (σ162 55 25).toInt = (σ116 55 25).toInt := by rw [(show σ162 55 25 = (σ116 55 25) from (by rw [f165 25 (by omega)]))]
    have z203 : (σ81 55 25).toInt = (σ 55 25).toInt := by rw [(show σ81 55 25 = (σ 55 25) from (by rw [f84 25 (by omega)]; exact (by rw [f55 25 (by omega)])))]
    have e192 : σ174 55 26 = σ81 55 26 := Int32.toInt_inj.mp (by omega)
    have e193 : σ174 55 25 = σ81 55 25 := Int32.toInt_inj.mp (by omega)
    have z204 : (σ81 55 6).toInt = (σ 55 6).toInt := by rw [(show σ81 55 6 = (σ 55 6) from (by rw [f84 6 (by omega)]; exact (by rw [f55 6 (by omega)])))]
    have e194 : σ174 68 = σ81 68 := jback68 (nb := (σ81 55 6).toInt) (by omega) w122 e188 (fun k hk => w180 k (by rw [e189]; exact hk)) D190.2
    have f195 : (∀ i : Nat, (i < 55 ∨ 55 < i) ∧ (i < 66 ∨ 66 < i) ∧ (i < 74 ∨ 78 < i) → σ174 i = σ81 i) := fun i hi => by
      by_cases h8 : i = 68
      · rw [h8]; exact e194
      by_cases h9 : i = 69
      · rw [h9]; exact e187
      rw [f176 i (by omega), f164 i (by omega), f118 i (by omega)]
    have f196 : ∀ k : Nat, (k < 18 ∨ 18 < k) ∧ (k < 19 ∨ 19 < k) ∧ (k < 20 ∨ 20 < k) ∧ (k < 21 ∨ 21 < k) ∧ (k < 22 ∨ 22 < k) ∧ (k < 37 ∨ 37 < k) → σ174 55 k = σ81 55 k := fun k hk => by
      by_cases h25 : k = 25
      · rw [h25]; exact e193
      by_cases h26 : k = 26
      · rw [h26]; exact e192
      by_cases h27 : k = 27
      · rw [h27]; exact e191
      rw [f177 k (by omega), f165 k (by omega), f119 k (by omega)]
    clear k199 k184 k127
    refine lv_aload_n hx hb dX12_likelyFrom_81 rfl (lv_at hl 6 rfl) ?_
    refine lv_iload_n hx hb dX12_likelyFrom_82 rfl (lv_at hl 5 rfl) ?_
    refine lv_iconst (v := 0) hx hb dX12_likelyFrom_83 (by decide) ?_
    have w205 : ∀ k : Nat, k < 4 → 0 ≤ (σ174 68 k).toInt ∧ (σ174 68 k).toInt ≤ 3 := (by rw [f195 68 (by omega)]; exact w101)
    have z206 : (σ174 55 6).toInt = (σ 55 6).toInt := by rw [(show σ174 55 6 = (σ 55 6) from (by rw [f196 6 (by omega)]; exact (by rw [f84 6 (by omega)]; exact (by rw [f55 6 (by omega)]))))]
    have z207 : (σ174 55 27).toInt = (σ 55 27).toInt := by rw [(show σ174 55 27 = (σ 55 27) from (by rw [f196 27 (by omega)]; exact (by rw [f84 27 (by omega)]; exact (by rw [f55 27 (by omega)]))))]
    have z208 : (σ174 55 25).toInt = (σ 55 25).toInt := by rw [(show σ174 55 25 = (σ 55 25) from (by rw [f196 25 (by omega)]; exact (by rw [f84 25 (by omega)]; exact m60)))]
    have z209 : (σ174 55 26).toInt = (σ 55 26).toInt := by rw [(show σ174 55 26 = (σ 55 26) from (by rw [f196 26 (by omega)]; exact (by rw [f84 26 (by omega)]; exact (by rw [f55 26 (by omega)]))))]
    have z210 : (σ174 68 0).toInt = (σ 68 0).toInt := by rw [(show σ174 68 0 = (σ 68 0) from (by rw [f195 68 (by omega)]; exact (by rw [f83 68 (by omega)]; exact (by rw [f54 68 (by omega)]))))]
    have z211 : (σ174 68 1).toInt = (σ 68 1).toInt := by rw [(show σ174 68 1 = (σ 68 1) from (by rw [f195 68 (by omega)]; exact (by rw [f83 68 (by omega)]; exact (by rw [f54 68 (by omega)]))))]
    have z212 : (σ174 68 2).toInt = (σ 68 2).toInt := by rw [(show σ174 68 2 = (σ 68 2) from (by rw [f195 68 (by omega)]; exact (by rw [f83 68 (by omega)]; exact (by rw [f54 68 (by omega)]))))]
    have z213 : (σ174 68 3).toInt = (σ 68 3).toInt := by rw [(show σ174 68 3 = (σ 68 3) from (by rw [f195 68 (by omega)]; exact (by rw [f83 68 (by omega)]; exact (by rw [f54 68 (by omega)]))))]
    refine jcallV (As := [.int r53, .int 0]) (rest := []) ⟨hx, hb, hml, hown, hts⟩ hK hP hA hS hZ (c_X12_goes_0 l D cI cL ad zz hJ σ174 τ r53 (r53.toInt) rfl w205 (by omega) (by omega) (by omega) (by omega) (by omega)) cw_RX12_296 (jc_55 cI cL ad σ174 τ) rfl ⟨Nat.le_of_ble_eq_true rfl, Nat.le_of_ble_eq_true rfl⟩ rfl rfl rfl hl.1 rfl (Nat.le_of_ble_eq_true rfl) dX12_likelyFrom_84 ⟨Nat.zero_le _, Nat.zero_le _⟩ (fun r215 σ214 τ214 H locs h214 hP hS => ?_)
    obtain ⟨rfl, f216, f217, w218, w219, w220, h214⟩ := h214
    obtain ⟨k221, k222, k223, h214⟩ := h214
    have h224 := h214
    obtain ⟨q230, k225, k226, k227, k228, k229⟩ := h224
    refine lv_istore (lv' := [(7, .int r215), (8, .int r163), (6, .int x108), (5, .int r82), (4, .int x63), (3, .int r53), (0, .ref (ad 55)), (1, .int a1), (2, .int a2)]) hx hb dX12_likelyFrom_87 hl (by decide) rfl (fun ls hl => ?_)
    refine lv_aload_n hx hb dX12_likelyFrom_89 rfl (lv_at hl 6 rfl) ?_
    refine lv_iload_n hx hb dX12_likelyFrom_90 rfl (lv_at hl 7 rfl) ?_
    refine lv_iload hx hb dX12_likelyFrom_91 (lv_at hl 2 rfl) ?_
    have z231 : (σ214 55 5).toInt = (σ 55 5).toInt := by rw [(show σ214 55 5 = (σ 55 5) from (by rw [f217 5 (by omega)]; exact (by rw [f196 5 (by omega)]; exact (by rw [f84 5 (by omega)]; exact (by rw [f55 5 (by omega)])))))]
    have z232 : (σ214 55 4).toInt = (σ 55 4).toInt := by rw [(show σ214 55 4 = (σ 55 4) from (by rw [f217 4 (by omega)]; exact (by rw [f196 4 (by omega)]; exact (by rw [f84 4 (by omega)]; exact (by rw [f55 4 (by omega)])))))]
    have w233 : ∀ k : Nat, k < 68 → (-200) ≤ (σ214 56 k).toInt ∧ (σ214 56 k).toInt ≤ 500 := (by rw [f216 56 (by omega)]; exact (by rw [f195 56 (by omega)]; exact w90))
    have w234 : ∀ k : Nat, k < 40 → 0 ≤ (σ214 57 k).toInt ∧ (σ214 57 k).toInt ≤ 67 := (by rw [f216 57 (by omega)]; exact (by rw [f195 57 (by omega)]; exact w91))
    have w235 : ∀ k : Nat, k < 40 → (-200) ≤ (σ214 58 k).toInt ∧ (σ214 58 k).toInt ≤ 500 := (by rw [f216 58 (by omega)]; exact (by rw [f195 58 (by omega)]; exact w92))
    have w236 : ∀ k : Nat, k < 40 → (-200) ≤ (σ214 59 k).toInt ∧ (σ214 59 k).toInt ≤ 500 := (by rw [f216 59 (by omega)]; exact (by rw [f195 59 (by omega)]; exact w93))
    have I237 : jI101 σ214 := ⟨(by omega), (by omega), (by omega), w233, w234, w235, w236⟩
    have z238 : (σ214 55 6).toInt = (σ 55 6).toInt := by rw [(show σ214 55 6 = (σ 55 6) from (by rw [f217 6 (by omega)]; exact (by rw [f196 6 (by omega)]; exact (by rw [f84 6 (by omega)]; exact (by rw [f55 6 (by omega)])))))]
    have w239 : ∀ k : Nat, k < 4 → 0 ≤ (σ214 60 k).toInt ∧ (σ214 60 k).toInt ≤ 50 := (by rw [f216 60 (by omega)]; exact (by rw [f195 60 (by omega)]; exact w96))
    have w240 : ∀ k : Nat, k < 4 → 0 ≤ (σ214 61 k).toInt ∧ (σ214 61 k).toInt ≤ 20 := (by rw [f216 61 (by omega)]; exact (by rw [f195 61 (by omega)]; exact w97))
    have I241 : jI102 σ214 := ⟨(by omega), w239, w240⟩
    have z242 : (σ214 55 9).toInt = (σ 55 9).toInt := by rw [(show σ214 55 9 = (σ 55 9) from (by rw [f217 9 (by omega)]; exact (by rw [f196 9 (by omega)]; exact (by rw [f84 9 (by omega)]; exact (by rw [f55 9 (by omega)])))))]
    have I243 : jI103 σ214 := (show 0 ≤ (σ214 55 9).toInt ∧ (σ214 55 9).toInt ≤ 3 by omega)
    have z244 : (σ214 55 10).toInt = (σ 55 10).toInt := by rw [(show σ214 55 10 = (σ 55 10) from (by rw [f217 10 (by omega)]; exact (by rw [f196 10 (by omega)]; exact (by rw [f84 10 (by omega)]; exact (by rw [f55 10 (by omega)])))))]
    have z245 : (σ214 55 12).toInt = (σ 55 12).toInt := by rw [(show σ214 55 12 = (σ 55 12) from (by rw [f217 12 (by omega)]; exact (by rw [f196 12 (by omega)]; exact (by rw [f84 12 (by omega)]; exact (by rw [f55 12 (by omega)])))))]
    have z246 : (σ214 55 13).toInt = (σ 55 13).toInt := by rw [(show σ214 55 13 = (σ 55 13) from (by rw [f217 13 (by omega)]; exact (by rw [f196 13 (by omega)]; exact (by rw [f84 13 (by omega)]; exact (by rw [f55 13 (by omega)])))))]
    have w247 : ∀ k : Nat, k < 8 → 0 ≤ (σ214 62 k).toInt ∧ (σ214 62 k).toInt ≤ 3 := (by rw [f216 62 (by omega)]; exact (by rw [f195 62 (by omega)]; exact (by rw [f83 62 (by omega)]; exact w61)))
    have w248 : ∀ k : Nat, k < 8 → 0 ≤ (σ214 67 k).toInt ∧ (σ214 67 k).toInt ≤ 3 := (by rw [f216 67 (by omega)]; exact (by rw [f195 67 (by omega)]; exact (by rw [f83 67 (by omega)]; exact (by rw [f54 67 (by omega)]; exact w16))))
    have I249 : jI104 σ214 := ⟨(by omega), (by omega), (by omega), w247, w248⟩
    have z250 : (σ214 55 15).toInt = (σ 55 15).toInt := by rw [(show σ214 55 15 = (σ 55 15) from (by rw [f217 15 (by omega)]; exact (by rw [f196 15 (by omega)]; exact (by rw [f84 15 (by omega)]; exact (by rw [f55 15 (by omega)])))))]
    have w251 : ∀ k : Nat, k < 2 → (-1) ≤ (σ214 65 k).toInt ∧ (σ214 65 k).toInt ≤ 80 := (by rw [f216 65 (by omega)]; exact (by rw [f195 65 (by omega)]; exact (by rw [f83 65 (by omega)]; exact w78)))
    have I252 : jI105 σ214 := ⟨(by omega), w251⟩
    have z253 : (σ214 55 32).toInt = (σ 55 32).toInt := by rw [(show σ214 55 32 = (σ 55 32) from (by rw [f217 32 (by omega)]; exact (by rw [f196 32 (by omega)]; exact (by rw [f84 32 (by omega)]; exact (by rw [f55 32 (by omega)])))))]
    have w254 : ∀ k : Nat, k < 20 → 0 ≤ (σ214 70 k).toInt ∧ (σ214 70 k).toInt ≤ 6 := (by rw [f216 70 (by omega)]; exact (by rw [f195 70 (by omega)]; exact (by rw [f83 70 (by omega)]; exact (by rw [f54 70 (by omega)]; exact w20))))
    have w255 : ∀ k : Nat, k < 20 → 0 ≤ (σ214 71 k).toInt ∧ (σ214 71 k).toInt ≤ 8 := (by rw [f216 71 (by omega)]; exact (by rw [f195 71 (by omega)]; exact (by rw [f83 71 (by omega)]; exact (by rw [f54 71 (by omega)]; exact w21))))
    have w256 : ∀ k : Nat, k < 160 → 0 ≤ (σ214 72 k).toInt ∧ (σ214 72 k).toInt ≤ 3 := (by rw [f216 72 (by omega)]; exact (by rw [f195 72 (by omega)]; exact (by rw [f83 72 (by omega)]; exact (by rw [f54 72 (by omega)]; exact w22))))
    have I257 : jI106 σ214 := ⟨(by omega), w254, w255, w256⟩
    have I258 : jI120 σ214 := ⟨(by omega), (by omega), (by omega), (by omega), (by omega), w218⟩
    have p259 : jKept σ214 := jKept.fr (by rw [f216 75 (by omega)]) (by rw [f216 76 (by omega)]) (by rw [f216 77 (by omega)]) p185
    refine jcallV (As := [.int a1, .int x108]) (rest := []) ⟨hx, hb, hml, hown, hts⟩ hK hP hA hS hZ (c_X12_likelyFrom_7 l D cI cL ad zz hJ σ214 τ a1 (A1) t1 x108 (x108.toInt) rfl I237 I241 I243 I249 I252 I257 I258 p259 (by omega) (by omega)) cw_RX12_328 (jc_55 cI cL ad σ214 τ) rfl ⟨Nat.le_of_ble_eq_true rfl, Nat.le_of_ble_eq_true rfl⟩ rfl rfl rfl hl.1 rfl (Nat.le_of_ble_eq_true rfl) dX12_likelyFrom_93 ⟨Nat.zero_le _, Nat.zero_le _⟩ (fun r261 σ260 τ260 H locs h260 hP hS => ?_)
    obtain ⟨rfl, f262, f263, p264, h260⟩ := h260
    refine lv_istore (lv' := [(9, .int r261), (7, .int r215), (8, .int r163), (6, .int x108), (5, .int r82), (4, .int x63), (3, .int r53), (0, .ref (ad 55)), (1, .int a1), (2, .int a2)]) hx hb dX12_likelyFrom_96 hl (by decide) rfl (fun ls hl => ?_)
    refine lv_aload_n hx hb dX12_likelyFrom_98 rfl (lv_at hl 7 rfl) ?_
    refine lv_iload_n hx hb dX12_likelyFrom_99 rfl (lv_at hl 6 rfl) ?_
    refine lv_iconst (v := 0) hx hb dX12_likelyFrom_100 (by decide) ?_
    refine lv_iload hx hb dX12_likelyFrom_101 (lv_at hl 1 rfl) ?_
    have w265 : ∀ k : Nat, k < 4 → 0 ≤ (σ260 68 k).toInt ∧ (σ260 68 k).toInt ≤ 3 := (by rw [f262 68 (by omega)]; exact w218)
    have z266 : (σ260 55 25).toInt = (σ214 55 25).toInt := by rw [(show σ260 55 25 = (σ214 55 25) from (by rw [f263 25 (by omega)]))]
    have z267 : (σ260 55 26).toInt = (σ214 55 26).toInt := by rw [(show σ260 55 26 = (σ214 55 26) from (by rw [f263 26 (by omega)]))]
    have z268 : (σ260 55 6).toInt = (σ 55 6).toInt := by rw [(show σ260 55 6 = (σ 55 6) from (by rw [f263 6 (by omega)]; exact (by rw [f217 6 (by omega)]; exact (by rw [f196 6 (by omega)]; exact (by rw [f84 6 (by omega)]; exact (by rw [f55 6 (by omega)]))))))]
    have w269 : ∀ k : Nat, k < 4 → 0 ≤ (σ174 68 k).toInt ∧ (σ174 68 k).toInt ≤ 3 := w205
    have z271 : (σ174 55 27).toInt = (σ 55 27).toInt := by rw [(show σ174 55 27 = (σ 55 27) from (by rw [f196 27 (by omega)]; exact (by rw [f84 27 (by omega)]; exact (by rw [f55 27 (by omega)]))))]
    have k270 := jwas (by omega) (w269 0 (by decide)) (w269 1 (by decide)) (w269 2 (by decide)) (w269 3 (by decide)) k225
    rw [← (show σ260 55 6 = σ174 55 6 from (by rw [f263 6 (by omega), f217 6 (by omega)]))] at k270
    refine jcallVv (As := [.int r53, .int 0, .int r215]) (rest := []) ⟨hx, hb, hml, hown, hts⟩ hK hP hA hS hZ (c_X12_goesBack_0 l D cI cL ad zz hJ σ260 τ r53 (r53.toInt) rfl r215 (r215.toInt) rfl w265 (by omega) (by omega) (by omega) k270) cw_RX12_300 (jc_55 cI cL ad σ260 τ) rfl ⟨Nat.le_of_ble_eq_true rfl, Nat.le_of_ble_eq_true rfl⟩ rfl rfl rfl hl.1 rfl (Nat.le_of_ble_eq_true rfl) dX12_likelyFrom_103 ⟨Nat.zero_le _, Nat.zero_le _⟩ (fun σ272 τ272 H locs h272 hP hS => ?_)
    obtain ⟨rfl, f274, f275, w276, w277, w278, h272⟩ := h272
    obtain ⟨k279, k280, k281, k282, h272⟩ := h272
    have p283 : jKept σ272 := jKept.fr (by rw [f274 75 (by omega)]) (by rw [f274 76 (by omega)]) (by rw [f274 77 (by omega)]) p264
    have e284 : σ260 69 = σ214 69 := (by rw [f262 69 (by omega)])
    have e285 : σ272 69 = σ174 69 := jback69 w219 e284 w277
    have e286 : σ260 68 = σ214 68 := (by rw [f262 68 (by omega)])
    have e287 : σ260 55 6 = σ174 55 6 := (by rw [f263 6 (by omega), f217 6 (by omega)])
    have w295 : ∀ k : Nat, k < 4 → 0 ≤ (σ174 68 k).toInt ∧ (σ174 68 k).toInt ≤ 3 := w205
    have w296 : ∀ k : Nat, k < 4 → 0 ≤ (σ272 68 k).toInt ∧ (σ272 68 k).toInt ≤ 3 := w276
    have k297 := k282
    rw [e287] at k297
    have D288 := jdig (w295 0 (by decide)) (w295 1 (by decide)) (w295 2 (by decide)) (w295 3 (by decide)) (w296 0 (by decide)) (w296 1 (by decide)) (w296 2 (by decide)) (w296 3 (by decide)) k225 k297
    have e289 : σ272 55 27 = σ174 55 27 := Int32.toInt_inj.mp (by have h9 := D288.1; omega)
    have z298 : (σ260 55 26).toInt = (σ214 55 26).toInt := by rw [(show σ260 55 26 = (σ214 55 26) from (by rw [f263 26 (by omega)]))]
    have z299 : (σ174 55 26).toInt = (σ 55 26).toInt := by rw [(show σ174 55 26 = (σ 55 26) from (by rw [f196 26 (by omega)]; exact (by rw [f84 26 (by omega)]; exact (by rw [f55 26 (by omega)]))))]
    have z300 : (σ260 55 25).toInt = (σ214 55 25).toInt := by rw [(show σ260 55 25 = (σ214 55 25) from (by rw [f263 25 (by omega)]))]
    have z301 : (σ174 55 25).toInt = (σ 55 25).toInt := by rw [(show σ174 55 25 = (σ 55 25) from (by rw [f196 25 (by omega)]; exact (by rw [f84 25 (by omega)]; exact (by rw [f55 25 (by omega)]))))]
    have e290 : σ272 55 26 = σ174 55 26 := Int32.toInt_inj.mp (by omega)
    have e291 : σ272 55 25 = σ174 55 25 := Int32.toInt_inj.mp (by omega)
    have z302 : (σ174 55 6).toInt = (σ 55 6).toInt := by rw [(show σ174 55 6 = (σ 55 6) from (by rw [f196 6 (by omega)]; exact (by rw [f84 6 (by omega)]; exact (by rw [f55 6 (by omega)]))))]
    have e292 : σ272 68 = σ174 68 := jback68 (nb := (σ174 55 6).toInt) (by omega) w220 e286 (fun k hk => w278 k (by rw [e287]; exact hk)) D288.2
    have f293 : (∀ i : Nat, (i < 55 ∨ 55 < i) ∧ (i < 66 ∨ 66 < i) ∧ (i < 74 ∨ 78 < i) → σ272 i = σ174 i) := fun i hi => by
      by_cases h8 : i = 68
      · rw [h8]; exact e292
      by_cases h9 : i = 69
      · rw [h9]; exact e285
      rw [f274 i (by omega), f262 i (by omega), f216 i (by omega)]
    have f294 : ∀ k : Nat, (k < 18 ∨ 18 < k) ∧ (k < 19 ∨ 19 < k) ∧ (k < 20 ∨ 20 < k) ∧ (k < 21 ∨ 21 < k) ∧ (k < 22 ∨ 22 < k) ∧ (k < 37 ∨ 37 < k) → σ272 55 k = σ174 55 k := fun k hk => by
      by_cases h25 : k = 25
      · rw [h25]; exact e291
      by_cases h26 : k = 26
      · rw [h26]; exact e290
      by_cases h27 : k = 27
      · rw [h27]; exact e289
      rw [f275 k (by omega), f263 k (by omega), f217 k (by omega)]
    clear k297 k282 k225
    refine lv_iload hx hb dX12_likelyFrom_106 (lv_at hl 3 rfl) ?_
    refine lv_if_le (tgt := 117) hx hb dX12_likelyFrom_108 (by decide) (fun c303 => ?_) (fun c303 => ?_)
    · have kc303 := jle c303 rfl jz_0
      refine lv_iconst (v := 0) hx hb dX12_likelyFrom_117 (by decide) ?_
      refine lv_iload hx hb dX12_likelyFrom_118 (lv_at hl 2 rfl) ?_
      refine lv_iload hx hb dX12_likelyFrom_120 (lv_at hl 0 rfl) ?_
      refine lv_iload hx hb dX12_likelyFrom_122 (lv_at hl 4 rfl) ?_
      refine jcallS (As := [.int r163, .int r261, .int r82]) (rest := [.int 0]) ⟨hx, hb, hml, hown, hts⟩ hK hP hA hS hZ (c_X12_mixed l D cI cL ad zz hJ σ272 τ r163 (r163.toInt) rfl r261 (r261.toInt) rfl r82 (r82.toInt) rfl) cw_RX12_304 ⟨Nat.le_of_ble_eq_true rfl, Nat.le_of_ble_eq_true rfl⟩ rfl rfl rfl hl.1 rfl (Nat.le_of_ble_eq_true rfl) dX12_likelyFrom_124 ⟨Nat.zero_le _, Nat.zero_le _⟩ (fun r305 σ304 τ304 H locs h304 hP hS => ?_)
      obtain ⟨⟨rfl, rfl⟩, h304⟩ := h304
      refine lv_aload_n hx hb dX12_likelyFrom_127 rfl (lv_at hl 7 rfl) ?_
      refine va_get (D := D) hx hb hts inlX12 hown hK hP 55 (jc_55 cI cL ad σ272 τ) rfl 13 (by decide) (hts _ kw_15_14) (fun _ h9 => h9) rfl dX12_likelyFrom_128 ?_
      have m306 : σ272 55 13 = (σ 55 13) := (by rw [f294 13 (by omega)]; exact (by rw [f196 13 (by omega)]; exact (by rw [f84 13 (by omega)]; exact (by rw [f55 13 (by omega)]))))
      refine jtopr m306 ?_
      refine jcallS (As := [.int 0, .int r305, .int (σ 55 13)]) (rest := []) ⟨hx, hb, hml, hown, hts⟩ hK hP hA hS hZ (c_X12_mixed l D cI cL ad zz hJ σ272 τ 0 (0) jz_0 r305 (r305.toInt) rfl (σ 55 13) ((σ 55 13).toInt) rfl) cw_RX12_304 ⟨Nat.le_of_ble_eq_true rfl, Nat.le_of_ble_eq_true rfl⟩ rfl rfl rfl hl.1 rfl (Nat.le_of_ble_eq_true rfl) dX12_likelyFrom_131 ⟨Nat.zero_le _, Nat.zero_le _⟩ (fun r308 σ307 τ307 H locs h307 hP hS => ?_)
      obtain ⟨⟨rfl, rfl⟩, h307⟩ := h307
      exact hret r308 σ272 τ _ _ _ _ rfl ⟨rfl, (fun i hi => by rw [f293 i (by omega), f195 i (by omega), f83 i (by omega), f54 i (by omega)]), (fun k hk => by rw [f294 k (by omega), f196 k (by omega), f84 k (by omega), f55 k (by omega)]), p283, trivial⟩ hP hS dX12_likelyFrom_134
    · have kc303 := jnle c303 rfl jz_0
      refine lv_ldcw (v := 1000000) hx hb hown (hts _ kw_37_13) dX12_likelyFrom_111 ?_
      refine lv_goto (tgt := 118) hx hb dX12_likelyFrom_114 (by decide) ?_
      refine lv_iload hx hb dX12_likelyFrom_118 (lv_at hl 2 rfl) ?_
      refine lv_iload hx hb dX12_likelyFrom_120 (lv_at hl 0 rfl) ?_
      refine lv_iload hx hb dX12_likelyFrom_122 (lv_at hl 4 rfl) ?_
      refine jcallS (As := [.int r163, .int r261, .int r82]) (rest := [.int 1000000]) ⟨hx, hb, hml, hown, hts⟩ hK hP hA hS hZ (c_X12_mixed l D cI cL ad zz hJ σ272 τ r163 (r163.toInt) rfl r261 (r261.toInt) rfl r82 (r82.toInt) rfl) cw_RX12_304 ⟨Nat.le_of_ble_eq_true rfl, Nat.le_of_ble_eq_true rfl⟩ rfl rfl rfl hl.1 rfl (Nat.le_of_ble_eq_true rfl) dX12_likelyFrom_124 ⟨Nat.zero_le _, Nat.zero_le _⟩ (fun r310 σ309 τ309 H locs h309 hP hS => ?_)
      obtain ⟨⟨rfl, rfl⟩, h309⟩ := h309
      refine lv_aload_n hx hb dX12_likelyFrom_127 rfl (lv_at hl 7 rfl) ?_
      refine va_get (D := D) hx hb hts inlX12 hown hK hP 55 (jc_55 cI cL ad σ272 τ) rfl 13 (by decide) (hts _ kw_15_14) (fun _ h9 => h9) rfl dX12_likelyFrom_128 ?_
      have m311 : σ272 55 13 = (σ 55 13) := (by rw [f294 13 (by omega)]; exact (by rw [f196 13 (by omega)]; exact (by rw [f84 13 (by omega)]; exact (by rw [f55 13 (by omega)]))))
      refine jtopr m311 ?_
      refine jcallS (As := [.int 1000000, .int r310, .int (σ 55 13)]) (rest := []) ⟨hx, hb, hml, hown, hts⟩ hK hP hA hS hZ (c_X12_mixed l D cI cL ad zz hJ σ272 τ 1000000 (1000000) jz_1000000 r310 (r310.toInt) rfl (σ 55 13) ((σ 55 13).toInt) rfl) cw_RX12_304 ⟨Nat.le_of_ble_eq_true rfl, Nat.le_of_ble_eq_true rfl⟩ rfl rfl rfl hl.1 rfl (Nat.le_of_ble_eq_true rfl) dX12_likelyFrom_131 ⟨Nat.zero_le _, Nat.zero_le _⟩ (fun r313 σ312 τ312 H locs h312 hP hS => ?_)
      obtain ⟨⟨rfl, rfl⟩, h312⟩ := h312
      exact hret r313 σ272 τ _ _ _ _ rfl ⟨rfl, (fun i hi => by rw [f293 i (by omega), f195 i (by omega), f83 i (by omega), f54 i (by omega)]), (fun k hk => by rw [f294 k (by omega), f196 k (by omega), f84 k (by omega), f55 k (by omega)]), p283, trivial⟩ hP hS dX12_likelyFrom_134
