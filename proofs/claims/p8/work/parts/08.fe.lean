set_option maxHeartbeats 4000000 in
set_option maxRecDepth 100000 in
theorem c_X12_cost (l : Launch) (D : va_G) (cI cL : ClassId) (ad zz : Nat → Nat) (hJ : jD ad) (σ : Nat → Nat → Int32) (τ : Nat → Nat → Int64) (a1 : Int32) (A1 : Int) (t1 : a1.toInt = A1) (hI101 : jI101 σ) (hI102 : jI102 σ) (hI103 : jI103 σ) (hI104 : jI104 σ) (hI105 : jI105 σ) (hI106 : jI106 σ) (hI107 : jI107 σ) (hI119 : jI119 σ) (hs_jKept : jKept σ) (hs_jBook : jBook σ) (hs_jTR : jTR σ) : jM l yX12_cost cX12_cost 2 (some .int) ({ frames := 104, cells := 0, slots := 0, locals := 5083 }) D cI cL ad zz [.ref (ad 55), .int a1] σ τ (fun r σ' τ' => τ = τ' ∧ (∀ i : Nat, (i < 55 ∨ 55 < i) ∧ (i < 66 ∨ 66 < i) ∧ (i < 68 ∨ 69 < i) ∧ (i < 74 ∨ 78 < i) → σ' i = σ i) ∧ (∀ k : Nat, (k < 18 ∨ 18 < k) ∧ (k < 19 ∨ 19 < k) ∧ (k < 20 ∨ 20 < k) ∧ (k < 21 ∨ 21 < k) ∧ (k < 22 ∨ 22 < k) ∧ (k < 25 ∨ 25 < k) ∧ (k < 26 ∨ 26 < k) ∧ (k < 27 ∨ 27 < k) ∧ (k < 37 ∨ 37 < k) ∧ (k < 42 ∨ 42 < k) → σ' 55 k = σ 55 k) ∧ (jI119 σ') ∧ (jKept σ') ∧ (jBook σ') ∧ (jTR σ') ∧ True) := by
  refine jM.of hJ (by decide +kernel) (nt := .int) rfl (Nat.le_of_ble_eq_true rfl) ?_
  intro p e s m args below meth c Q ls hC hret hl hP
  obtain ⟨hx, hb, hr, hml, hown, hts, hK, -, hlocks, hZ⟩ := hC
  have hown : s.vm.findClass RX12 = some m.cls := hown
  have hS : va_S (jA ad) s.heap s.heap [] := va_S.rf
  have hA : ∀ q, jA ad q → jA ad q := fun _ h => h
  have hl : lv_has ls 2 [(0, .ref (ad 55)), (1, .int a1)] := hl
  have g1 := jrg t1
  obtain ⟨i1, i2, i3, w4, w5⟩ : (1 ≤ (σ 55 10).toInt ∧ (σ 55 10).toInt ≤ 8) ∧ (1 ≤ (σ 55 12).toInt ∧ (σ 55 12).toInt ≤ 12) ∧ (0 ≤ (σ 55 13).toInt ∧ (σ 55 13).toInt ≤ 999) ∧ (∀ k : Nat, k < 8 → 0 ≤ (σ 62 k).toInt ∧ (σ 62 k).toInt ≤ 3) ∧ (∀ k : Nat, k < 8 → 0 ≤ (σ 67 k).toInt ∧ (σ 67 k).toInt ≤ 3) := id hI104
  obtain ⟨i6, i7, w8⟩ : (0 ≤ (σ 55 47).toInt ∧ (σ 55 47).toInt ≤ 12) ∧ ((σ 55 47).toInt ≤ (σ 55 12).toInt) ∧ (∀ k : Nat, k < 12 → 0 ≤ (σ 80 k).toInt ∧ (σ 80 k).toInt ≤ 3) := id hI107
  refine lv_iload_n hx hb dX12_cost_0 rfl (lv_at hl 1 rfl) ?_
  refine lv_i2l (v := a1.toInt64) hx hb dX12_cost_1 rfl ?_
  refine lv_lconst (v := 0) hx hb dX12_cost_2 (by decide) ?_
  refine lv_aload_n hx hb dX12_cost_3 rfl (lv_at hl 0 rfl) ?_
  refine va_get (D := D) hx hb hts inlX12 hown hK hP 55 (jc_55 cI cL ad σ τ) rfl 47 (by decide) (hts _ kw_15_15) (fun _ h9 => h9) rfl dX12_cost_4 ?_
  refine lv_iconst (v := 1) hx hb dX12_cost_7 (by decide) ?_
  have g9 := jrg (rfl : (σ 55 47).toInt = (σ 55 47).toInt)
  refine lv_isub hx hb dX12_cost_8 ?_
  refine lv_topi (fun x10 ex10 => ?_)
  have tx10 : x10.toInt = (σ 55 47).toInt - 1 := (jsub ex10 rfl jz_1 (by omega) (by omega)).trans (by omega)
  refine lv_i2l (v := x10.toInt64) hx hb dX12_cost_9 rfl ?_
  refine jcallS (As := [.long a1.toInt64, .long 0, .long x10.toInt64]) (rest := []) ⟨hx, hb, hml, hown, hts⟩ hK hP hA hS hZ (c_X12_within l D cI cL ad zz hJ σ τ a1.toInt64 (A1) (jtoL t1) 0 (0) jzl_0 x10.toInt64 ((σ 55 47).toInt - 1) (jtoL tx10)) cw_RX12_136 ⟨Nat.le_of_ble_eq_true rfl, Nat.le_of_ble_eq_true rfl⟩ rfl rfl rfl hl.1 rfl (Nat.le_of_ble_eq_true rfl) dX12_cost_10 ⟨Nat.zero_le _, Nat.zero_le _⟩ (fun r12 σ11 τ11 H locs h11 hP hS => ?_)
  obtain ⟨⟨rfl, rfl⟩, h11⟩ := h11
  rcases h11 with h13 | h14
  · obtain ⟨q16, k15⟩ := h13
    have q16 := q16.symm
    subst q16
    refine lv_if_eq (tgt := 27) hx hb dX12_cost_13 (by decide) (fun c => absurd c (by decide)) (fun _ => ?_)
    refine lv_aload_n hx hb dX12_cost_16 rfl (lv_at hl 0 rfl) ?_
    refine va_get (D := D) hx hb hts inlX12 hown hK hP 55 (jc_55 cI cL ad σ τ) rfl 12 (by decide) (hts _ kw_8_16) (fun _ h9 => h9) rfl dX12_cost_17 ?_
    refine lv_iload_n hx hb dX12_cost_20 rfl (lv_at hl 1 rfl) ?_
    have g17 := jrg (rfl : (σ 55 12).toInt = (σ 55 12).toInt)
    refine lv_isub hx hb dX12_cost_21 ?_
    refine lv_topi (fun x18 ex18 => ?_)
    have tx18 : x18.toInt = (σ 55 12).toInt - A1 := (jsub ex18 rfl t1 (by omega) (by omega)).trans (by omega)
    refine lv_bipush (v := 8) hx hb dX12_cost_22 (by decide) ?_
    refine lv_icmp_le (tgt := 32) hx hb dX12_cost_24 (by decide) (fun c19 => ?_) (fun c19 => ?_)
    · have kc19 := jle c19 tx18 jz_8
      refine lv_aload_n hx hb dX12_cost_32 rfl (lv_at hl 0 rfl) ?_
      refine lv_iload_n hx hb dX12_cost_33 rfl (lv_at hl 1 rfl) ?_
      refine jcallV (As := [.int a1]) (rest := []) ⟨hx, hb, hml, hown, hts⟩ hK hP hA hS hZ (c_X12_costOf l D cI cL ad zz hJ σ τ a1 (A1) t1 hI101 hI102 hI103 hI104 hI105 hI106 hI107 hI119 hs_jKept hs_jBook hs_jTR (by omega) (by omega) (by omega)) cw_RX12_369 (jc_55 cI cL ad σ τ) rfl ⟨Nat.le_of_ble_eq_true rfl, Nat.le_of_ble_eq_true rfl⟩ rfl rfl rfl hl.1 rfl (Nat.le_of_ble_eq_true rfl) dX12_cost_34 ⟨Nat.zero_le _, Nat.zero_le _⟩ (fun r21 σ20 τ20 H locs h20 hP hS => ?_)
      obtain ⟨rfl, f22, f23, I24, p25, p26, p27, h20⟩ := h20
      exact hret r21 σ20 τ _ _ _ _ rfl ⟨rfl, (fun i hi => (f22 i hi)), (fun i hi => (f23 i hi)), I24, p25, p26, p27, trivial⟩ hP hS dX12_cost_37
    · have kc19 := jnle c19 tx18 jz_8
      refine lv_ldc (v := (-2000000000)) hx hb hown (hts _ kw_11_4) dX12_cost_27 ?_
      refine lv_goto (tgt := 37) hx hb dX12_cost_29 (by decide) ?_
      exact hret (-2000000000) σ τ _ _ _ _ rfl ⟨rfl, (fun _ _ => rfl), (fun _ _ => rfl), hI119, hs_jKept, hs_jBook, hs_jTR, trivial⟩ hP hS dX12_cost_37
  · obtain ⟨q30, k29⟩ := h14
    have q30 := q30.symm
    subst q30
    refine lv_if_eq (tgt := 27) hx hb dX12_cost_13 (by decide) (fun _ => ?_) (fun c => absurd (by decide) c)
    refine lv_ldc (v := (-2000000000)) hx hb hown (hts _ kw_11_4) dX12_cost_27 ?_
    refine lv_goto (tgt := 37) hx hb dX12_cost_29 (by decide) ?_
    exact hret (-2000000000) σ τ _ _ _ _ rfl ⟨rfl, (fun _ _ => rfl), (fun _ _ => rfl), hI119, hs_jKept, hs_jBook, hs_jTR, trivial⟩ hP hS dX12_cost_37
set_option maxHeartbeats 4000000 in
set_option maxRecDepth 100000 in
theorem c_X12_lost (l : Launch) (D : va_G) (cI cL : ClassId) (ad zz : Nat → Nat) (hJ : jD ad) (σ : Nat → Nat → Int32) (τ : Nat → Nat → Int64) (a1 : Int32) (A1 : Int) (t1 : a1.toInt = A1) (hI101 : jI101 σ) (hI102 : jI102 σ) (hI103 : jI103 σ) (hI104 : jI104 σ) (hI105 : jI105 σ) (hI106 : jI106 σ) (hI107 : jI107 σ) (hI119 : jI119 σ) (hs_jKept : jKept σ) (hs_jBook : jBook σ) (hs_jTR : jTR σ) : jM l yX12_lost cX12_lost 7 (some .int) ({ frames := 104, cells := 0, slots := 0, locals := 5083 }) D cI cL ad zz [.ref (ad 55), .int a1] σ τ (fun r σ' τ' => τ = τ' ∧ (∀ i : Nat, (i < 55 ∨ 55 < i) ∧ (i < 66 ∨ 66 < i) ∧ (i < 68 ∨ 69 < i) ∧ (i < 74 ∨ 78 < i) → σ' i = σ i) ∧ (∀ k : Nat, (k < 18 ∨ 18 < k) ∧ (k < 19 ∨ 19 < k) ∧ (k < 20 ∨ 20 < k) ∧ (k < 21 ∨ 21 < k) ∧ (k < 22 ∨ 22 < k) ∧ (k < 25 ∨ 25 < k) ∧ (k < 26 ∨ 26 < k) ∧ (k < 27 ∨ 27 < k) ∧ (k < 37 ∨ 37 < k) ∧ (k < 42 ∨ 42 < k) → σ' 55 k = σ 55 k) ∧ (jI119 σ') ∧ (jKept σ') ∧ (jBook σ') ∧ (jTR σ') ∧ True) := by
  refine jM.of hJ (by decide +kernel) (nt := .int) rfl (Nat.le_of_ble_eq_true rfl) ?_
  intro p e s m args below meth c Q ls hC hret hl hP
  obtain ⟨hx, hb, hr, hml, hown, hts, hK, -, hlocks, hZ⟩ := hC
  have hown : s.vm.findClass RX12 = some m.cls := hown
  have hS : va_S (jA ad) s.heap s.heap [] := va_S.rf
  have hA : ∀ q, jA ad q → jA ad q := fun _ h => h
  have hl : lv_has ls 7 [(0, .ref (ad 55)), (1, .int a1)] := hl
  have g1 := jrg t1
  obtain ⟨i1, i2, i3, w4, w5⟩ : (1 ≤ (σ 55 10).toInt ∧ (σ 55 10).toInt ≤ 8) ∧ (1 ≤ (σ 55 12).toInt ∧ (σ 55 12).toInt ≤ 12) ∧ (0 ≤ (σ 55 13).toInt ∧ (σ 55 13).toInt ≤ 999) ∧ (∀ k : Nat, k < 8 → 0 ≤ (σ 62 k).toInt ∧ (σ 62 k).toInt ≤ 3) ∧ (∀ k : Nat, k < 8 → 0 ≤ (σ 67 k).toInt ∧ (σ 67 k).toInt ≤ 3) := id hI104
  obtain ⟨i6, i7, w8⟩ : (0 ≤ (σ 55 47).toInt ∧ (σ 55 47).toInt ≤ 12) ∧ ((σ 55 47).toInt ≤ (σ 55 12).toInt) ∧ (∀ k : Nat, k < 12 → 0 ≤ (σ 80 k).toInt ∧ (σ 80 k).toInt ≤ 3) := id hI107
  refine lv_iload_n hx hb dX12_lost_0 rfl (lv_at hl 1 rfl) ?_
  refine lv_i2l (v := a1.toInt64) hx hb dX12_lost_1 rfl ?_
  refine lv_lconst (v := 0) hx hb dX12_lost_2 (by decide) ?_
  refine lv_ldc2 (v := 2) hx hb hown (hts _ kw_11_3) dX12_lost_3 ?_
  refine jcallS (As := [.long a1.toInt64, .long 0, .long 2]) (rest := []) ⟨hx, hb, hml, hown, hts⟩ hK hP hA hS hZ (c_X12_within l D cI cL ad zz hJ σ τ a1.toInt64 (A1) (jtoL t1) 0 (0) jzl_0 2 (2) jzl_2) cw_RX12_136 ⟨Nat.le_of_ble_eq_true rfl, Nat.le_of_ble_eq_true rfl⟩ rfl rfl rfl hl.1 rfl (Nat.le_of_ble_eq_true rfl) dX12_lost_6 ⟨Nat.zero_le _, Nat.zero_le _⟩ (fun r10 σ9 τ9 H locs h9 hP hS => ?_)
  obtain ⟨⟨rfl, rfl⟩, h9⟩ := h9
  rcases h9 with h11 | h12
  · obtain ⟨q14, k13⟩ := h11
    have q14 := q14.symm
    subst q14
    refine lv_if_eq (tgt := 19) hx hb dX12_lost_9 (by decide) (fun c => absurd c (by decide)) (fun _ => ?_)
    refine lv_aload_n hx hb dX12_lost_12 rfl (lv_at hl 0 rfl) ?_
    refine va_get (D := D) hx hb hts inlX12 hown hK hP 55 (jc_55 cI cL ad σ τ) rfl 47 (by decide) (hts _ kw_15_15) (fun _ h9 => h9) rfl dX12_lost_13 ?_
    refine lv_if_ne (tgt := 21) hx hb dX12_lost_16 (by decide) (fun c15 => ?_) (fun c15 => ?_)
    · have kc15 := jne c15 rfl jz_0
      refine lv_aload_n hx hb dX12_lost_21 rfl (lv_at hl 0 rfl) ?_
      refine va_get (D := D) hx hb hts inlX12 hown hK hP 55 (jc_55 cI cL ad σ τ) rfl 12 (by decide) (hts _ kw_8_16) (fun _ h9 => h9) rfl dX12_lost_22 ?_
      refine lv_bipush (v := 8) hx hb dX12_lost_25 (by decide) ?_
      refine lv_icmp_le (tgt := 33) hx hb dX12_lost_27 (by decide) (fun c16 => ?_) (fun c16 => ?_)
      · have kc16 := jle c16 rfl jz_8
        refine lv_iconst (v := 0) hx hb dX12_lost_33 (by decide) ?_
        refine lv_istore_n (lv' := [(2, .int 0), (0, .ref (ad 55)), (1, .int a1)]) hx hb dX12_lost_34 rfl hl (by decide) rfl (fun ls hl => ?_)
        refine lv_ldc (v := (-2000000000)) hx hb hown (hts _ kw_11_4) dX12_lost_35 ?_
        refine lv_istore_n (lv' := [(3, .int (-2000000000)), (2, .int 0), (0, .ref (ad 55)), (1, .int a1)]) hx hb dX12_lost_37 rfl hl (by decide) rfl (fun ls hl => ?_)
        refine lv_iconst (v := 0) hx hb dX12_lost_38 (by decide) ?_
        refine lv_istore (lv' := [(4, .int 0), (3, .int (-2000000000)), (2, .int 0), (0, .ref (ad 55)), (1, .int a1)]) hx hb dX12_lost_39 hl (by decide) rfl (fun ls hl => ?_)
        refine lv_iconst (v := 0) hx hb dX12_lost_41 (by decide) ?_
        refine lv_istore (lv' := [(5, .int 0), (4, .int 0), (3, .int (-2000000000)), (2, .int 0), (0, .ref (ad 55)), (1, .int a1)]) hx hb dX12_lost_42 hl (by decide) rfl (fun ls hl => ?_)
        have lp17 : ∀ (n18 : Nat) (x19 : Int32) (x20 : Int32) (x21 : Int32) (x22 : Int32) (σ24 : Nat → Nat → Int32) (H : Heap) (locs : List Loc) (ls : Array Slot), ((σ24 55 47).toInt - x22.toInt : Int) < n18 → 0 ≤ x22.toInt → x22.toInt ≤ 12 → x22.toInt ≤ (σ24 55 47).toInt → (∀ i : Nat, (i < 55 ∨ 55 < i) ∧ (i < 66 ∨ 66 < i) ∧ (i < 68 ∨ 69 < i) ∧ (i < 74 ∨ 78 < i) → σ24 i = σ i) → (∀ k : Nat, (k < 18 ∨ 18 < k) ∧ (k < 19 ∨ 19 < k) ∧ (k < 20 ∨ 20 < k) ∧ (k < 21 ∨ 21 < k) ∧ (k < 22 ∨ 22 < k) ∧ (k < 25 ∨ 25 < k) ∧ (k < 26 ∨ 26 < k) ∧ (k < 27 ∨ 27 < k) ∧ (k < 37 ∨ 37 < k) ∧ (k < 42 ∨ 42 < k) → σ24 55 k = σ 55 k) → jKept σ24 → jI119 σ24 → jH D cI cL ad σ24 τ H → va_S (jA ad) s.heap H locs → lv_has ls 7 [(5, .int x22), (4, .int x21), (3, .int x20), (2, .int x19), (0, .ref (ad 55)), (1, .int a1)] → W p l e ({ frames := 104, cells := 0, slots := 0, locals := 5083 }) s m args below meth c H locs 0 0 Q (F0 m 44 ls []) := by
          intro n18
          induction n18 with
          | zero => intro x19 x20 x21 x22 σ24 H locs ls h26 h27 h28 h29; have gx19 := jrg (rfl : x19.toInt = x19.toInt); have gx20 := jrg (rfl : x20.toInt = x20.toInt); have gx21 := jrg (rfl : x21.toInt = x21.toInt); exact absurd h26 (by omega)
          | succ n18 ihlp17 =>
            intro x19 x20 x21 x22 σ24 H locs ls h26 h27 h28 h29 f30 f31 p32 p33 hP hS hl
            have gx19 := jrg (rfl : x19.toInt = x19.toInt); have gx20 := jrg (rfl : x20.toInt = x20.toInt); have gx21 := jrg (rfl : x21.toInt = x21.toInt)
            have z34 : (σ24 55 47).toInt = (σ 55 47).toInt := (congrArg Int32.toInt (show σ24 55 47 = (σ 55 47) from (f31 47 (by decide))))
            refine lv_iload hx hb dX12_lost_44 (lv_at hl 0 rfl) ?_
            refine lv_aload_n hx hb dX12_lost_46 rfl (lv_at hl 4 rfl) ?_
            refine va_get (D := D) hx hb hts inlX12 hown hK hP 55 (jc_55 cI cL ad σ24 τ) rfl 47 (by decide) (hts _ kw_15_15) (fun _ h9 => h9) rfl dX12_lost_47 ?_
            have m35 : σ24 55 47 = (σ 55 47) := (f31 47 (by decide))
            refine jtopr m35 ?_
            refine lv_icmp_ge (tgt := 86) hx hb dX12_lost_50 (by decide) (fun c36 => ?_) (fun c36 => ?_)
            · have kc36 := jle c36 rfl rfl
              refine lv_iload_n hx hb dX12_lost_86 rfl (lv_at hl 5 rfl) ?_
              refine lv_if_ne (tgt := 94) hx hb dX12_lost_87 (by decide) (fun c37 => ?_) (fun c37 => ?_)
              · have kc37 := jne c37 t1 jz_0
                refine lv_iload_n hx hb dX12_lost_94 rfl (lv_at hl 5 rfl) ?_
                refine lv_iconst (v := 1) hx hb dX12_lost_95 (by decide) ?_
                refine lv_icmp_ne (tgt := 103) hx hb dX12_lost_96 (by decide) (fun c38 => ?_) (fun c38 => ?_)
                · have kc38 := jne c38 t1 jz_1
                  refine lv_iload hx hb dX12_lost_103 (lv_at hl 1 rfl) ?_
                  have p39 : jBook σ24 := jBook.fr (f31 47 (by decide)) (f31 10 (by decide)) (f30 81 (by decide)) hs_jBook
                  have p40 : jTR σ24 := jTR.fr (f30 64 (by decide)) (f30 65 (by decide)) hs_jTR
                  exact hret x21 σ24 τ _ _ _ _ rfl ⟨rfl, (fun i hi => (f30 i hi)), (fun i hi => (f31 i hi)), p33, p32, p39, p40, trivial⟩ hP hS dX12_lost_105
                · have kc38 := jeq c38 t1 jz_1
                  refine lv_iload_n hx hb dX12_lost_99 rfl (lv_at hl 2 rfl) ?_
                  refine lv_goto (tgt := 105) hx hb dX12_lost_100 (by decide) ?_
                  have p41 : jBook σ24 := jBook.fr (f31 47 (by decide)) (f31 10 (by decide)) (f30 81 (by decide)) hs_jBook
                  have p42 : jTR σ24 := jTR.fr (f30 64 (by decide)) (f30 65 (by decide)) hs_jTR
                  exact hret x20 σ24 τ _ _ _ _ rfl ⟨rfl, (fun i hi => (f30 i hi)), (fun i hi => (f31 i hi)), p33, p32, p41, p42, trivial⟩ hP hS dX12_lost_105
              · have kc37 := jeq c37 t1 jz_0
                refine lv_iload_n hx hb dX12_lost_90 rfl (lv_at hl 3 rfl) ?_
                refine lv_goto (tgt := 105) hx hb dX12_lost_91 (by decide) ?_
                have p43 : jBook σ24 := jBook.fr (f31 47 (by decide)) (f31 10 (by decide)) (f30 81 (by decide)) hs_jBook
                have p44 : jTR σ24 := jTR.fr (f30 64 (by decide)) (f30 65 (by decide)) hs_jTR
                exact hret x19 σ24 τ _ _ _ _ rfl ⟨rfl, (fun i hi => (f30 i hi)), (fun i hi => (f31 i hi)), p33, p32, p43, p44, trivial⟩ hP hS dX12_lost_105
            · have kc36 := jnle c36 rfl rfl
              refine lv_aload_n hx hb dX12_lost_53 rfl (lv_at hl 4 rfl) ?_
              refine lv_iload hx hb dX12_lost_54 (lv_at hl 0 rfl) ?_
              have I45 : jI101 σ24 := jI101_fr (f31 4 (by decide)) (f31 5 (by decide)) (f30 56 (by decide)) (f30 57 (by decide)) (f30 58 (by decide)) (f30 59 (by decide)) hI101
              have I46 : jI102 σ24 := jI102_fr (f31 6 (by decide)) (f30 60 (by decide)) (f30 61 (by decide)) hI102
              have I47 : jI103 σ24 := jI103_fr (f31 9 (by decide)) hI103
              have I48 : jI104 σ24 := jI104_fr (f31 10 (by decide)) (f31 12 (by decide)) (f31 13 (by decide)) (f30 62 (by decide)) (f30 67 (by decide)) hI104
              have I49 : jI105 σ24 := jI105_fr (f31 15 (by decide)) (f30 65 (by decide)) hI105
              have I50 : jI106 σ24 := jI106_fr (f31 32 (by decide)) (f30 70 (by decide)) (f30 71 (by decide)) (f30 72 (by decide)) hI106
              have I51 : jI107 σ24 := jI107_fr (f31 12 (by decide)) (f31 47 (by decide)) (f30 80 (by decide)) hI107
              have p52 : jBook σ24 := jBook.fr (f31 47 (by decide)) (f31 10 (by decide)) (f30 81 (by decide)) hs_jBook
              have p53 : jTR σ24 := jTR.fr (f30 64 (by decide)) (f30 65 (by decide)) hs_jTR
              have z54 : (σ24 55 12).toInt = (σ 55 12).toInt := (congrArg Int32.toInt (show σ24 55 12 = (σ 55 12) from (f31 12 (by decide))))
              refine jcallV (As := [.int x22]) (rest := []) ⟨hx, hb, hml, hown, hts⟩ hK hP hA hS hZ (c_X12_costOf l D cI cL ad zz hJ σ24 τ x22 (x22.toInt) rfl I45 I46 I47 I48 I49 I50 I51 p33 p32 p52 p53 (by omega) (by omega) (by omega)) cw_RX12_369 (jc_55 cI cL ad σ24 τ) rfl ⟨Nat.le_of_ble_eq_true rfl, Nat.le_of_ble_eq_true rfl⟩ rfl rfl rfl hl.1 rfl (Nat.le_of_ble_eq_true rfl) dX12_lost_56 ⟨Nat.zero_le _, Nat.zero_le _⟩ (fun r56 σ55 τ55 H locs h55 hP hS => ?_)
              obtain ⟨rfl, f57, f58, I59, p60, p61, p62, h55⟩ := h55
              refine lv_istore (lv' := [(6, .int r56), (5, .int x22), (4, .int x21), (3, .int x20), (2, .int x19), (0, .ref (ad 55)), (1, .int a1)]) hx hb dX12_lost_59 hl (by decide) rfl (fun ls hl => ?_)
              refine lv_iload hx hb dX12_lost_61 (lv_at hl 2 rfl) ?_
              refine lv_iload hx hb dX12_lost_63 (lv_at hl 0 rfl) ?_
              have g64 := jrg (rfl : x21.toInt = x21.toInt)
              have g65 := jrg (rfl : r56.toInt = r56.toInt)
              refine lv_iadd hx hb dX12_lost_65 ?_
              refine lv_topi (fun x66 ex66 => ?_)
              have gx66 := jrg (rfl : x66.toInt = x66.toInt)
              refine lv_istore (lv' := [(4, .int x66), (6, .int r56), (5, .int x22), (3, .int x20), (2, .int x19), (0, .ref (ad 55)), (1, .int a1)]) hx hb dX12_lost_66 hl (by decide) rfl (fun ls hl => ?_)
              refine lv_iload hx hb dX12_lost_68 (lv_at hl 1 rfl) ?_
              refine lv_iload_n hx hb dX12_lost_70 rfl (lv_at hl 3 rfl) ?_
              refine lv_icmp_le (tgt := 80) hx hb dX12_lost_71 (by decide) (fun c67 => ?_) (fun c67 => ?_)
              · have kc67 := jle c67 rfl rfl
                obtain ⟨x68, ex68⟩ : ∃ y : Int32, y = x22 + 1 := ⟨_, rfl⟩
                have tx68 : x68.toInt = x22.toInt + 1 := (jadd ex68 rfl jz_1 (by omega) (by omega)).trans (by omega)
                refine lv_iinc (v := x68) (lv' := [(5, .int x68), (4, .int x66), (6, .int r56), (3, .int x20), (2, .int x19), (0, .ref (ad 55)), (1, .int a1)]) hx hb dX12_lost_80 hl (k := 2) rfl (by rw [ex68]; rfl) (by decide) rfl (fun ls hl => ?_)
                refine lv_goto (tgt := 44) hx hb dX12_lost_83 (by decide) ?_
                have z69 : (σ55 55 47).toInt = (σ 55 47).toInt := (congrArg Int32.toInt (show σ55 55 47 = (σ 55 47) from ((f58 47 (by decide)).trans m35)))
                exact ihlp17 x19 x20 x66 x68 σ55 _ _ ls (by have h93 := tx68; omega) (by have h93 := tx68; omega) (by have h93 := tx68; omega) (by have h93 := tx68; omega) (fun i hi => ((f57 i hi).trans (f30 i hi))) (fun i hi => ((f58 i hi).trans (f31 i hi)))  p60 I59 hP hS (lv_sub hl [0, 1, 3, 4, 5, 6] rfl)
              · have kc67 := jnle c67 rfl rfl
                refine lv_iload hx hb dX12_lost_74 (lv_at hl 2 rfl) ?_
                refine lv_istore_n (lv' := [(2, .int x22), (4, .int x66), (6, .int r56), (5, .int x22), (3, .int x20), (0, .ref (ad 55)), (1, .int a1)]) hx hb dX12_lost_76 rfl hl (by decide) rfl (fun ls hl => ?_)
                refine lv_iload hx hb dX12_lost_77 (lv_at hl 2 rfl) ?_
                refine lv_istore_n (lv' := [(3, .int r56), (2, .int x22), (4, .int x66), (6, .int r56), (5, .int x22), (0, .ref (ad 55)), (1, .int a1)]) hx hb dX12_lost_79 rfl hl (by decide) rfl (fun ls hl => ?_)
                obtain ⟨x70, ex70⟩ : ∃ y : Int32, y = x22 + 1 := ⟨_, rfl⟩
                have tx70 : x70.toInt = x22.toInt + 1 := (jadd ex70 rfl jz_1 (by omega) (by omega)).trans (by omega)
                refine lv_iinc (v := x70) (lv' := [(5, .int x70), (3, .int r56), (2, .int x22), (4, .int x66), (6, .int r56), (0, .ref (ad 55)), (1, .int a1)]) hx hb dX12_lost_80 hl (k := 4) rfl (by rw [ex70]; rfl) (by decide) rfl (fun ls hl => ?_)
                refine lv_goto (tgt := 44) hx hb dX12_lost_83 (by decide) ?_
                have z71 : (σ55 55 47).toInt = (σ 55 47).toInt := (congrArg Int32.toInt (show σ55 55 47 = (σ 55 47) from ((f58 47 (by decide)).trans m35)))
                exact ihlp17 x22 r56 x66 x70 σ55 _ _ ls (by have h93 := tx70; omega) (by have h93 := tx70; omega) (by have h93 := tx70; omega) (by have h93 := tx70; omega) (fun i hi => ((f57 i hi).trans (f30 i hi))) (fun i hi => ((f58 i hi).trans (f31 i hi)))  p60 I59 hP hS (lv_sub hl [0, 3, 1, 2, 5, 6] rfl)
        exact lp17 1000000 0 (-2000000000) 0 0 σ _ _ ls (by have h90 := jz_0; have h91 := jz_m2000000000; have h92 := jz_0; have h93 := jz_0; omega) (by have h90 := jz_0; have h91 := jz_m2000000000; have h92 := jz_0; have h93 := jz_0; omega) (by have h90 := jz_0; have h91 := jz_m2000000000; have h92 := jz_0; have h93 := jz_0; omega) (by have h90 := jz_0; have h91 := jz_m2000000000; have h92 := jz_0; have h93 := jz_0; omega) (fun _ _ => rfl) (fun _ _ => rfl)  hs_jKept hI119 hP hS hl
      · have kc16 := jnle c16 rfl jz_8
        refine lv_bipush (v := (-4)) hx hb dX12_lost_30 (by decide) ?_
        exact hret (-4) σ τ _ _ _ _ rfl ⟨rfl, (fun _ _ => rfl), (fun _ _ => rfl), hI119, hs_jKept, hs_jBook, hs_jTR, trivial⟩ hP hS dX12_lost_32
    · have kc15 := jeq c15 rfl jz_0
      refine lv_iconst (v := (-1)) hx hb dX12_lost_19 (by decide) ?_
      exact hret (-1) σ τ _ _ _ _ rfl ⟨rfl, (fun _ _ => rfl), (fun _ _ => rfl), hI119, hs_jKept, hs_jBook, hs_jTR, trivial⟩ hP hS dX12_lost_20
  · obtain ⟨q73, k72⟩ := h12
    have q73 := q73.symm
    subst q73
    refine lv_if_eq (tgt := 19) hx hb dX12_lost_9 (by decide) (fun _ => ?_) (fun c => absurd (by decide) c)
    refine lv_iconst (v := (-1)) hx hb dX12_lost_19 (by decide) ?_
    exact hret (-1) σ τ _ _ _ _ rfl ⟨rfl, (fun _ _ => rfl), (fun _ _ => rfl), hI119, hs_jKept, hs_jBook, hs_jTR, trivial⟩ hP hS dX12_lost_20
set_option maxHeartbeats 4000000 in
set_option maxRecDepth 100000 in
theorem c_X12_game (l : Launch) (D : va_G) (cI cL : ClassId) (ad zz : Nat → Nat) (hJ : jD ad) (σ : Nat → Nat → Int32) (τ : Nat → Nat → Int64) (a1 : Int32) (A1 : Int) (t1 : a1.toInt = A1) (a2 : Int32) (A2 : Int) (t2 : a2.toInt = A2) (hI101 : jI101 σ) (hI102 : jI102 σ) (hI103 : jI103 σ) (hI104 : jI104 σ) (hI105 : jI105 σ) (hI106 : jI106 σ) (hI119 : jI119 σ) (hI109 : jI109 σ) (hs_jKept : jKept σ) (hs_jTR : jTR σ) : jM l yX12_game cX12_game 10 (some .int) ({ frames := 104, cells := 0, slots := 0, locals := 5087 }) D cI cL ad zz [.ref (ad 55), .int a1, .int a2] σ τ (fun r σ' τ' => τ = τ' ∧ (∀ i : Nat, (i < 55 ∨ 55 < i) ∧ (i < 66 ∨ 66 < i) ∧ (i < 68 ∨ 69 < i) ∧ (i < 74 ∨ 78 < i) ∧ (i < 82 ∨ 84 < i) → σ' i = σ i) ∧ (∀ k : Nat, (k < 18 ∨ 18 < k) ∧ (k < 19 ∨ 19 < k) ∧ (k < 20 ∨ 20 < k) ∧ (k < 21 ∨ 21 < k) ∧ (k < 22 ∨ 22 < k) ∧ (k < 25 ∨ 25 < k) ∧ (k < 26 ∨ 26 < k) ∧ (k < 27 ∨ 27 < k) ∧ (k < 37 ∨ 37 < k) ∧ (k < 42 ∨ 42 < k) ∧ (k < 50 ∨ 50 < k) → σ' 55 k = σ 55 k) ∧ (jI109 σ') ∧ (jI119 σ') ∧ (jKept σ') ∧ (jTR σ') ∧ True) := by
  refine jM.of hJ (by decide +kernel) (nt := .int) rfl (Nat.le_of_ble_eq_true rfl) ?_
  intro p e s m args below meth c Q ls hC hret hl hP
  obtain ⟨hx, hb, hr, hml, hown, hts, hK, -, hlocks, hZ⟩ := hC
  have hown : s.vm.findClass RX12 = some m.cls := hown
  have hS : va_S (jA ad) s.heap s.heap [] := va_S.rf
  have hA : ∀ q, jA ad q → jA ad q := fun _ h => h
  have hl : lv_has ls 10 [(0, .ref (ad 55)), (1, .int a1), (2, .int a2)] := hl
  have g1 := jrg t1
  have g2 := jrg t2
  obtain ⟨i1, w2, w3⟩ : (0 ≤ (σ 55 6).toInt ∧ (σ 55 6).toInt ≤ 4) ∧ (∀ k : Nat, k < 4 → 0 ≤ (σ 60 k).toInt ∧ (σ 60 k).toInt ≤ 50) ∧ (∀ k : Nat, k < 4 → 0 ≤ (σ 61 k).toInt ∧ (σ 61 k).toInt ≤ 20) := id hI102
  obtain ⟨i4, i5, i6, w7, w8⟩ : (1 ≤ (σ 55 10).toInt ∧ (σ 55 10).toInt ≤ 8) ∧ (1 ≤ (σ 55 12).toInt ∧ (σ 55 12).toInt ≤ 12) ∧ (0 ≤ (σ 55 13).toInt ∧ (σ 55 13).toInt ≤ 999) ∧ (∀ k : Nat, k < 8 → 0 ≤ (σ 62 k).toInt ∧ (σ 62 k).toInt ≤ 3) ∧ (∀ k : Nat, k < 8 → 0 ≤ (σ 67 k).toInt ∧ (σ 67 k).toInt ≤ 3) := id hI104
  obtain ⟨i9, w10, w11, w12⟩ : (0 ≤ (σ 55 32).toInt ∧ (σ 55 32).toInt ≤ 20) ∧ (∀ k : Nat, k < 20 → 0 ≤ (σ 70 k).toInt ∧ (σ 70 k).toInt ≤ 6) ∧ (∀ k : Nat, k < 20 → 0 ≤ (σ 71 k).toInt ∧ (σ 71 k).toInt ≤ 8) ∧ (∀ k : Nat, k < 160 → 0 ≤ (σ 72 k).toInt ∧ (σ 72 k).toInt ≤ 3) := id hI106
  have i13 : 0 ≤ (σ 55 50).toInt ∧ (σ 55 50).toInt ≤ 12 := hI109
  refine lv_aload_n hx hb dX12_game_0 rfl (lv_at hl 0 rfl) ?_
  refine lv_iload_n hx hb dX12_game_1 rfl (lv_at hl 1 rfl) ?_
  refine jcallV (As := [.int a1]) (rest := []) ⟨hx, hb, hml, hown, hts⟩ hK hP hA hS hZ (c_X12_isRule l D cI cL ad zz hJ σ τ a1 (A1) t1 hI106) cw_RX12_331 (jc_55 cI cL ad σ τ) rfl ⟨Nat.le_of_ble_eq_true rfl, Nat.le_of_ble_eq_true rfl⟩ rfl rfl rfl hl.1 rfl (Nat.le_of_ble_eq_true rfl) dX12_game_2 ⟨Nat.zero_le _, Nat.zero_le _⟩ (fun r15 σ14 τ14 H locs h14 hP hS => ?_)
  obtain ⟨⟨rfl, rfl⟩, h14⟩ := h14
  rcases h14 with h16 | h17
  · obtain ⟨q19, k18⟩ := h16
    have q19 := q19.symm
    subst q19
    refine lv_if_ne (tgt := 10) hx hb dX12_game_5 (by decide) (fun _ => ?_) (fun c => absurd c (by decide))
    refine lv_aload_n hx hb dX12_game_10 rfl (lv_at hl 0 rfl) ?_
    refine va_get (D := D) hx hb hts inlX12 hown hK hP 55 (jc_55 cI cL ad σ τ) rfl 12 (by decide) (hts _ kw_8_16) (fun _ h9 => h9) rfl dX12_game_11 ?_
    refine lv_bipush (v := 8) hx hb dX12_game_14 (by decide) ?_
    refine lv_icmp_le (tgt := 22) hx hb dX12_game_16 (by decide) (fun c20 => ?_) (fun c20 => ?_)
    · have kc20 := jle c20 rfl jz_8
      refine lv_aload_n hx hb dX12_game_22 rfl (lv_at hl 0 rfl) ?_
      have w21 : ∀ k : Nat, k < 4 → 0 ≤ (σ 68 k).toInt ∧ (σ 68 k).toInt ≤ 3 := hI119
      refine jcallVv (As := []) (rest := []) ⟨hx, hb, hml, hown, hts⟩ hK hP hA hS hZ (c_X12_begin l D cI cL ad zz hJ σ τ hI104 w21) cw_RX12_256 (jc_55 cI cL ad σ τ) rfl ⟨Nat.le_of_ble_eq_true rfl, Nat.le_of_ble_eq_true rfl⟩ rfl rfl rfl hl.1 rfl (Nat.le_of_ble_eq_true rfl) dX12_game_23 ⟨Nat.zero_le _, Nat.zero_le _⟩ (fun σ22 τ22 H locs h22 hP hS => ?_)
      obtain ⟨rfl, f24, f25, I26, w27, h22⟩ := h22
      obtain ⟨i29, i30, i31, i32, i33, w34⟩ : (0 ≤ (σ22 55 25).toInt) ∧ ((σ22 55 25).toInt ≤ (σ22 55 10).toInt) ∧ (0 ≤ (σ22 55 26).toInt) ∧ ((σ22 55 26).toInt ≤ (σ22 55 12).toInt) ∧ ((-1) ≤ (σ22 55 27).toInt ∧ (σ22 55 27).toInt ≤ 3) ∧ (∀ k : Nat, k < 4 → 0 ≤ (σ22 68 k).toInt ∧ (σ22 68 k).toInt ≤ 3) := id I26
      have z35 : (σ22 55 10).toInt = (σ 55 10).toInt := (congrArg Int32.toInt (show σ22 55 10 = (σ 55 10) from (f25 10 (by decide))))
      have z36 : (σ22 55 12).toInt = (σ 55 12).toInt := (congrArg Int32.toInt (show σ22 55 12 = (σ 55 12) from (f25 12 (by decide))))
      obtain ⟨k37, k38, k39, h22⟩ := h22
      refine lv_aload_n hx hb dX12_game_26 rfl (lv_at hl 0 rfl) ?_
      refine jcallVv (As := []) (rest := []) ⟨hx, hb, hml, hown, hts⟩ hK hP hA hS hZ (c_X12_forgets l D cI cL ad zz hJ σ22 τ) cw_RX12_341 (jc_55 cI cL ad σ22 τ) rfl ⟨Nat.le_of_ble_eq_true rfl, Nat.le_of_ble_eq_true rfl⟩ rfl rfl rfl hl.1 rfl (Nat.le_of_ble_eq_true rfl) dX12_game_27 ⟨Nat.zero_le _, Nat.zero_le _⟩ (fun σ40 τ40 H locs h40 hP hS => ?_)
      obtain ⟨rfl, f42, f43, h40⟩ := h40
      refine lv_aload_n hx hb dX12_game_30 rfl (lv_at hl 0 rfl) ?_
      refine lv_iconst (v := 0) hx hb dX12_game_31 (by decide) ?_
      refine jput (ty := .int) hx hb hts inlX12 tyX12 tyX12_ok nmX12 hown hK hP hJ hA hS (jc_55 cI cL ad σ40 τ) rfl (k := 50) (by decide) (Nat.le_of_ble_eq_true rfl) (jp_55_50 cI cL ad σ40 τ 0) (hts _ kw_46_13) (fun _ h9 => h9) rfl (by decide +kernel) rfl rfl dX12_game_32 (fun σ45 H locs eσ45 hP hS => ?_)
      refine lv_iload_n hx hb dX12_game_35 rfl (lv_at hl 2 rfl) ?_
      refine lv_istore_n (lv' := [(3, .int a2), (0, .ref (ad 55)), (1, .int a1), (2, .int a2)]) hx hb dX12_game_36 rfl hl (by decide) rfl (fun ls hl => ?_)
      refine lv_iconst (v := 0) hx hb dX12_game_37 (by decide) ?_
      refine lv_istore (lv' := [(4, .int 0), (3, .int a2), (0, .ref (ad 55)), (1, .int a1), (2, .int a2)]) hx hb dX12_game_38 hl (by decide) rfl (fun ls hl => ?_)
      refine lv_iconst (v := 0) hx hb dX12_game_40 (by decide) ?_
      refine lv_istore (lv' := [(5, .int 0), (4, .int 0), (3, .int a2), (0, .ref (ad 55)), (1, .int a1), (2, .int a2)]) hx hb dX12_game_41 hl (by decide) rfl (fun ls hl => ?_)
      have z56 : (σ45 55 50).toInt = 0 := ((congrArg Int32.toInt (show σ45 55 50 = 0 from (jsp eσ45))).trans jz_0)
      have I57 : jI109 σ45 := (show 0 ≤ (σ45 55 50).toInt ∧ (σ45 55 50).toInt ≤ 12 by omega)
      have w58 : ∀ k : Nat, k < 4 → 0 ≤ (σ45 68 k).toInt ∧ (σ45 68 k).toInt ≤ 3 := (jrr_fr (jnp 68 eσ45 (by decide)) (jrr_fr (f42 68 (by decide)) w34))
      have I59 : jI119 σ45 := w58
      have z60 : (σ45 55 12).toInt = (σ 55 12).toInt := (congrArg Int32.toInt (show σ45 55 12 = (σ 55 12) from ((jkp 12 eσ45 (by decide)).trans ((f43 12 (by decide)).trans (f25 12 (by decide))))))
      have z61 : (σ45 55 26).toInt = (σ22 55 26).toInt := (congrArg Int32.toInt (show σ45 55 26 = (σ22 55 26) from ((jkp 26 eσ45 (by decide)).trans (f43 26 (by decide)))))
      have z62 : (σ45 55 25).toInt = (σ22 55 25).toInt := (congrArg Int32.toInt (show σ45 55 25 = (σ22 55 25) from ((jkp 25 eσ45 (by decide)).trans (f43 25 (by decide)))))
      have z63 : (σ45 55 10).toInt = (σ 55 10).toInt := (congrArg Int32.toInt (show σ45 55 10 = (σ 55 10) from ((jkp 10 eσ45 (by decide)).trans ((f43 10 (by decide)).trans (f25 10 (by decide))))))
      have z64 : (σ45 55 27).toInt = (σ22 55 27).toInt := (congrArg Int32.toInt (show σ45 55 27 = (σ22 55 27) from ((jkp 27 eσ45 (by decide)).trans (f43 27 (by decide)))))
      have p66 : jKept σ45 := jKept.fr ((jnp 75 eσ45 (by decide)).trans ((f42 75 (by decide)).trans (f24 75 (by decide)))) ((jnp 76 eσ45 (by decide)).trans ((f42 76 (by decide)).trans (f24 76 (by decide)))) ((jnp 77 eσ45 (by decide)).trans ((f42 77 (by decide)).trans (f24 77 (by decide)))) hs_jKept
      have lp46 : ∀ (n47 : Nat) (x48 : Int32) (x49 : Int32) (x50 : Int32) (σ55 : Nat → Nat → Int32) (H : Heap) (locs : List Loc) (ls : Array Slot), ((σ55 55 12).toInt - (σ55 55 26).toInt : Int) < n47 → 0 ≤ (σ55 55 25).toInt → (σ55 55 25).toInt ≤ (σ55 55 10).toInt → 0 ≤ (σ55 55 26).toInt → (σ55 55 26).toInt ≤ (σ55 55 12).toInt → (-1) ≤ (σ55 55 27).toInt ∧ (σ55 55 27).toInt ≤ 3 → (σ55 55 50).toInt = (σ55 55 26).toInt → (∀ i : Nat, (i < 55 ∨ 55 < i) ∧ (i < 66 ∨ 66 < i) ∧ (i < 68 ∨ 69 < i) ∧ (i < 74 ∨ 78 < i) ∧ (i < 82 ∨ 84 < i) → σ55 i = σ45 i) → (∀ k : Nat, (k < 18 ∨ 18 < k) ∧ (k < 19 ∨ 19 < k) ∧ (k < 20 ∨ 20 < k) ∧ (k < 21 ∨ 21 < k) ∧ (k < 22 ∨ 22 < k) ∧ (k < 25 ∨ 25 < k) ∧ (k < 26 ∨ 26 < k) ∧ (k < 27 ∨ 27 < k) ∧ (k < 37 ∨ 37 < k) ∧ (k < 50 ∨ 50 < k) → σ55 55 k = σ45 55 k) → jKept σ55 → jI109 σ55 → jI119 σ55 → jH D cI cL ad σ55 τ H → va_S (jA ad) s.heap H locs → lv_has ls 10 [(5, .int x50), (4, .int x49), (3, .int x48), (0, .ref (ad 55)), (1, .int a1), (2, .int a2)] → W p l e ({ frames := 104, cells := 0, slots := 0, locals := 5087 }) s m args below meth c H locs 0 0 Q (F0 m 43 ls []) := by
        intro n47
        induction n47 with
        | zero => intro x48 x49 x50 σ55 H locs ls h67 h68 h69 h70 h71 h72 h73; have gx48 := jrg (rfl : x48.toInt = x48.toInt); have gx49 := jrg (rfl : x49.toInt = x49.toInt); have gx50 := jrg (rfl : x50.toInt = x50.toInt); exact absurd h67 (by omega)
        | succ n47 ihlp46 =>
          intro x48 x49 x50 σ55 H locs ls h67 h68 h69 h70 h71 h72 h73 f74 f75 p76 p77 p78 hP hS hl
          have gx48 := jrg (rfl : x48.toInt = x48.toInt); have gx49 := jrg (rfl : x49.toInt = x49.toInt); have gx50 := jrg (rfl : x50.toInt = x50.toInt)
          have i79 : 0 ≤ (σ55 55 50).toInt ∧ (σ55 55 50).toInt ≤ 12 := p77
          have z80 : (σ55 55 12).toInt = (σ 55 12).toInt := (congrArg Int32.toInt (show σ55 55 12 = (σ 55 12) from ((f75 12 (by decide)).trans ((jkp 12 eσ45 (by decide)).trans ((f43 12 (by decide)).trans (f25 12 (by decide)))))))
          have z81 : (σ55 55 10).toInt = (σ 55 10).toInt := (congrArg Int32.toInt (show σ55 55 10 = (σ 55 10) from ((f75 10 (by decide)).trans ((jkp 10 eσ45 (by decide)).trans ((f43 10 (by decide)).trans (f25 10 (by decide)))))))
          refine lv_iload hx hb dX12_game_43 (lv_at hl 0 rfl) ?_
          refine lv_if_ne (tgt := 233) hx hb dX12_game_45 (by decide) (fun c82 => ?_) (fun c82 => ?_)
          · have kc82 := jne c82 rfl jz_0
            refine lv_iload hx hb dX12_game_233 (lv_at hl 1 rfl) ?_
            have p83 : jTR σ55 := jTR.fr ((f74 64 (by decide)).trans ((jnp 64 eσ45 (by decide)).trans ((f42 64 (by decide)).trans (f24 64 (by decide))))) ((f74 65 (by decide)).trans ((jnp 65 eσ45 (by decide)).trans ((f42 65 (by decide)).trans (f24 65 (by decide))))) hs_jTR
            exact hret x49 σ55 τ _ _ _ _ rfl ⟨rfl, (fun i hi => ((f74 i hi).trans ((jnp i eσ45 (imp_282 i hi)).trans ((f42 i (imp_283 i hi)).trans (f24 i (imp_284 i hi)))))), (fun i hi => ((f75 i (imp_285 i hi)).trans ((jkp i eσ45 (imp_286 i hi)).trans ((f43 i (imp_287 i hi)).trans (f25 i (imp_288 i hi)))))), p77, p78, p76, p83, trivial⟩ hP hS dX12_game_235
          · have kc82 := jeq c82 rfl jz_0
            refine lv_aload_n hx hb dX12_game_48 rfl (lv_at hl 3 rfl) ?_
            have I84 : jI102 σ55 := jI102_fr ((f75 6 (by decide)).trans ((jkp 6 eσ45 (by decide)).trans ((f43 6 (by decide)).trans (f25 6 (by decide))))) ((f74 60 (by decide)).trans ((jnp 60 eσ45 (by decide)).trans ((f42 60 (by decide)).trans (f24 60 (by decide))))) ((f74 61 (by decide)).trans ((jnp 61 eσ45 (by decide)).trans ((f42 61 (by decide)).trans (f24 61 (by decide))))) hI102
            have I85 : jI104 σ55 := jI104_fr ((f75 10 (by decide)).trans ((jkp 10 eσ45 (by decide)).trans ((f43 10 (by decide)).trans (f25 10 (by decide))))) ((f75 12 (by decide)).trans ((jkp 12 eσ45 (by decide)).trans ((f43 12 (by decide)).trans (f25 12 (by decide))))) ((f75 13 (by decide)).trans ((jkp 13 eσ45 (by decide)).trans ((f43 13 (by decide)).trans (f25 13 (by decide))))) ((f74 62 (by decide)).trans ((jnp 62 eσ45 (by decide)).trans ((f42 62 (by decide)).trans (f24 62 (by decide))))) ((f74 67 (by decide)).trans ((jnp 67 eσ45 (by decide)).trans ((f42 67 (by decide)).trans (f24 67 (by decide))))) hI104
            have w86 : ∀ k : Nat, k < 4 → 0 ≤ (σ55 68 k).toInt ∧ (σ55 68 k).toInt ≤ 3 := p78
            have I87 : jI120 σ55 := ⟨(by omega), (by omega), (by omega), (by omega), (by omega), w86⟩
            refine jcallV (As := []) (rest := []) ⟨hx, hb, hml, hown, hts⟩ hK hP hA hS hZ (c_X12_isEnded l D cI cL ad zz hJ σ55 τ I84 I85 I87) cw_RX12_307 (jc_55 cI cL ad σ55 τ) rfl ⟨Nat.le_of_ble_eq_true rfl, Nat.le_of_ble_eq_true rfl⟩ rfl rfl rfl hl.1 rfl (Nat.le_of_ble_eq_true rfl) dX12_game_49 ⟨Nat.zero_le _, Nat.zero_le _⟩ (fun r89 σ88 τ88 H locs h88 hP hS => ?_)
            obtain ⟨⟨rfl, rfl⟩, h88⟩ := h88
            rcases h88 with h90 | h91
            · obtain ⟨q93, k92⟩ := h90
              have q93 := q93.symm
              subst q93
              refine lv_if_ne (tgt := 233) hx hb dX12_game_52 (by decide) (fun _ => ?_) (fun c => absurd c (by decide))
              refine lv_iload hx hb dX12_game_233 (lv_at hl 1 rfl) ?_
              have p94 : jTR σ55 := jTR.fr ((f74 64 (by decide)).trans ((jnp 64 eσ45 (by decide)).trans ((f42 64 (by decide)).trans (f24 64 (by decide))))) ((f74 65 (by decide)).trans ((jnp 65 eσ45 (by decide)).trans ((f42 65 (by decide)).trans (f24 65 (by decide))))) hs_jTR
              exact hret x49 σ55 τ _ _ _ _ rfl ⟨rfl, (fun i hi => ((f74 i hi).trans ((jnp i eσ45 (imp_282 i hi)).trans ((f42 i (imp_283 i hi)).trans (f24 i (imp_284 i hi)))))), (fun i hi => ((f75 i (imp_285 i hi)).trans ((jkp i eσ45 (imp_286 i hi)).trans ((f43 i (imp_287 i hi)).trans (f25 i (imp_288 i hi)))))), p77, p78, p76, p94, trivial⟩ hP hS dX12_game_235
            · obtain ⟨q98, k95, k96, k97⟩ := h91
              have q98 := q98.symm
              subst q98
              obtain ⟨B99, k100, k101, w102⟩ := k97
              have z103 : (σ55 55 6).toInt = (σ 55 6).toInt := (congrArg Int32.toInt (show σ55 55 6 = (σ 55 6) from ((f75 6 (by decide)).trans ((jkp 6 eσ45 (by decide)).trans ((f43 6 (by decide)).trans (f25 6 (by decide)))))))
              refine lv_if_ne (tgt := 233) hx hb dX12_game_52 (by decide) (fun c => absurd (by decide) c) (fun _ => ?_)
              refine lv_aload_n hx hb dX12_game_55 rfl (lv_at hl 3 rfl) ?_
              refine lv_iload_n hx hb dX12_game_56 rfl (lv_at hl 4 rfl) ?_
              have p104 : jmb σ55 B99 = 1 := (jmb_fr rfl rfl rfl rfl rfl B99).trans w102
              have I105 : jI101 σ55 := jI101_fr ((f75 4 (by decide)).trans ((jkp 4 eσ45 (by decide)).trans ((f43 4 (by decide)).trans (f25 4 (by decide))))) ((f75 5 (by decide)).trans ((jkp 5 eσ45 (by decide)).trans ((f43 5 (by decide)).trans (f25 5 (by decide))))) ((f74 56 (by decide)).trans ((jnp 56 eσ45 (by decide)).trans ((f42 56 (by decide)).trans (f24 56 (by decide))))) ((f74 57 (by decide)).trans ((jnp 57 eσ45 (by decide)).trans ((f42 57 (by decide)).trans (f24 57 (by decide))))) ((f74 58 (by decide)).trans ((jnp 58 eσ45 (by decide)).trans ((f42 58 (by decide)).trans (f24 58 (by decide))))) ((f74 59 (by decide)).trans ((jnp 59 eσ45 (by decide)).trans ((f42 59 (by decide)).trans (f24 59 (by decide))))) hI101
              have I106 : jI103 σ55 := jI103_fr ((f75 9 (by decide)).trans ((jkp 9 eσ45 (by decide)).trans ((f43 9 (by decide)).trans (f25 9 (by decide))))) hI103
              have I107 : jI105 σ55 := jI105_fr ((f75 15 (by decide)).trans ((jkp 15 eσ45 (by decide)).trans ((f43 15 (by decide)).trans (f25 15 (by decide))))) ((f74 65 (by decide)).trans ((jnp 65 eσ45 (by decide)).trans ((f42 65 (by decide)).trans (f24 65 (by decide))))) hI105
              have I108 : jI106 σ55 := jI106_fr ((f75 32 (by decide)).trans ((jkp 32 eσ45 (by decide)).trans ((f43 32 (by decide)).trans (f25 32 (by decide))))) ((f74 70 (by decide)).trans ((jnp 70 eσ45 (by decide)).trans ((f42 70 (by decide)).trans (f24 70 (by decide))))) ((f74 71 (by decide)).trans ((jnp 71 eσ45 (by decide)).trans ((f42 71 (by decide)).trans (f24 71 (by decide))))) ((f74 72 (by decide)).trans ((jnp 72 eσ45 (by decide)).trans ((f42 72 (by decide)).trans (f24 72 (by decide))))) hI106
              have p109 : jTR σ55 := jTR.fr ((f74 64 (by decide)).trans ((jnp 64 eσ45 (by decide)).trans ((f42 64 (by decide)).trans (f24 64 (by decide))))) ((f74 65 (by decide)).trans ((jnp 65 eσ45 (by decide)).trans ((f42 65 (by decide)).trans (f24 65 (by decide))))) hs_jTR
              have z110 : (σ55 70 a1.toNatClampNeg).toInt = (σ 70 a1.toNatClampNeg).toInt := by rw [f74 70 (by decide), jnp 70 eσ45 (by decide), f42 70 (by decide), f24 70 (by decide)]
              refine jcallV (As := [.int a1]) (rest := []) ⟨hx, hb, hml, hown, hts⟩ hK hP hA hS hZ (c_X12_putsOn l D cI cL ad zz hJ σ55 τ B99 p104 a1 (A1) t1 I105 I84 I106 I85 I107 I108 I87 p76 p109 (by omega) (by omega) (by omega) (by omega) (by omega)) cw_RX12_321 (jc_55 cI cL ad σ55 τ) rfl ⟨Nat.le_of_ble_eq_true rfl, Nat.le_of_ble_eq_true rfl⟩ rfl rfl rfl hl.1 rfl (Nat.le_of_ble_eq_true rfl) dX12_game_57 ⟨Nat.zero_le _, Nat.zero_le _⟩ (fun r112 σ111 τ111 H locs h111 hP hS => ?_)
              obtain ⟨rfl, f113, f114, p115, p116, h111⟩ := h111
              have h118 := h111
              obtain ⟨q120, k119⟩ := h118
              refine lv_istore (lv' := [(6, .int r112), (5, .int x50), (4, .int x49), (3, .int x48), (0, .ref (ad 55)), (1, .int a1), (2, .int a2)]) hx hb dX12_game_60 hl (by decide) rfl (fun ls hl => ?_)
              refine lv_aload_n hx hb dX12_game_62 rfl (lv_at hl 4 rfl) ?_
              refine va_get (D := D) hx hb hts inlX12 hown hK hP 55 (jc_55 cI cL ad σ111 τ) rfl 11 (by decide) (hts _ kw_7_8) (fun _ h9 => h9) rfl dX12_game_63 ?_
              refine lv_aload_n hx hb dX12_game_66 rfl (lv_at hl 4 rfl) ?_
              refine va_get (D := D) hx hb hts inlX12 hown hK hP 55 (jc_55 cI cL ad σ111 τ) rfl 25 (by decide) (hts _ kw_23_6) (fun _ h9 => h9) rfl dX12_game_67 ?_
              have m121 : σ111 55 25 = (σ55 55 25) := (f114 25 (by decide))
              refine jtopr m121 ?_
              refine jald hx hb hK hP (jc_62 cI cL ad σ111 τ) (jin rfl (by omega) (by omega)) dX12_game_70 ?_
              have w122 : ∀ k : Nat, k < 8 → 0 ≤ (σ111 62 k).toInt ∧ (σ111 62 k).toInt ≤ 3 := (jrr_fr (f113 62 (by decide)) (jrr_fr (f74 62 (by decide)) (jrr_fr (jnp 62 eσ45 (by decide)) (jrr_fr (f42 62 (by decide)) (jrr_fr (f24 62 (by decide)) w7)))))
              have g123 := w122 _ (jnat (x := (σ55 55 25)) rfl (n := 8) (by omega) (by decide))
              refine lv_topi (fun x124 ex124 => ?_)
              rw [← ex124] at g123
              refine lv_istore (lv' := [(7, .int x124), (6, .int r112), (5, .int x50), (4, .int x49), (3, .int x48), (0, .ref (ad 55)), (1, .int a1), (2, .int a2)]) hx hb dX12_game_71 hl (by decide) rfl (fun ls hl => ?_)
              refine lv_aload_n hx hb dX12_game_73 rfl (lv_at hl 5 rfl) ?_
              refine lv_iload hx hb dX12_game_74 (lv_at hl 1 rfl) ?_
              refine lv_iload hx hb dX12_game_76 (lv_at hl 0 rfl) ?_
              have I125 : jI101 σ111 := jI101_fr (f114 4 (by decide)) (f114 5 (by decide)) (f113 56 (by decide)) (f113 57 (by decide)) (f113 58 (by decide)) (f113 59 (by decide)) I105
              have I126 : jI102 σ111 := jI102_fr (f114 6 (by decide)) (f113 60 (by decide)) (f113 61 (by decide)) I84
              have I127 : jI103 σ111 := jI103_fr (f114 9 (by decide)) I106
              have I128 : jI105 σ111 := jI105_fr (f114 15 (by decide)) (f113 65 (by decide)) I107
              have w129 : ∀ k : Nat, k < 4 → 0 ≤ (σ111 68 k).toInt ∧ (σ111 68 k).toInt ≤ 3 := (jrr_fr (f113 68 (by decide)) w86)
              refine jcallV (As := [.int r112, .int x124]) (rest := []) ⟨hx, hb, hml, hown, hts⟩ hK hP hA hS hZ (c_X12_outBy l D cI cL ad zz hJ σ111 τ r112 (r112.toInt) rfl x124 (x124.toInt) rfl I125 I126 I127 I128 w129 p116 (by omega) (by omega)) cw_RX12_259 (jc_55 cI cL ad σ111 τ) rfl ⟨Nat.le_of_ble_eq_true rfl, Nat.le_of_ble_eq_true rfl⟩ rfl rfl rfl hl.1 rfl (Nat.le_of_ble_eq_true rfl) dX12_game_78 ⟨Nat.zero_le _, Nat.zero_le _⟩ (fun r131 σ130 τ130 H locs h130 hP hS => ?_)
              obtain ⟨rfl, f132, f133, p134, w135, h130⟩ := h130
              have h137 := h130
              obtain ⟨q139, k138⟩ := h137
              refine lv_istore (lv' := [(8, .int r131), (7, .int x124), (6, .int r112), (5, .int x50), (4, .int x49), (3, .int x48), (0, .ref (ad 55)), (1, .int a1), (2, .int a2)]) hx hb dX12_game_81 hl (by decide) rfl (fun ls hl => ?_)
              refine lv_aload_n hx hb dX12_game_83 rfl (lv_at hl 6 rfl) ?_
              refine va_get (D := D) hx hb hts inlX12 hown hK hP 55 (jc_55 cI cL ad σ130 τ) rfl 51 (by decide) (hts _ kw_8_7) (fun _ h9 => h9) rfl dX12_game_84 ?_
              refine lv_aload_n hx hb dX12_game_87 rfl (lv_at hl 6 rfl) ?_
              refine va_get (D := D) hx hb hts inlX12 hown hK hP 55 (jc_55 cI cL ad σ130 τ) rfl 50 (by decide) (hts _ kw_46_13) (fun _ h9 => h9) rfl dX12_game_88 ?_
              have m140 : σ130 55 50 = (σ55 55 50) := ((f133 50 (by decide)).trans (f114 50 (by decide)))
              refine jtopr m140 ?_
              refine lv_iload hx hb dX12_game_91 (lv_at hl 2 rfl) ?_
              refine jast hx hb hK hP hJ hA hS (jc_82 cI cL ad σ130 τ) (ja_82 cI cL ad σ130 τ _ _) (jin rfl (by omega) (by omega)) dX12_game_93 (fun σ141 H locs eσ141 hP hS => ?_)
              refine lv_aload_n hx hb dX12_game_94 rfl (lv_at hl 6 rfl) ?_
              refine va_get (D := D) hx hb hts inlX12 hown hK hP 55 (jc_55 cI cL ad σ141 τ) rfl 52 (by decide) (hts _ kw_8_8) (fun _ h9 => h9) rfl dX12_game_95 ?_
              refine lv_aload_n hx hb dX12_game_98 rfl (lv_at hl 6 rfl) ?_
              refine va_get (D := D) hx hb hts inlX12 hown hK hP 55 (jc_55 cI cL ad σ141 τ) rfl 50 (by decide) (hts _ kw_46_13) (fun _ h9 => h9) rfl dX12_game_99 ?_
              have m142 : σ141 55 50 = (σ55 55 50) := ((congrFun (jnp 55 eσ141 (by decide)) 50).trans m140)
              refine jtopr m142 ?_
              refine lv_aload_n hx hb dX12_game_102 rfl (lv_at hl 6 rfl) ?_
              refine lv_iload hx hb dX12_game_103 (lv_at hl 2 rfl) ?_
              refine lv_iload hx hb dX12_game_105 (lv_at hl 1 rfl) ?_
              have I143 : jI101 σ141 := jI101_fr ((congrFun (jnp 55 eσ141 (by decide)) 4).trans (f133 4 (by decide))) ((congrFun (jnp 55 eσ141 (by decide)) 5).trans (f133 5 (by decide))) ((jnp 56 eσ141 (by decide)).trans (f132 56 (by decide))) ((jnp 57 eσ141 (by decide)).trans (f132 57 (by decide))) ((jnp 58 eσ141 (by decide)).trans (f132 58 (by decide))) ((jnp 59 eσ141 (by decide)).trans (f132 59 (by decide))) I125
              have I144 : jI102 σ141 := jI102_fr ((congrFun (jnp 55 eσ141 (by decide)) 6).trans (f133 6 (by decide))) ((jnp 60 eσ141 (by decide)).trans (f132 60 (by decide))) ((jnp 61 eσ141 (by decide)).trans (f132 61 (by decide))) I126
              have I145 : jI103 σ141 := jI103_fr ((congrFun (jnp 55 eσ141 (by decide)) 9).trans (f133 9 (by decide))) I127
              have w146 : ∀ k : Nat, k < 4 → 0 ≤ (σ141 68 k).toInt ∧ (σ141 68 k).toInt ≤ 3 := (jrr_fr (jnp 68 eσ141 (by decide)) (jrr_fr (f132 68 (by decide)) w129))
              refine jcallV (As := [.int r112, .int x124]) (rest := [.int (σ55 55 50), .ref (ad 83)]) ⟨hx, hb, hml, hown, hts⟩ hK hP hA hS hZ (c_X12_runsBy l D cI cL ad zz hJ σ141 τ r112 (r112.toInt) rfl x124 (x124.toInt) rfl I143 I144 I145 w146 (by omega) (by omega)) cw_RX12_262 (jc_55 cI cL ad σ141 τ) rfl ⟨Nat.le_of_ble_eq_true rfl, Nat.le_of_ble_eq_true rfl⟩ rfl rfl rfl hl.1 rfl (Nat.le_of_ble_eq_true rfl) dX12_game_107 ⟨Nat.zero_le _, Nat.zero_le _⟩ (fun r148 σ147 τ147 H locs h147 hP hS => ?_)
              obtain ⟨⟨rfl, rfl⟩, w149, h147⟩ := h147
              have h150 := h147
              obtain ⟨q152, k151⟩ := h150
              refine jast hx hb hK hP hJ hA hS (jc_83 cI cL ad σ141 τ) (ja_83 cI cL ad σ141 τ _ _) (jin rfl (by omega) (by omega)) dX12_game_110 (fun σ153 H locs eσ153 hP hS => ?_)
              refine lv_iload hx hb dX12_game_111 (lv_at hl 4 rfl) ?_
              refine lv_aload_n hx hb dX12_game_113 rfl (lv_at hl 6 rfl) ?_
              refine va_get (D := D) hx hb hts inlX12 hown hK hP 55 (jc_55 cI cL ad σ153 τ) rfl 52 (by decide) (hts _ kw_8_8) (fun _ h9 => h9) rfl dX12_game_114 ?_
              refine lv_aload_n hx hb dX12_game_117 rfl (lv_at hl 6 rfl) ?_
              refine va_get (D := D) hx hb hts inlX12 hown hK hP 55 (jc_55 cI cL ad σ153 τ) rfl 50 (by decide) (hts _ kw_46_13) (fun _ h9 => h9) rfl dX12_game_118 ?_
              have m154 : σ153 55 50 = (σ55 55 50) := ((congrFun (jnp 55 eσ153 (by decide)) 50).trans m142)
              refine jtopr m154 ?_
              refine jald hx hb hK hP (jc_83 cI cL ad σ153 τ) (jin rfl (by omega) (by omega)) dX12_game_121 ?_
              refine lv_topi (fun x155 ex155 => ?_)
              have g156 := jrg (rfl : x49.toInt = x49.toInt)
              have g157 := jrg (rfl : x155.toInt = x155.toInt)
              refine lv_iadd hx hb dX12_game_122 ?_
              refine lv_topi (fun x158 ex158 => ?_)
              have gx158 := jrg (rfl : x158.toInt = x158.toInt)
              refine lv_istore (lv' := [(4, .int x158), (8, .int r131), (7, .int x124), (6, .int r112), (5, .int x50), (3, .int x48), (0, .ref (ad 55)), (1, .int a1), (2, .int a2)]) hx hb dX12_game_123 hl (by decide) rfl (fun ls hl => ?_)
              refine lv_iload_n hx hb dX12_game_125 rfl (lv_at hl 5 rfl) ?_
              refine lv_ldcw (v := 1103515245) hx hb hown (hts _ kw_46_14) dX12_game_126 ?_
              have g159 := jrg (rfl : x48.toInt = x48.toInt)
              refine lv_imul hx hb dX12_game_129 ?_
              refine lv_topi (fun x160 ex160 => ?_)
              have gx160 := jrg (rfl : x160.toInt = x160.toInt)
              refine lv_sipush (v := 12345) hx hb dX12_game_130 (by decide) ?_
              have g161 := jrg (rfl : x160.toInt = x160.toInt)
              refine lv_iadd hx hb dX12_game_133 ?_
              refine lv_topi (fun x162 ex162 => ?_)
              have gx162 := jrg (rfl : x162.toInt = x162.toInt)
              refine lv_istore_n (lv' := [(3, .int x162), (4, .int x158), (8, .int r131), (7, .int x124), (6, .int r112), (5, .int x50), (0, .ref (ad 55)), (1, .int a1), (2, .int a2)]) hx hb dX12_game_134 rfl hl (by decide) rfl (fun ls hl => ?_)
              refine lv_aload_n hx hb dX12_game_135 rfl (lv_at hl 6 rfl) ?_
              refine va_get (D := D) hx hb hts inlX12 hown hK hP 55 (jc_55 cI cL ad σ153 τ) rfl 53 (by decide) (hts _ kw_8_9) (fun _ h9 => h9) rfl dX12_game_136 ?_
              refine lv_aload_n hx hb dX12_game_139 rfl (lv_at hl 6 rfl) ?_
              refine va_get (D := D) hx hb hts inlX12 hown hK hP 55 (jc_55 cI cL ad σ153 τ) rfl 50 (by decide) (hts _ kw_46_13) (fun _ h9 => h9) rfl dX12_game_140 ?_
              refine jtopr m154 ?_
              refine lv_iload_n hx hb dX12_game_143 rfl (lv_at hl 0 rfl) ?_
              refine lv_bipush (v := 8) hx hb dX12_game_144 (by decide) ?_
              refine lv_iushr hx hb dX12_game_146 rfl ?_
              refine lv_topi (fun x163 ex163 => ?_)
              have gx163 := jrg (rfl : x163.toInt = x163.toInt)
              have g164 : 0 ≤ x163.toInt ∧ x163.toInt ≤ 16777215 := jushr8 ex163
              refine lv_sipush (v := 1000) hx hb dX12_game_147 (by decide) ?_
              refine lv_irem hx hb dX12_game_150 (by decide) ?_
              refine lv_topi (fun x165 ex165 => ?_)
              have tx165 : x165.toInt = (x163.toInt % 1000) := jrem ex165 rfl jz_1000 (by omega)
              refine lv_iload hx hb dX12_game_151 (lv_at hl 2 rfl) ?_
              refine lv_icmp_ge (tgt := 160) hx hb dX12_game_153 (by decide) (fun c166 => ?_) (fun c166 => ?_)
              · have kc166 := jle c166 rfl tx165
                refine lv_iconst (v := 0) hx hb dX12_game_160 (by decide) ?_
                refine jast hx hb hK hP hJ hA hS (jc_84 cI cL ad σ153 τ) (ja_84 cI cL ad σ153 τ _ _) (jin rfl (by omega) (by omega)) dX12_game_161 (fun σ167 H locs eσ167 hP hS => ?_)
                refine lv_aload_n hx hb dX12_game_162 rfl (lv_at hl 6 rfl) ?_
                refine lv_iload hx hb dX12_game_163 (lv_at hl 4 rfl) ?_
                refine lv_aload_n hx hb dX12_game_165 rfl (lv_at hl 6 rfl) ?_
                refine va_get (D := D) hx hb hts inlX12 hown hK hP 55 (jc_55 cI cL ad σ167 τ) rfl 53 (by decide) (hts _ kw_8_9) (fun _ h9 => h9) rfl dX12_game_166 ?_
                refine lv_aload_n hx hb dX12_game_169 rfl (lv_at hl 6 rfl) ?_
                refine va_get (D := D) hx hb hts inlX12 hown hK hP 55 (jc_55 cI cL ad σ167 τ) rfl 50 (by decide) (hts _ kw_46_13) (fun _ h9 => h9) rfl dX12_game_170 ?_
                have m168 : σ167 55 50 = (σ55 55 50) := ((congrFun (jnp 55 eσ167 (by decide)) 50).trans m154)
                refine jtopr m168 ?_
                refine jald hx hb hK hP (jc_84 cI cL ad σ167 τ) (jin rfl (by omega) (by omega)) dX12_game_173 ?_
                refine lv_topi (fun x169 ex169 => ?_)
                refine lv_iconst (v := 1) hx hb dX12_game_174 (by decide) ?_
                refine lv_icmp_ne (tgt := 182) hx hb dX12_game_175 (by decide) (fun c170 => ?_) (fun c170 => ?_)
                · have kc170 := jne c170 rfl jz_1
                  refine lv_iconst (v := 0) hx hb dX12_game_182 (by decide) ?_
                  have w171 : ∀ k : Nat, k < 4 → 0 ≤ (σ167 68 k).toInt ∧ (σ167 68 k).toInt ≤ 3 := (jrr_fr (jnp 68 eσ167 (by decide)) (jrr_fr (jnp 68 eσ153 (by decide)) w146))
                  have z172 : (σ167 55 6).toInt = (σ 55 6).toInt := (congrArg Int32.toInt (show σ167 55 6 = (σ 55 6) from ((congrFun (jnp 55 eσ167 (by decide)) 6).trans ((congrFun (jnp 55 eσ153 (by decide)) 6).trans ((congrFun (jnp 55 eσ141 (by decide)) 6).trans ((f133 6 (by decide)).trans ((f114 6 (by decide)).trans ((f75 6 (by decide)).trans ((jkp 6 eσ45 (by decide)).trans ((f43 6 (by decide)).trans (f25 6 (by decide))))))))))))
                  have z173 : (σ167 55 27).toInt = (σ55 55 27).toInt := (congrArg Int32.toInt (show σ167 55 27 = (σ55 55 27) from ((congrFun (jnp 55 eσ167 (by decide)) 27).trans ((congrFun (jnp 55 eσ153 (by decide)) 27).trans ((congrFun (jnp 55 eσ141 (by decide)) 27).trans ((f133 27 (by decide)).trans (f114 27 (by decide))))))))
                  have z174 : (σ167 55 25).toInt = (σ55 55 25).toInt := (congrArg Int32.toInt (show σ167 55 25 = (σ55 55 25) from ((congrFun (jnp 55 eσ167 (by decide)) 25).trans ((congrFun (jnp 55 eσ153 (by decide)) 25).trans ((congrFun (jnp 55 eσ141 (by decide)) 25).trans ((f133 25 (by decide)).trans m121))))))
                  have z175 : (σ167 55 26).toInt = (σ55 55 26).toInt := (congrArg Int32.toInt (show σ167 55 26 = (σ55 55 26) from ((congrFun (jnp 55 eσ167 (by decide)) 26).trans ((congrFun (jnp 55 eσ153 (by decide)) 26).trans ((congrFun (jnp 55 eσ141 (by decide)) 26).trans ((f133 26 (by decide)).trans (f114 26 (by decide))))))))
                  have z176 : (σ167 68 0).toInt = (σ55 68 0).toInt := (congrArg Int32.toInt (show σ167 68 0 = (σ55 68 0) from ((congrFun (jnp 68 eσ167 (by decide)) 0).trans ((congrFun (jnp 68 eσ153 (by decide)) 0).trans ((congrFun (jnp 68 eσ141 (by decide)) 0).trans ((congrFun (f132 68 (by decide)) 0).trans (congrFun (f113 68 (by decide)) 0)))))))
                  have z177 : (σ167 68 1).toInt = (σ55 68 1).toInt := (congrArg Int32.toInt (show σ167 68 1 = (σ55 68 1) from ((congrFun (jnp 68 eσ167 (by decide)) 1).trans ((congrFun (jnp 68 eσ153 (by decide)) 1).trans ((congrFun (jnp 68 eσ141 (by decide)) 1).trans ((congrFun (f132 68 (by decide)) 1).trans (congrFun (f113 68 (by decide)) 1)))))))
                  have z178 : (σ167 68 2).toInt = (σ55 68 2).toInt := (congrArg Int32.toInt (show σ167 68 2 = (σ55 68 2) from ((congrFun (jnp 68 eσ167 (by decide)) 2).trans ((congrFun (jnp 68 eσ153 (by decide)) 2).trans ((congrFun (jnp 68 eσ141 (by decide)) 2).trans ((congrFun (f132 68 (by decide)) 2).trans (congrFun (f113 68 (by decide)) 2)))))))
                  have z179 : (σ167 68 3).toInt = (σ55 68 3).toInt := (congrArg Int32.toInt (show σ167 68 3 = (σ55 68 3) from ((congrFun (jnp 68 eσ167 (by decide)) 3).trans ((congrFun (jnp 68 eσ153 (by decide)) 3).trans ((congrFun (jnp 68 eσ141 (by decide)) 3).trans ((congrFun (f132 68 (by decide)) 3).trans (congrFun (f113 68 (by decide)) 3)))))))
                  refine jcallV (As := [.int r112, .int 0]) (rest := []) ⟨hx, hb, hml, hown, hts⟩ hK hP hA hS hZ (c_X12_goes_0 l D cI cL ad zz hJ σ167 τ r112 (r112.toInt) rfl w171 (by omega) (by omega) (by omega) (by omega) (by omega)) cw_RX12_296 (jc_55 cI cL ad σ167 τ) rfl ⟨Nat.le_of_ble_eq_true rfl, Nat.le_of_ble_eq_true rfl⟩ rfl rfl rfl hl.1 rfl (Nat.le_of_ble_eq_true rfl) dX12_game_183 ⟨Nat.zero_le _, Nat.zero_le _⟩ (fun r181 σ180 τ180 H locs h180 hP hS => ?_)
                  obtain ⟨rfl, f182, f183, w184, w185, w186, h180⟩ := h180
                  obtain ⟨k188, k189, k190, h180⟩ := h180
                  have h191 := h180
                  obtain ⟨q197, k192, k193, k194, k195, k196⟩ := h191
                  refine lv_istore (lv' := [(9, .int r181), (3, .int x162), (4, .int x158), (8, .int r131), (7, .int x124), (6, .int r112), (5, .int x50), (0, .ref (ad 55)), (1, .int a1), (2, .int a2)]) hx hb dX12_game_186 hl (by decide) rfl (fun ls hl => ?_)
                  refine lv_iload_n hx hb dX12_game_188 rfl (lv_at hl 1 rfl) ?_
                  refine lv_ldcw (v := 1103515245) hx hb hown (hts _ kw_46_14) dX12_game_189 ?_
                  have g198 := jrg (rfl : x162.toInt = x162.toInt)
                  refine lv_imul hx hb dX12_game_192 ?_
                  refine lv_topi (fun x199 ex199 => ?_)
                  have gx199 := jrg (rfl : x199.toInt = x199.toInt)
                  refine lv_sipush (v := 12345) hx hb dX12_game_193 (by decide) ?_
                  have g200 := jrg (rfl : x199.toInt = x199.toInt)
                  refine lv_iadd hx hb dX12_game_196 ?_
                  refine lv_topi (fun x201 ex201 => ?_)
                  have gx201 := jrg (rfl : x201.toInt = x201.toInt)
                  refine lv_istore_n (lv' := [(3, .int x201), (9, .int r181), (4, .int x158), (8, .int r131), (7, .int x124), (6, .int r112), (5, .int x50), (0, .ref (ad 55)), (1, .int a1), (2, .int a2)]) hx hb dX12_game_197 rfl hl (by decide) rfl (fun ls hl => ?_)
                  refine lv_iload_n hx hb dX12_game_198 rfl (lv_at hl 0 rfl) ?_
                  refine lv_bipush (v := 8) hx hb dX12_game_199 (by decide) ?_
                  refine lv_iushr hx hb dX12_game_201 rfl ?_
                  refine lv_topi (fun x202 ex202 => ?_)
                  have gx202 := jrg (rfl : x202.toInt = x202.toInt)
                  have g203 : 0 ≤ x202.toInt ∧ x202.toInt ≤ 16777215 := jushr8 ex202
                  refine lv_sipush (v := 1000) hx hb dX12_game_202 (by decide) ?_
                  refine lv_irem hx hb dX12_game_205 (by decide) ?_
                  refine lv_topi (fun x204 ex204 => ?_)
                  have tx204 : x204.toInt = (x202.toInt % 1000) := jrem ex204 rfl jz_1000 (by omega)
                  refine lv_aload_n hx hb dX12_game_206 rfl (lv_at hl 7 rfl) ?_
                  refine va_get (D := D) hx hb hts inlX12 hown hK hP 55 (jc_55 cI cL ad σ180 τ) rfl 13 (by decide) (hts _ kw_15_14) (fun _ h9 => h9) rfl dX12_game_207 ?_
                  have m205 : σ180 55 13 = (σ 55 13) := ((f183 13 (by decide)).trans ((congrFun (jnp 55 eσ167 (by decide)) 13).trans ((congrFun (jnp 55 eσ153 (by decide)) 13).trans ((congrFun (jnp 55 eσ141 (by decide)) 13).trans ((f133 13 (by decide)).trans ((f114 13 (by decide)).trans ((f75 13 (by decide)).trans ((jkp 13 eσ45 (by decide)).trans ((f43 13 (by decide)).trans (f25 13 (by decide)))))))))))
                  refine jtopr m205 ?_
                  refine lv_icmp_ge (tgt := 217) hx hb dX12_game_210 (by decide) (fun c206 => ?_) (fun c206 => ?_)
                  · have kc206 := jle c206 rfl tx204
                    refine lv_iconst (v := 0) hx hb dX12_game_217 (by decide) ?_
                    refine lv_istore (lv' := [(5, .int 0), (3, .int x201), (9, .int r181), (4, .int x158), (8, .int r131), (7, .int x124), (6, .int r112), (0, .ref (ad 55)), (1, .int a1), (2, .int a2)]) hx hb dX12_game_218 hl (by decide) rfl (fun ls hl => ?_)
                    refine lv_aload_n hx hb dX12_game_220 rfl (lv_at hl 7 rfl) ?_
                    refine lv_dup hx hb dX12_game_221 rfl ?_
                    refine va_get (D := D) hx hb hts inlX12 hown hK hP 55 (jc_55 cI cL ad σ180 τ) rfl 50 (by decide) (hts _ kw_46_13) (fun _ h9 => h9) rfl dX12_game_222 ?_
                    have m207 : σ180 55 50 = (σ55 55 50) := ((f183 50 (by decide)).trans m168)
                    refine jtopr m207 ?_
                    refine lv_iconst (v := 1) hx hb dX12_game_225 (by decide) ?_
                    have g208 := jrg (rfl : (σ55 55 50).toInt = (σ55 55 50).toInt)
                    refine lv_iadd hx hb dX12_game_226 ?_
                    refine lv_topi (fun x209 ex209 => ?_)
                    have tx209 : x209.toInt = (σ55 55 50).toInt + 1 := (jadd ex209 rfl jz_1 (by omega) (by omega)).trans (by omega)
                    refine jput (ty := .int) hx hb hts inlX12 tyX12 tyX12_ok nmX12 hown hK hP hJ hA hS (jc_55 cI cL ad σ180 τ) rfl (k := 50) (by decide) (Nat.le_of_ble_eq_true rfl) (jp_55_50 cI cL ad σ180 τ x209) (hts _ kw_46_13) (fun _ h9 => h9) rfl (by decide +kernel) rfl rfl dX12_game_227 (fun σ210 H locs eσ210 hP hS => ?_)
                    refine lv_goto (tgt := 43) hx hb dX12_game_230 (by decide) ?_
                    have z211 : (σ210 55 12).toInt = (σ 55 12).toInt := (congrArg Int32.toInt (show σ210 55 12 = (σ 55 12) from ((jkp 12 eσ210 (by decide)).trans ((f183 12 (by decide)).trans ((congrFun (jnp 55 eσ167 (by decide)) 12).trans ((congrFun (jnp 55 eσ153 (by decide)) 12).trans ((congrFun (jnp 55 eσ141 (by decide)) 12).trans ((f133 12 (by decide)).trans ((f114 12 (by decide)).trans ((f75 12 (by decide)).trans ((jkp 12 eσ45 (by decide)).trans ((f43 12 (by decide)).trans (f25 12 (by decide))))))))))))))
                    have z212 : (σ210 55 26).toInt = (σ180 55 26).toInt := (congrArg Int32.toInt (show σ210 55 26 = (σ180 55 26) from (jkp 26 eσ210 (by decide))))
                    have z213 : (σ210 55 25).toInt = (σ180 55 25).toInt := (congrArg Int32.toInt (show σ210 55 25 = (σ180 55 25) from (jkp 25 eσ210 (by decide))))
                    have z214 : (σ210 55 10).toInt = (σ 55 10).toInt := (congrArg Int32.toInt (show σ210 55 10 = (σ 55 10) from ((jkp 10 eσ210 (by decide)).trans ((f183 10 (by decide)).trans ((congrFun (jnp 55 eσ167 (by decide)) 10).trans ((congrFun (jnp 55 eσ153 (by decide)) 10).trans ((congrFun (jnp 55 eσ141 (by decide)) 10).trans ((f133 10 (by decide)).trans ((f114 10 (by decide)).trans ((f75 10 (by decide)).trans ((jkp 10 eσ45 (by decide)).trans ((f43 10 (by decide)).trans (f25 10 (by decide))))))))))))))
                    have z215 : (σ210 55 27).toInt = (σ180 55 27).toInt := (congrArg Int32.toInt (show σ210 55 27 = (σ180 55 27) from (jkp 27 eσ210 (by decide))))
                    have z216 : (σ210 55 50).toInt = (σ55 55 50).toInt + 1 := ((congrArg Int32.toInt (show σ210 55 50 = x209 from (jsp eσ210))).trans tx209)
                    have p217 : jKept σ210 := jKept.fr ((jnp 75 eσ210 (by decide)).trans ((f182 75 (by decide)).trans ((jnp 75 eσ167 (by decide)).trans ((jnp 75 eσ153 (by decide)).trans ((jnp 75 eσ141 (by decide)).trans (f132 75 (by decide))))))) ((jnp 76 eσ210 (by decide)).trans ((f182 76 (by decide)).trans ((jnp 76 eσ167 (by decide)).trans ((jnp 76 eσ153 (by decide)).trans ((jnp 76 eσ141 (by decide)).trans (f132 76 (by decide))))))) ((jnp 77 eσ210 (by decide)).trans ((f182 77 (by decide)).trans ((jnp 77 eσ167 (by decide)).trans ((jnp 77 eσ153 (by decide)).trans ((jnp 77 eσ141 (by decide)).trans (f132 77 (by decide))))))) p115
                    have I218 : jI109 σ210 := (show 0 ≤ (σ210 55 50).toInt ∧ (σ210 55 50).toInt ≤ 12 by omega)
                    have w219 : ∀ k : Nat, k < 4 → 0 ≤ (σ210 68 k).toInt ∧ (σ210 68 k).toInt ≤ 3 := (jrr_fr (jnp 68 eσ210 (by decide)) w184)
                    have I220 : jI119 σ210 := w219
                    exact ihlp46 x201 x158 0 σ210 _ _ ls (by have h92 := jz_0; omega) (by have h92 := jz_0; omega) (by have h92 := jz_0; omega) (by have h92 := jz_0; omega) (by have h92 := jz_0; omega) (by have h92 := jz_0; omega) (by have h92 := jz_0; omega) (fun i hi => ((jnp i eσ210 (imp_282 i hi)).trans ((f182 i (imp_284 i hi)).trans ((jnp i eσ167 (imp_289 i hi)).trans ((jnp i eσ153 (imp_290 i hi)).trans ((jnp i eσ141 (imp_291 i hi)).trans ((f132 i (imp_292 i hi)).trans ((f113 i (imp_293 i hi)).trans (f74 i hi))))))))) (fun i hi => ((jkp i eσ210 (imp_294 i hi)).trans ((f183 i (imp_295 i hi)).trans ((congrFun (jnp 55 eσ167 (by decide)) i).trans ((congrFun (jnp 55 eσ153 (by decide)) i).trans ((congrFun (jnp 55 eσ141 (by decide)) i).trans ((f133 i (imp_296 i hi)).trans ((f114 i (imp_297 i hi)).trans (f75 i hi)))))))))  p217 I218 I220 hP hS (lv_sub hl [0, 3, 1, 7, 8, 9] rfl)
                  · have kc206 := jnle c206 rfl tx204
                    refine lv_iconst (v := 1) hx hb dX12_game_213 (by decide) ?_
                    refine lv_goto (tgt := 218) hx hb dX12_game_214 (by decide) ?_
                    refine lv_istore (lv' := [(5, .int 1), (3, .int x201), (9, .int r181), (4, .int x158), (8, .int r131), (7, .int x124), (6, .int r112), (0, .ref (ad 55)), (1, .int a1), (2, .int a2)]) hx hb dX12_game_218 hl (by decide) rfl (fun ls hl => ?_)
                    refine lv_aload_n hx hb dX12_game_220 rfl (lv_at hl 7 rfl) ?_
                    refine lv_dup hx hb dX12_game_221 rfl ?_
                    refine va_get (D := D) hx hb hts inlX12 hown hK hP 55 (jc_55 cI cL ad σ180 τ) rfl 50 (by decide) (hts _ kw_46_13) (fun _ h9 => h9) rfl dX12_game_222 ?_
                    have m221 : σ180 55 50 = (σ55 55 50) := ((f183 50 (by decide)).trans m168)
                    refine jtopr m221 ?_
                    refine lv_iconst (v := 1) hx hb dX12_game_225 (by decide) ?_
                    have g222 := jrg (rfl : (σ55 55 50).toInt = (σ55 55 50).toInt)
                    refine lv_iadd hx hb dX12_game_226 ?_
                    refine lv_topi (fun x223 ex223 => ?_)
                    have tx223 : x223.toInt = (σ55 55 50).toInt + 1 := (jadd ex223 rfl jz_1 (by omega) (by omega)).trans (by omega)
                    refine jput (ty := .int) hx hb hts inlX12 tyX12 tyX12_ok nmX12 hown hK hP hJ hA hS (jc_55 cI cL ad σ180 τ) rfl (k := 50) (by decide) (Nat.le_of_ble_eq_true rfl) (jp_55_50 cI cL ad σ180 τ x223) (hts _ kw_46_13) (fun _ h9 => h9) rfl (by decide +kernel) rfl rfl dX12_game_227 (fun σ224 H locs eσ224 hP hS => ?_)
                    refine lv_goto (tgt := 43) hx hb dX12_game_230 (by decide) ?_
                    have z225 : (σ224 55 12).toInt = (σ 55 12).toInt := (congrArg Int32.toInt (show σ224 55 12 = (σ 55 12) from ((jkp 12 eσ224 (by decide)).trans ((f183 12 (by decide)).trans ((congrFun (jnp 55 eσ167 (by decide)) 12).trans ((congrFun (jnp 55 eσ153 (by decide)) 12).trans ((congrFun (jnp 55 eσ141 (by decide)) 12).trans ((f133 12 (by decide)).trans ((f114 12 (by decide)).trans ((f75 12 (by decide)).trans ((jkp 12 eσ45 (by decide)).trans ((f43 12 (by decide)).trans (f25 12 (by decide))))))))))))))
                    have z226 : (σ224 55 26).toInt = (σ180 55 26).toInt := (congrArg Int32.toInt (show σ224 55 26 = (σ180 55 26) from (jkp 26 eσ224 (by decide))))
                    have z227 : (σ224 55 25).toInt = (σ180 55 25).toInt := (congrArg Int32.toInt (show σ224 55 25 = (σ180 55 25) from (jkp 25 eσ224 (by decide))))
                    have z228 : (σ224 55 10).toInt = (σ 55 10).toInt := (congrArg Int32.toInt (show σ224 55 10 = (σ 55 10) from ((jkp 10 eσ224 (by decide)).trans ((f183 10 (by decide)).trans ((congrFun (jnp 55 eσ167 (by decide)) 10).trans ((congrFun (jnp 55 eσ153 (by decide)) 10).trans ((congrFun (jnp 55 eσ141 (by decide)) 10).trans ((f133 10 (by decide)).trans ((f114 10 (by decide)).trans ((f75 10 (by decide)).trans ((jkp 10 eσ45 (by decide)).trans ((f43 10 (by decide)).trans (f25 10 (by decide))))))))))))))
                    have z229 : (σ224 55 27).toInt = (σ180 55 27).toInt := (congrArg Int32.toInt (show σ224 55 27 = (σ180 55 27) from (jkp 27 eσ224 (by decide))))
                    have z230 : (σ224 55 50).toInt = (σ55 55 50).toInt + 1 := ((congrArg Int32.toInt (show σ224 55 50 = x223 from (jsp eσ224))).trans tx223)
                    have p231 : jKept σ224 := jKept.fr ((jnp 75 eσ224 (by decide)).trans ((f182 75 (by decide)).trans ((jnp 75 eσ167 (by decide)).trans ((jnp 75 eσ153 (by decide)).trans ((jnp 75 eσ141 (by decide)).trans (f132 75 (by decide))))))) ((jnp 76 eσ224 (by decide)).trans ((f182 76 (by decide)).trans ((jnp 76 eσ167 (by decide)).trans ((jnp 76 eσ153 (by decide)).trans ((jnp 76 eσ141 (by decide)).trans (f132 76 (by decide))))))) ((jnp 77 eσ224 (by decide)).trans ((f182 77 (by decide)).trans ((jnp 77 eσ167 (by decide)).trans ((jnp 77 eσ153 (by decide)).trans ((jnp 77 eσ141 (by decide)).trans (f132 77 (by decide))))))) p115
                    have I232 : jI109 σ224 := (show 0 ≤ (σ224 55 50).toInt ∧ (σ224 55 50).toInt ≤ 12 by omega)
                    have w233 : ∀ k : Nat, k < 4 → 0 ≤ (σ224 68 k).toInt ∧ (σ224 68 k).toInt ≤ 3 := (jrr_fr (jnp 68 eσ224 (by decide)) w184)
                    have I234 : jI119 σ224 := w233
                    exact ihlp46 x201 x158 1 σ224 _ _ ls (by have h92 := jz_1; omega) (by have h92 := jz_1; omega) (by have h92 := jz_1; omega) (by have h92 := jz_1; omega) (by have h92 := jz_1; omega) (by have h92 := jz_1; omega) (by have h92 := jz_1; omega) (fun i hi => ((jnp i eσ224 (imp_282 i hi)).trans ((f182 i (imp_284 i hi)).trans ((jnp i eσ167 (imp_289 i hi)).trans ((jnp i eσ153 (imp_290 i hi)).trans ((jnp i eσ141 (imp_291 i hi)).trans ((f132 i (imp_292 i hi)).trans ((f113 i (imp_293 i hi)).trans (f74 i hi))))))))) (fun i hi => ((jkp i eσ224 (imp_294 i hi)).trans ((f183 i (imp_295 i hi)).trans ((congrFun (jnp 55 eσ167 (by decide)) i).trans ((congrFun (jnp 55 eσ153 (by decide)) i).trans ((congrFun (jnp 55 eσ141 (by decide)) i).trans ((f133 i (imp_296 i hi)).trans ((f114 i (imp_297 i hi)).trans (f75 i hi)))))))))  p231 I232 I234 hP hS (lv_sub hl [0, 3, 1, 7, 8, 9] rfl)
                · have kc170 := jeq c170 rfl jz_1
                  refine lv_iconst (v := 1) hx hb dX12_game_178 (by decide) ?_
                  refine lv_goto (tgt := 183) hx hb dX12_game_179 (by decide) ?_
                  have w235 : ∀ k : Nat, k < 4 → 0 ≤ (σ167 68 k).toInt ∧ (σ167 68 k).toInt ≤ 3 := (jrr_fr (jnp 68 eσ167 (by decide)) (jrr_fr (jnp 68 eσ153 (by decide)) w146))
                  have z236 : (σ167 55 6).toInt = (σ 55 6).toInt := (congrArg Int32.toInt (show σ167 55 6 = (σ 55 6) from ((congrFun (jnp 55 eσ167 (by decide)) 6).trans ((congrFun (jnp 55 eσ153 (by decide)) 6).trans ((congrFun (jnp 55 eσ141 (by decide)) 6).trans ((f133 6 (by decide)).trans ((f114 6 (by decide)).trans ((f75 6 (by decide)).trans ((jkp 6 eσ45 (by decide)).trans ((f43 6 (by decide)).trans (f25 6 (by decide))))))))))))
                  have z237 : (σ167 55 27).toInt = (σ55 55 27).toInt := (congrArg Int32.toInt (show σ167 55 27 = (σ55 55 27) from ((congrFun (jnp 55 eσ167 (by decide)) 27).trans ((congrFun (jnp 55 eσ153 (by decide)) 27).trans ((congrFun (jnp 55 eσ141 (by decide)) 27).trans ((f133 27 (by decide)).trans (f114 27 (by decide))))))))
                  have z238 : (σ167 55 25).toInt = (σ55 55 25).toInt := (congrArg Int32.toInt (show σ167 55 25 = (σ55 55 25) from ((congrFun (jnp 55 eσ167 (by decide)) 25).trans ((congrFun (jnp 55 eσ153 (by decide)) 25).trans ((congrFun (jnp 55 eσ141 (by decide)) 25).trans ((f133 25 (by decide)).trans m121))))))
                  have z239 : (σ167 55 26).toInt = (σ55 55 26).toInt := (congrArg Int32.toInt (show σ167 55 26 = (σ55 55 26) from ((congrFun (jnp 55 eσ167 (by decide)) 26).trans ((congrFun (jnp 55 eσ153 (by decide)) 26).trans ((congrFun (jnp 55 eσ141 (by decide)) 26).trans ((f133 26 (by decide)).trans (f114 26 (by decide))))))))
                  have z240 : (σ167 68 0).toInt = (σ55 68 0).toInt := (congrArg Int32.toInt (show σ167 68 0 = (σ55 68 0) from ((congrFun (jnp 68 eσ167 (by decide)) 0).trans ((congrFun (jnp 68 eσ153 (by decide)) 0).trans ((congrFun (jnp 68 eσ141 (by decide)) 0).trans ((congrFun (f132 68 (by decide)) 0).trans (congrFun (f113 68 (by decide)) 0)))))))
                  have z241 : (σ167 68 1).toInt = (σ55 68 1).toInt := (congrArg Int32.toInt (show σ167 68 1 = (σ55 68 1) from ((congrFun (jnp 68 eσ167 (by decide)) 1).trans ((congrFun (jnp 68 eσ153 (by decide)) 1).trans ((congrFun (jnp 68 eσ141 (by decide)) 1).trans ((congrFun (f132 68 (by decide)) 1).trans (congrFun (f113 68 (by decide)) 1)))))))
                  have z242 : (σ167 68 2).toInt = (σ55 68 2).toInt := (congrArg Int32.toInt (show σ167 68 2 = (σ55 68 2) from ((congrFun (jnp 68 eσ167 (by decide)) 2).trans ((congrFun (jnp 68 eσ153 (by decide)) 2).trans ((congrFun (jnp 68 eσ141 (by decide)) 2).trans ((congrFun (f132 68 (by decide)) 2).trans (congrFun (f113 68 (by decide)) 2)))))))
                  have z243 : (σ167 68 3).toInt = (σ55 68 3).toInt := (congrArg Int32.toInt (show σ167 68 3 = (σ55 68 3) from ((congrFun (jnp 68 eσ167 (by decide)) 3).trans ((congrFun (jnp 68 eσ153 (by decide)) 3).trans ((congrFun (jnp 68 eσ141 (by decide)) 3).trans ((congrFun (f132 68 (by decide)) 3).trans (congrFun (f113 68 (by decide)) 3)))))))
                  refine jcallV (As := [.int r112, .int 1]) (rest := []) ⟨hx, hb, hml, hown, hts⟩ hK hP hA hS hZ (c_X12_goes_1 l D cI cL ad zz hJ σ167 τ r112 (r112.toInt) rfl w235 (by omega) (by omega) (by omega) (by omega) (by omega)) cw_RX12_296 (jc_55 cI cL ad σ167 τ) rfl ⟨Nat.le_of_ble_eq_true rfl, Nat.le_of_ble_eq_true rfl⟩ rfl rfl rfl hl.1 rfl (Nat.le_of_ble_eq_true rfl) dX12_game_183 ⟨Nat.zero_le _, Nat.zero_le _⟩ (fun r245 σ244 τ244 H locs h244 hP hS => ?_)
                  obtain ⟨rfl, f246, f247, w248, w249, w250, h244⟩ := h244
                  obtain ⟨k252, k253, k254, h244⟩ := h244
                  have h255 := h244
                  obtain ⟨q261, k256, k257, k258, k259, k260⟩ := h255
                  refine lv_istore (lv' := [(9, .int r245), (3, .int x162), (4, .int x158), (8, .int r131), (7, .int x124), (6, .int r112), (5, .int x50), (0, .ref (ad 55)), (1, .int a1), (2, .int a2)]) hx hb dX12_game_186 hl (by decide) rfl (fun ls hl => ?_)
                  refine lv_iload_n hx hb dX12_game_188 rfl (lv_at hl 1 rfl) ?_
                  refine lv_ldcw (v := 1103515245) hx hb hown (hts _ kw_46_14) dX12_game_189 ?_
                  have g262 := jrg (rfl : x162.toInt = x162.toInt)
                  refine lv_imul hx hb dX12_game_192 ?_
                  refine lv_topi (fun x263 ex263 => ?_)
                  have gx263 := jrg (rfl : x263.toInt = x263.toInt)
                  refine lv_sipush (v := 12345) hx hb dX12_game_193 (by decide) ?_
                  have g264 := jrg (rfl : x263.toInt = x263.toInt)
                  refine lv_iadd hx hb dX12_game_196 ?_
                  refine lv_topi (fun x265 ex265 => ?_)
                  have gx265 := jrg (rfl : x265.toInt = x265.toInt)
                  refine lv_istore_n (lv' := [(3, .int x265), (9, .int r245), (4, .int x158), (8, .int r131), (7, .int x124), (6, .int r112), (5, .int x50), (0, .ref (ad 55)), (1, .int a1), (2, .int a2)]) hx hb dX12_game_197 rfl hl (by decide) rfl (fun ls hl => ?_)
                  refine lv_iload_n hx hb dX12_game_198 rfl (lv_at hl 0 rfl) ?_
                  refine lv_bipush (v := 8) hx hb dX12_game_199 (by decide) ?_
                  refine lv_iushr hx hb dX12_game_201 rfl ?_
                  refine lv_topi (fun x266 ex266 => ?_)
                  have gx266 := jrg (rfl : x266.toInt = x266.toInt)
                  have g267 : 0 ≤ x266.toInt ∧ x266.toInt ≤ 16777215 := jushr8 ex266
                  refine lv_sipush (v := 1000) hx hb dX12_game_202 (by decide) ?_
                  refine lv_irem hx hb dX12_game_205 (by decide) ?_
                  refine lv_topi (fun x268 ex268 => ?_)
                  have tx268 : x268.toInt = (x266.toInt % 1000) := jrem ex268 rfl jz_1000 (by omega)
                  refine lv_aload_n hx hb dX12_game_206 rfl (lv_at hl 7 rfl) ?_
                  refine va_get (D := D) hx hb hts inlX12 hown hK hP 55 (jc_55 cI cL ad σ244 τ) rfl 13 (by decide) (hts _ kw_15_14) (fun _ h9 => h9) rfl dX12_game_207 ?_
                  have m269 : σ244 55 13 = (σ 55 13) := ((f247 13 (by decide)).trans ((congrFun (jnp 55 eσ167 (by decide)) 13).trans ((congrFun (jnp 55 eσ153 (by decide)) 13).trans ((congrFun (jnp 55 eσ141 (by decide)) 13).trans ((f133 13 (by decide)).trans ((f114 13 (by decide)).trans ((f75 13 (by decide)).trans ((jkp 13 eσ45 (by decide)).trans ((f43 13 (by decide)).trans (f25 13 (by decide)))))))))))
                  refine jtopr m269 ?_
                  refine lv_icmp_ge (tgt := 217) hx hb dX12_game_210 (by decide) (fun c270 => ?_) (fun c270 => ?_)
                  · have kc270 := jle c270 rfl tx268
                    refine lv_iconst (v := 0) hx hb dX12_game_217 (by decide) ?_
                    refine lv_istore (lv' := [(5, .int 0), (3, .int x265), (9, .int r245), (4, .int x158), (8, .int r131), (7, .int x124), (6, .int r112), (0, .ref (ad 55)), (1, .int a1), (2, .int a2)]) hx hb dX12_game_218 hl (by decide) rfl (fun ls hl => ?_)
                    refine lv_aload_n hx hb dX12_game_220 rfl (lv_at hl 7 rfl) ?_
                    refine lv_dup hx hb dX12_game_221 rfl ?_
                    refine va_get (D := D) hx hb hts inlX12 hown hK hP 55 (jc_55 cI cL ad σ244 τ) rfl 50 (by decide) (hts _ kw_46_13) (fun _ h9 => h9) rfl dX12_game_222 ?_
                    have m271 : σ244 55 50 = (σ55 55 50) := ((f247 50 (by decide)).trans m168)
                    refine jtopr m271 ?_
                    refine lv_iconst (v := 1) hx hb dX12_game_225 (by decide) ?_
                    have g272 := jrg (rfl : (σ55 55 50).toInt = (σ55 55 50).toInt)
                    refine lv_iadd hx hb dX12_game_226 ?_
                    refine lv_topi (fun x273 ex273 => ?_)
                    have tx273 : x273.toInt = (σ55 55 50).toInt + 1 := (jadd ex273 rfl jz_1 (by omega) (by omega)).trans (by omega)
                    refine jput (ty := .int) hx hb hts inlX12 tyX12 tyX12_ok nmX12 hown hK hP hJ hA hS (jc_55 cI cL ad σ244 τ) rfl (k := 50) (by decide) (Nat.le_of_ble_eq_true rfl) (jp_55_50 cI cL ad σ244 τ x273) (hts _ kw_46_13) (fun _ h9 => h9) rfl (by decide +kernel) rfl rfl dX12_game_227 (fun σ274 H locs eσ274 hP hS => ?_)
                    refine lv_goto (tgt := 43) hx hb dX12_game_230 (by decide) ?_
                    have z275 : (σ274 55 12).toInt = (σ 55 12).toInt := (congrArg Int32.toInt (show σ274 55 12 = (σ 55 12) from ((jkp 12 eσ274 (by decide)).trans ((f247 12 (by decide)).trans ((congrFun (jnp 55 eσ167 (by decide)) 12).trans ((congrFun (jnp 55 eσ153 (by decide)) 12).trans ((congrFun (jnp 55 eσ141 (by decide)) 12).trans ((f133 12 (by decide)).trans ((f114 12 (by decide)).trans ((f75 12 (by decide)).trans ((jkp 12 eσ45 (by decide)).trans ((f43 12 (by decide)).trans (f25 12 (by decide))))))))))))))
                    have z276 : (σ274 55 26).toInt = (σ244 55 26).toInt := (congrArg Int32.toInt (show σ274 55 26 = (σ244 55 26) from (jkp 26 eσ274 (by decide))))
                    have z277 : (σ274 55 25).toInt = (σ244 55 25).toInt := (congrArg Int32.toInt (show σ274 55 25 = (σ244 55 25) from (jkp 25 eσ274 (by decide))))
                    have z278 : (σ274 55 10).toInt = (σ 55 10).toInt := (congrArg Int32.toInt (show σ274 55 10 = (σ 55 10) from ((jkp 10 eσ274 (by decide)).trans ((f247 10 (by decide)).trans ((congrFun (jnp 55 eσ167 (by decide)) 10).trans ((congrFun (jnp 55 eσ153 (by decide)) 10).trans ((congrFun (jnp 55 eσ141 (by decide)) 10).trans ((f133 10 (by decide)).trans ((f114 10 (by decide)).trans ((f75 10 (by decide)).trans ((jkp 10 eσ45 (by decide)).trans ((f43 10 (by decide)).trans (f25 10 (by decide))))))))))))))
                    have z279 : (σ274 55 27).toInt = (σ244 55 27).toInt := (congrArg Int32.toInt (show σ274 55 27 = (σ244 55 27) from (jkp 27 eσ274 (by decide))))
                    have z280 : (σ274 55 50).toInt = (σ55 55 50).toInt + 1 := ((congrArg Int32.toInt (show σ274 55 50 = x273 from (jsp eσ274))).trans tx273)
                    have p281 : jKept σ274 := jKept.fr ((jnp 75 eσ274 (by decide)).trans ((f246 75 (by decide)).trans ((jnp 75 eσ167 (by decide)).trans ((jnp 75 eσ153 (by decide)).trans ((jnp 75 eσ141 (by decide)).trans (f132 75 (by decide))))))) ((jnp 76 eσ274 (by decide)).trans ((f246 76 (by decide)).trans ((jnp 76 eσ167 (by decide)).trans ((jnp 76 eσ153 (by decide)).trans ((jnp 76 eσ141 (by decide)).trans (f132 76 (by decide))))))) ((jnp 77 eσ274 (by decide)).trans ((f246 77 (by decide)).trans ((jnp 77 eσ167 (by decide)).trans ((jnp 77 eσ153 (by decide)).trans ((jnp 77 eσ141 (by decide)).trans (f132 77 (by decide))))))) p115
                    have I282 : jI109 σ274 := (show 0 ≤ (σ274 55 50).toInt ∧ (σ274 55 50).toInt ≤ 12 by omega)
                    have w283 : ∀ k : Nat, k < 4 → 0 ≤ (σ274 68 k).toInt ∧ (σ274 68 k).toInt ≤ 3 := (jrr_fr (jnp 68 eσ274 (by decide)) w248)
                    have I284 : jI119 σ274 := w283
                    exact ihlp46 x265 x158 0 σ274 _ _ ls (by have h92 := jz_0; omega) (by have h92 := jz_0; omega) (by have h92 := jz_0; omega) (by have h92 := jz_0; omega) (by have h92 := jz_0; omega) (by have h92 := jz_0; omega) (by have h92 := jz_0; omega) (fun i hi => ((jnp i eσ274 (imp_282 i hi)).trans ((f246 i (imp_284 i hi)).trans ((jnp i eσ167 (imp_289 i hi)).trans ((jnp i eσ153 (imp_290 i hi)).trans ((jnp i eσ141 (imp_291 i hi)).trans ((f132 i (imp_292 i hi)).trans ((f113 i (imp_293 i hi)).trans (f74 i hi))))))))) (fun i hi => ((jkp i eσ274 (imp_294 i hi)).trans ((f247 i (imp_295 i hi)).trans ((congrFun (jnp 55 eσ167 (by decide)) i).trans ((congrFun (jnp 55 eσ153 (by decide)) i).trans ((congrFun (jnp 55 eσ141 (by decide)) i).trans ((f133 i (imp_296 i hi)).trans ((f114 i (imp_297 i hi)).trans (f75 i hi)))))))))  p281 I282 I284 hP hS (lv_sub hl [0, 3, 1, 7, 8, 9] rfl)
                  · have kc270 := jnle c270 rfl tx268
                    refine lv_iconst (v := 1) hx hb dX12_game_213 (by decide) ?_
                    refine lv_goto (tgt := 218) hx hb dX12_game_214 (by decide) ?_
                    refine lv_istore (lv' := [(5, .int 1), (3, .int x265), (9, .int r245), (4, .int x158), (8, .int r131), (7, .int x124), (6, .int r112), (0, .ref (ad 55)), (1, .int a1), (2, .int a2)]) hx hb dX12_game_218 hl (by decide) rfl (fun ls hl => ?_)
                    refine lv_aload_n hx hb dX12_game_220 rfl (lv_at hl 7 rfl) ?_
                    refine lv_dup hx hb dX12_game_221 rfl ?_
                    refine va_get (D := D) hx hb hts inlX12 hown hK hP 55 (jc_55 cI cL ad σ244 τ) rfl 50 (by decide) (hts _ kw_46_13) (fun _ h9 => h9) rfl dX12_game_222 ?_
                    have m285 : σ244 55 50 = (σ55 55 50) := ((f247 50 (by decide)).trans m168)
                    refine jtopr m285 ?_
                    refine lv_iconst (v := 1) hx hb dX12_game_225 (by decide) ?_
                    have g286 := jrg (rfl : (σ55 55 50).toInt = (σ55 55 50).toInt)
                    refine lv_iadd hx hb dX12_game_226 ?_
                    refine lv_topi (fun x287 ex287 => ?_)
                    have tx287 : x287.toInt = (σ55 55 50).toInt + 1 := (jadd ex287 rfl jz_1 (by omega) (by omega)).trans (by omega)
                    refine jput (ty := .int) hx hb hts inlX12 tyX12 tyX12_ok nmX12 hown hK hP hJ hA hS (jc_55 cI cL ad σ244 τ) rfl (k := 50) (by decide) (Nat.le_of_ble_eq_true rfl) (jp_55_50 cI cL ad σ244 τ x287) (hts _ kw_46_13) (fun _ h9 => h9) rfl (by decide +kernel) rfl rfl dX12_game_227 (fun σ288 H locs eσ288 hP hS => ?_)
                    refine lv_goto (tgt := 43) hx hb dX12_game_230 (by decide) ?_
                    have z289 : (σ288 55 12).toInt = (σ 55 12).toInt := (congrArg Int32.toInt (show σ288 55 12 = (σ 55 12) from ((jkp 12 eσ288 (by decide)).trans ((f247 12 (by decide)).trans ((congrFun (jnp 55 eσ167 (by decide)) 12).trans ((congrFun (jnp 55 eσ153 (by decide)) 12).trans ((congrFun (jnp 55 eσ141 (by decide)) 12).trans ((f133 12 (by decide)).trans ((f114 12 (by decide)).trans ((f75 12 (by decide)).trans ((jkp 12 eσ45 (by decide)).trans ((f43 12 (by decide)).trans (f25 12 (by decide))))))))))))))
                    have z290 : (σ288 55 26).toInt = (σ244 55 26).toInt := (congrArg Int32.toInt (show σ288 55 26 = (σ244 55 26) from (jkp 26 eσ288 (by decide))))
                    have z291 : (σ288 55 25).toInt = (σ244 55 25).toInt := (congrArg Int32.toInt (show σ288 55 25 = (σ244 55 25) from (jkp 25 eσ288 (by decide))))
                    have z292 : (σ288 55 10).toInt = (σ 55 10).toInt := (congrArg Int32.toInt (show σ288 55 10 = (σ 55 10) from ((jkp 10 eσ288 (by decide)).trans ((f247 10 (by decide)).trans ((congrFun (jnp 55 eσ167 (by decide)) 10).trans ((congrFun (jnp 55 eσ153 (by decide)) 10).trans ((congrFun (jnp 55 eσ141 (by decide)) 10).trans ((f133 10 (by decide)).trans ((f114 10 (by decide)).trans ((f75 10 (by decide)).trans ((jkp 10 eσ45 (by decide)).trans ((f43 10 (by decide)).trans (f25 10 (by decide))))))))))))))
                    have z293 : (σ288 55 27).toInt = (σ244 55 27).toInt := (congrArg Int32.toInt (show σ288 55 27 = (σ244 55 27) from (jkp 27 eσ288 (by decide))))
                    have z294 : (σ288 55 50).toInt = (σ55 55 50).toInt + 1 := ((congrArg Int32.toInt (show σ288 55 50 = x287 from (jsp eσ288))).trans tx287)
                    have p295 : jKept σ288 := jKept.fr ((jnp 75 eσ288 (by decide)).trans ((f246 75 (by decide)).trans ((jnp 75 eσ167 (by decide)).trans ((jnp 75 eσ153 (by decide)).trans ((jnp 75 eσ141 (by decide)).trans (f132 75 (by decide))))))) ((jnp 76 eσ288 (by decide)).trans ((f246 76 (by decide)).trans ((jnp 76 eσ167 (by decide)).trans ((jnp 76 eσ153 (by decide)).trans ((jnp 76 eσ141 (by decide)).trans (f132 76 (by decide))))))) ((jnp 77 eσ288 (by decide)).trans ((f246 77 (by decide)).trans ((jnp 77 eσ167 (by decide)).trans ((jnp 77 eσ153 (by decide)).trans ((jnp 77 eσ141 (by decide)).trans (f132 77 (by decide))))))) p115
                    have I296 : jI109 σ288 := (show 0 ≤ (σ288 55 50).toInt ∧ (σ288 55 50).toInt ≤ 12 by omega)
                    have w297 : ∀ k : Nat, k < 4 → 0 ≤ (σ288 68 k).toInt ∧ (σ288 68 k).toInt ≤ 3 := (jrr_fr (jnp 68 eσ288 (by decide)) w248)
                    have I298 : jI119 σ288 := w297
                    exact ihlp46 x265 x158 1 σ288 _ _ ls (by have h92 := jz_1; omega) (by have h92 := jz_1; omega) (by have h92 := jz_1; omega) (by have h92 := jz_1; omega) (by have h92 := jz_1; omega) (by have h92 := jz_1; omega) (by have h92 := jz_1; omega) (fun i hi => ((jnp i eσ288 (imp_282 i hi)).trans ((f246 i (imp_284 i hi)).trans ((jnp i eσ167 (imp_289 i hi)).trans ((jnp i eσ153 (imp_290 i hi)).trans ((jnp i eσ141 (imp_291 i hi)).trans ((f132 i (imp_292 i hi)).trans ((f113 i (imp_293 i hi)).trans (f74 i hi))))))))) (fun i hi => ((jkp i eσ288 (imp_294 i hi)).trans ((f247 i (imp_295 i hi)).trans ((congrFun (jnp 55 eσ167 (by decide)) i).trans ((congrFun (jnp 55 eσ153 (by decide)) i).trans ((congrFun (jnp 55 eσ141 (by decide)) i).trans ((f133 i (imp_296 i hi)).trans ((f114 i (imp_297 i hi)).trans (f75 i hi)))))))))  p295 I296 I298 hP hS (lv_sub hl [0, 3, 1, 7, 8, 9] rfl)
              · have kc166 := jnle c166 rfl tx165
                refine lv_iconst (v := 1) hx hb dX12_game_156 (by decide) ?_
                refine lv_goto (tgt := 161) hx hb dX12_game_157 (by decide) ?_
                refine jast hx hb hK hP hJ hA hS (jc_84 cI cL ad σ153 τ) (ja_84 cI cL ad σ153 τ _ _) (jin rfl (by omega) (by omega)) dX12_game_161 (fun σ299 H locs eσ299 hP hS => ?_)
                refine lv_aload_n hx hb dX12_game_162 rfl (lv_at hl 6 rfl) ?_
                refine lv_iload hx hb dX12_game_163 (lv_at hl 4 rfl) ?_
                refine lv_aload_n hx hb dX12_game_165 rfl (lv_at hl 6 rfl) ?_
                refine va_get (D := D) hx hb hts inlX12 hown hK hP 55 (jc_55 cI cL ad σ299 τ) rfl 53 (by decide) (hts _ kw_8_9) (fun _ h9 => h9) rfl dX12_game_166 ?_
                refine lv_aload_n hx hb dX12_game_169 rfl (lv_at hl 6 rfl) ?_
                refine va_get (D := D) hx hb hts inlX12 hown hK hP 55 (jc_55 cI cL ad σ299 τ) rfl 50 (by decide) (hts _ kw_46_13) (fun _ h9 => h9) rfl dX12_game_170 ?_
                have m300 : σ299 55 50 = (σ55 55 50) := ((congrFun (jnp 55 eσ299 (by decide)) 50).trans m154)
                refine jtopr m300 ?_
                refine jald hx hb hK hP (jc_84 cI cL ad σ299 τ) (jin rfl (by omega) (by omega)) dX12_game_173 ?_
                refine lv_topi (fun x301 ex301 => ?_)
                refine lv_iconst (v := 1) hx hb dX12_game_174 (by decide) ?_
                refine lv_icmp_ne (tgt := 182) hx hb dX12_game_175 (by decide) (fun c302 => ?_) (fun c302 => ?_)
                · have kc302 := jne c302 rfl jz_1
                  refine lv_iconst (v := 0) hx hb dX12_game_182 (by decide) ?_
                  have w303 : ∀ k : Nat, k < 4 → 0 ≤ (σ299 68 k).toInt ∧ (σ299 68 k).toInt ≤ 3 := (jrr_fr (jnp 68 eσ299 (by decide)) (jrr_fr (jnp 68 eσ153 (by decide)) w146))
                  have z304 : (σ299 55 6).toInt = (σ 55 6).toInt := (congrArg Int32.toInt (show σ299 55 6 = (σ 55 6) from ((congrFun (jnp 55 eσ299 (by decide)) 6).trans ((congrFun (jnp 55 eσ153 (by decide)) 6).trans ((congrFun (jnp 55 eσ141 (by decide)) 6).trans ((f133 6 (by decide)).trans ((f114 6 (by decide)).trans ((f75 6 (by decide)).trans ((jkp 6 eσ45 (by decide)).trans ((f43 6 (by decide)).trans (f25 6 (by decide))))))))))))
                  have z305 : (σ299 55 27).toInt = (σ55 55 27).toInt := (congrArg Int32.toInt (show σ299 55 27 = (σ55 55 27) from ((congrFun (jnp 55 eσ299 (by decide)) 27).trans ((congrFun (jnp 55 eσ153 (by decide)) 27).trans ((congrFun (jnp 55 eσ141 (by decide)) 27).trans ((f133 27 (by decide)).trans (f114 27 (by decide))))))))
                  have z306 : (σ299 55 25).toInt = (σ55 55 25).toInt := (congrArg Int32.toInt (show σ299 55 25 = (σ55 55 25) from ((congrFun (jnp 55 eσ299 (by decide)) 25).trans ((congrFun (jnp 55 eσ153 (by decide)) 25).trans ((congrFun (jnp 55 eσ141 (by decide)) 25).trans ((f133 25 (by decide)).trans m121))))))
                  have z307 : (σ299 55 26).toInt = (σ55 55 26).toInt := (congrArg Int32.toInt (show σ299 55 26 = (σ55 55 26) from ((congrFun (jnp 55 eσ299 (by decide)) 26).trans ((congrFun (jnp 55 eσ153 (by decide)) 26).trans ((congrFun (jnp 55 eσ141 (by decide)) 26).trans ((f133 26 (by decide)).trans (f114 26 (by decide))))))))
                  have z308 : (σ299 68 0).toInt = (σ55 68 0).toInt := (congrArg Int32.toInt (show σ299 68 0 = (σ55 68 0) from ((congrFun (jnp 68 eσ299 (by decide)) 0).trans ((congrFun (jnp 68 eσ153 (by decide)) 0).trans ((congrFun (jnp 68 eσ141 (by decide)) 0).trans ((congrFun (f132 68 (by decide)) 0).trans (congrFun (f113 68 (by decide)) 0)))))))
                  have z309 : (σ299 68 1).toInt = (σ55 68 1).toInt := (congrArg Int32.toInt (show σ299 68 1 = (σ55 68 1) from ((congrFun (jnp 68 eσ299 (by decide)) 1).trans ((congrFun (jnp 68 eσ153 (by decide)) 1).trans ((congrFun (jnp 68 eσ141 (by decide)) 1).trans ((congrFun (f132 68 (by decide)) 1).trans (congrFun (f113 68 (by decide)) 1)))))))
                  have z310 : (σ299 68 2).toInt = (σ55 68 2).toInt := (congrArg Int32.toInt (show σ299 68 2 = (σ55 68 2) from ((congrFun (jnp 68 eσ299 (by decide)) 2).trans ((congrFun (jnp 68 eσ153 (by decide)) 2).trans ((congrFun (jnp 68 eσ141 (by decide)) 2).trans ((congrFun (f132 68 (by decide)) 2).trans (congrFun (f113 68 (by decide)) 2)))))))
                  have z311 : (σ299 68 3).toInt = (σ55 68 3).toInt := (congrArg Int32.toInt (show σ299 68 3 = (σ55 68 3) from ((congrFun (jnp 68 eσ299 (by decide)) 3).trans ((congrFun (jnp 68 eσ153 (by decide)) 3).trans ((congrFun (jnp 68 eσ141 (by decide)) 3).trans ((congrFun (f132 68 (by decide)) 3).trans (congrFun (f113 68 (by decide)) 3)))))))
                  refine jcallV (As := [.int r112, .int 0]) (rest := []) ⟨hx, hb, hml, hown, hts⟩ hK hP hA hS hZ (c_X12_goes_0 l D cI cL ad zz hJ σ299 τ r112 (r112.toInt) rfl w303 (by omega) (by omega) (by omega) (by omega) (by omega)) cw_RX12_296 (jc_55 cI cL ad σ299 τ) rfl ⟨Nat.le_of_ble_eq_true rfl, Nat.le_of_ble_eq_true rfl⟩ rfl rfl rfl hl.1 rfl (Nat.le_of_ble_eq_true rfl) dX12_game_183 ⟨Nat.zero_le _, Nat.zero_le _⟩ (fun r313 σ312 τ312 H locs h312 hP hS => ?_)
                  obtain ⟨rfl, f314, f315, w316, w317, w318, h312⟩ := h312
                  obtain ⟨k320, k321, k322, h312⟩ := h312
                  have h323 := h312
                  obtain ⟨q329, k324, k325, k326, k327, k328⟩ := h323
                  refine lv_istore (lv' := [(9, .int r313), (3, .int x162), (4, .int x158), (8, .int r131), (7, .int x124), (6, .int r112), (5, .int x50), (0, .ref (ad 55)), (1, .int a1), (2, .int a2)]) hx hb dX12_game_186 hl (by decide) rfl (fun ls hl => ?_)
                  refine lv_iload_n hx hb dX12_game_188 rfl (lv_at hl 1 rfl) ?_
                  refine lv_ldcw (v := 1103515245) hx hb hown (hts _ kw_46_14) dX12_game_189 ?_
                  have g330 := jrg (rfl : x162.toInt = x162.toInt)
                  refine lv_imul hx hb dX12_game_192 ?_
                  refine lv_topi (fun x331 ex331 => ?_)
                  have gx331 := jrg (rfl : x331.toInt = x331.toInt)
                  refine lv_sipush (v := 12345) hx hb dX12_game_193 (by decide) ?_
                  have g332 := jrg (rfl : x331.toInt = x331.toInt)
                  refine lv_iadd hx hb dX12_game_196 ?_
                  refine lv_topi (fun x333 ex333 => ?_)
                  have gx333 := jrg (rfl : x333.toInt = x333.toInt)
                  refine lv_istore_n (lv' := [(3, .int x333), (9, .int r313), (4, .int x158), (8, .int r131), (7, .int x124), (6, .int r112), (5, .int x50), (0, .ref (ad 55)), (1, .int a1), (2, .int a2)]) hx hb dX12_game_197 rfl hl (by decide) rfl (fun ls hl => ?_)
                  refine lv_iload_n hx hb dX12_game_198 rfl (lv_at hl 0 rfl) ?_
                  refine lv_bipush (v := 8) hx hb dX12_game_199 (by decide) ?_
                  refine lv_iushr hx hb dX12_game_201 rfl ?_
                  refine lv_topi (fun x334 ex334 => ?_)
                  have gx334 := jrg (rfl : x334.toInt = x334.toInt)
                  have g335 : 0 ≤ x334.toInt ∧ x334.toInt ≤ 16777215 := jushr8 ex334
                  refine lv_sipush (v := 1000) hx hb dX12_game_202 (by decide) ?_
                  refine lv_irem hx hb dX12_game_205 (by decide) ?_
                  refine lv_topi (fun x336 ex336 => ?_)
                  have tx336 : x336.toInt = (x334.toInt % 1000) := jrem ex336 rfl jz_1000 (by omega)
                  refine lv_aload_n hx hb dX12_game_206 rfl (lv_at hl 7 rfl) ?_
                  refine va_get (D := D) hx hb hts inlX12 hown hK hP 55 (jc_55 cI cL ad σ312 τ) rfl 13 (by decide) (hts _ kw_15_14) (fun _ h9 => h9) rfl dX12_game_207 ?_
                  have m337 : σ312 55 13 = (σ 55 13) := ((f315 13 (by decide)).trans ((congrFun (jnp 55 eσ299 (by decide)) 13).trans ((congrFun (jnp 55 eσ153 (by decide)) 13).trans ((congrFun (jnp 55 eσ141 (by decide)) 13).trans ((f133 13 (by decide)).trans ((f114 13 (by decide)).trans ((f75 13 (by decide)).trans ((jkp 13 eσ45 (by decide)).trans ((f43 13 (by decide)).trans (f25 13 (by decide)))))))))))
                  refine jtopr m337 ?_
                  refine lv_icmp_ge (tgt := 217) hx hb dX12_game_210 (by decide) (fun c338 => ?_) (fun c338 => ?_)
                  · have kc338 := jle c338 rfl tx336
                    refine lv_iconst (v := 0) hx hb dX12_game_217 (by decide) ?_
                    refine lv_istore (lv' := [(5, .int 0), (3, .int x333), (9, .int r313), (4, .int x158), (8, .int r131), (7, .int x124), (6, .int r112), (0, .ref (ad 55)), (1, .int a1), (2, .int a2)]) hx hb dX12_game_218 hl (by decide) rfl (fun ls hl => ?_)
                    refine lv_aload_n hx hb dX12_game_220 rfl (lv_at hl 7 rfl) ?_
                    refine lv_dup hx hb dX12_game_221 rfl ?_
                    refine va_get (D := D) hx hb hts inlX12 hown hK hP 55 (jc_55 cI cL ad σ312 τ) rfl 50 (by decide) (hts _ kw_46_13) (fun _ h9 => h9) rfl dX12_game_222 ?_
                    have m339 : σ312 55 50 = (σ55 55 50) := ((f315 50 (by decide)).trans m300)
                    refine jtopr m339 ?_
                    refine lv_iconst (v := 1) hx hb dX12_game_225 (by decide) ?_
                    have g340 := jrg (rfl : (σ55 55 50).toInt = (σ55 55 50).toInt)
                    refine lv_iadd hx hb dX12_game_226 ?_
                    refine lv_topi (fun x341 ex341 => ?_)
                    have tx341 : x341.toInt = (σ55 55 50).toInt + 1 := (jadd ex341 rfl jz_1 (by omega) (by omega)).trans (by omega)
                    refine jput (ty := .int) hx hb hts inlX12 tyX12 tyX12_ok nmX12 hown hK hP hJ hA hS (jc_55 cI cL ad σ312 τ) rfl (k := 50) (by decide) (Nat.le_of_ble_eq_true rfl) (jp_55_50 cI cL ad σ312 τ x341) (hts _ kw_46_13) (fun _ h9 => h9) rfl (by decide +kernel) rfl rfl dX12_game_227 (fun σ342 H locs eσ342 hP hS => ?_)
                    refine lv_goto (tgt := 43) hx hb dX12_game_230 (by decide) ?_
                    have z343 : (σ342 55 12).toInt = (σ 55 12).toInt := (congrArg Int32.toInt (show σ342 55 12 = (σ 55 12) from ((jkp 12 eσ342 (by decide)).trans ((f315 12 (by decide)).trans ((congrFun (jnp 55 eσ299 (by decide)) 12).trans ((congrFun (jnp 55 eσ153 (by decide)) 12).trans ((congrFun (jnp 55 eσ141 (by decide)) 12).trans ((f133 12 (by decide)).trans ((f114 12 (by decide)).trans ((f75 12 (by decide)).trans ((jkp 12 eσ45 (by decide)).trans ((f43 12 (by decide)).trans (f25 12 (by decide))))))))))))))
                    have z344 : (σ342 55 26).toInt = (σ312 55 26).toInt := (congrArg Int32.toInt (show σ342 55 26 = (σ312 55 26) from (jkp 26 eσ342 (by decide))))
                    have z345 : (σ342 55 25).toInt = (σ312 55 25).toInt := (congrArg Int32.toInt (show σ342 55 25 = (σ312 55 25) from (jkp 25 eσ342 (by decide))))
                    have z346 : (σ342 55 10).toInt = (σ 55 10).toInt := (congrArg Int32.toInt (show σ342 55 10 = (σ 55 10) from ((jkp 10 eσ342 (by decide)).trans ((f315 10 (by decide)).trans ((congrFun (jnp 55 eσ299 (by decide)) 10).trans ((congrFun (jnp 55 eσ153 (by decide)) 10).trans ((congrFun (jnp 55 eσ141 (by decide)) 10).trans ((f133 10 (by decide)).trans ((f114 10 (by decide)).trans ((f75 10 (by decide)).trans ((jkp 10 eσ45 (by decide)).trans ((f43 10 (by decide)).trans (f25 10 (by decide))))))))))))))
                    have z347 : (σ342 55 27).toInt = (σ312 55 27).toInt := (congrArg Int32.toInt (show σ342 55 27 = (σ312 55 27) from (jkp 27 eσ342 (by decide))))
                    have z348 : (σ342 55 50).toInt = (σ55 55 50).toInt + 1 := ((congrArg Int32.toInt (show σ342 55 50 = x341 from (jsp eσ342))).trans tx341)
                    have p349 : jKept σ342 := jKept.fr ((jnp 75 eσ342 (by decide)).trans ((f314 75 (by decide)).trans ((jnp 75 eσ299 (by decide)).trans ((jnp 75 eσ153 (by decide)).trans ((jnp 75 eσ141 (by decide)).trans (f132 75 (by decide))))))) ((jnp 76 eσ342 (by decide)).trans ((f314 76 (by decide)).trans ((jnp 76 eσ299 (by decide)).trans ((jnp 76 eσ153 (by decide)).trans ((jnp 76 eσ141 (by decide)).trans (f132 76 (by decide))))))) ((jnp 77 eσ342 (by decide)).trans ((f314 77 (by decide)).trans ((jnp 77 eσ299 (by decide)).trans ((jnp 77 eσ153 (by decide)).trans ((jnp 77 eσ141 (by decide)).trans (f132 77 (by decide))))))) p115
                    have I350 : jI109 σ342 := (show 0 ≤ (σ342 55 50).toInt ∧ (σ342 55 50).toInt ≤ 12 by omega)
                    have w351 : ∀ k : Nat, k < 4 → 0 ≤ (σ342 68 k).toInt ∧ (σ342 68 k).toInt ≤ 3 := (jrr_fr (jnp 68 eσ342 (by decide)) w316)
                    have I352 : jI119 σ342 := w351
                    exact ihlp46 x333 x158 0 σ342 _ _ ls (by have h92 := jz_0; omega) (by have h92 := jz_0; omega) (by have h92 := jz_0; omega) (by have h92 := jz_0; omega) (by have h92 := jz_0; omega) (by have h92 := jz_0; omega) (by have h92 := jz_0; omega) (fun i hi => ((jnp i eσ342 (imp_282 i hi)).trans ((f314 i (imp_284 i hi)).trans ((jnp i eσ299 (imp_289 i hi)).trans ((jnp i eσ153 (imp_290 i hi)).trans ((jnp i eσ141 (imp_291 i hi)).trans ((f132 i (imp_292 i hi)).trans ((f113 i (imp_293 i hi)).trans (f74 i hi))))))))) (fun i hi => ((jkp i eσ342 (imp_294 i hi)).trans ((f315 i (imp_295 i hi)).trans ((congrFun (jnp 55 eσ299 (by decide)) i).trans ((congrFun (jnp 55 eσ153 (by decide)) i).trans ((congrFun (jnp 55 eσ141 (by decide)) i).trans ((f133 i (imp_296 i hi)).trans ((f114 i (imp_297 i hi)).trans (f75 i hi)))))))))  p349 I350 I352 hP hS (lv_sub hl [0, 3, 1, 7, 8, 9] rfl)
                  · have kc338 := jnle c338 rfl tx336
                    refine lv_iconst (v := 1) hx hb dX12_game_213 (by decide) ?_
                    refine lv_goto (tgt := 218) hx hb dX12_game_214 (by decide) ?_
                    refine lv_istore (lv' := [(5, .int 1), (3, .int x333), (9, .int r313), (4, .int x158), (8, .int r131), (7, .int x124), (6, .int r112), (0, .ref (ad 55)), (1, .int a1), (2, .int a2)]) hx hb dX12_game_218 hl (by decide) rfl (fun ls hl => ?_)
                    refine lv_aload_n hx hb dX12_game_220 rfl (lv_at hl 7 rfl) ?_
                    refine lv_dup hx hb dX12_game_221 rfl ?_
                    refine va_get (D := D) hx hb hts inlX12 hown hK hP 55 (jc_55 cI cL ad σ312 τ) rfl 50 (by decide) (hts _ kw_46_13) (fun _ h9 => h9) rfl dX12_game_222 ?_
                    have m353 : σ312 55 50 = (σ55 55 50) := ((f315 50 (by decide)).trans m300)
                    refine jtopr m353 ?_
                    refine lv_iconst (v := 1) hx hb dX12_game_225 (by decide) ?_
                    have g354 := jrg (rfl : (σ55 55 50).toInt = (σ55 55 50).toInt)
                    refine lv_iadd hx hb dX12_game_226 ?_
                    refine lv_topi (fun x355 ex355 => ?_)
                    have tx355 : x355.toInt = (σ55 55 50).toInt + 1 := (jadd ex355 rfl jz_1 (by omega) (by omega)).trans (by omega)
                    refine jput (ty := .int) hx hb hts inlX12 tyX12 tyX12_ok nmX12 hown hK hP hJ hA hS (jc_55 cI cL ad σ312 τ) rfl (k := 50) (by decide) (Nat.le_of_ble_eq_true rfl) (jp_55_50 cI cL ad σ312 τ x355) (hts _ kw_46_13) (fun _ h9 => h9) rfl (by decide +kernel) rfl rfl dX12_game_227 (fun σ356 H locs eσ356 hP hS => ?_)
                    refine lv_goto (tgt := 43) hx hb dX12_game_230 (by decide) ?_
                    have z357 : (σ356 55 12).toInt = (σ 55 12).toInt := (congrArg Int32.toInt (show σ356 55 12 = (σ 55 12) from ((jkp 12 eσ356 (by decide)).trans ((f315 12 (by decide)).trans ((congrFun (jnp 55 eσ299 (by decide)) 12).trans ((congrFun (jnp 55 eσ153 (by decide)) 12).trans ((congrFun (jnp 55 eσ141 (by decide)) 12).trans ((f133 12 (by decide)).trans ((f114 12 (by decide)).trans ((f75 12 (by decide)).trans ((jkp 12 eσ45 (by decide)).trans ((f43 12 (by decide)).trans (f25 12 (by decide))))))))))))))
                    have z358 : (σ356 55 26).toInt = (σ312 55 26).toInt := (congrArg Int32.toInt (show σ356 55 26 = (σ312 55 26) from (jkp 26 eσ356 (by decide))))
                    have z359 : (σ356 55 25).toInt = (σ312 55 25).toInt := (congrArg Int32.toInt (show σ356 55 25 = (σ312 55 25) from (jkp 25 eσ356 (by decide))))
                    have z360 : (σ356 55 10).toInt = (σ 55 10).toInt := (congrArg Int32.toInt (show σ356 55 10 = (σ 55 10) from ((jkp 10 eσ356 (by decide)).trans ((f315 10 (by decide)).trans ((congrFun (jnp 55 eσ299 (by decide)) 10).trans ((congrFun (jnp 55 eσ153 (by decide)) 10).trans ((congrFun (jnp 55 eσ141 (by decide)) 10).trans ((f133 10 (by decide)).trans ((f114 10 (by decide)).trans ((f75 10 (by decide)).trans ((jkp 10 eσ45 (by decide)).trans ((f43 10 (by decide)).trans (f25 10 (by decide))))))))))))))
                    have z361 : (σ356 55 27).toInt = (σ312 55 27).toInt := (congrArg Int32.toInt (show σ356 55 27 = (σ312 55 27) from (jkp 27 eσ356 (by decide))))
                    have z362 : (σ356 55 50).toInt = (σ55 55 50).toInt + 1 := ((congrArg Int32.toInt (show σ356 55 50 = x355 from (jsp eσ356))).trans tx355)
                    have p363 : jKept σ356 := jKept.fr ((jnp 75 eσ356 (by decide)).trans ((f314 75 (by decide)).trans ((jnp 75 eσ299 (by decide)).trans ((jnp 75 eσ153 (by decide)).trans ((jnp 75 eσ141 (by decide)).trans (f132 75 (by decide))))))) ((jnp 76 eσ356 (by decide)).trans ((f314 76 (by decide)).trans ((jnp 76 eσ299 (by decide)).trans ((jnp 76 eσ153 (by decide)).trans ((jnp 76 eσ141 (by decide)).trans (f132 76 (by decide))))))) ((jnp 77 eσ356 (by decide)).trans ((f314 77 (by decide)).trans ((jnp 77 eσ299 (by decide)).trans ((jnp 77 eσ153 (by decide)).trans ((jnp 77 eσ141 (by decide)).trans (f132 77 (by decide))))))) p115
                    have I364 : jI109 σ356 := (show 0 ≤ (σ356 55 50).toInt ∧ (σ356 55 50).toInt ≤ 12 by omega)
                    have w365 : ∀ k : Nat, k < 4 → 0 ≤ (σ356 68 k).toInt ∧ (σ356 68 k).toInt ≤ 3 := (jrr_fr (jnp 68 eσ356 (by decide)) w316)
                    have I366 : jI119 σ356 := w365
                    exact ihlp46 x333 x158 1 σ356 _ _ ls (by have h92 := jz_1; omega) (by have h92 := jz_1; omega) (by have h92 := jz_1; omega) (by have h92 := jz_1; omega) (by have h92 := jz_1; omega) (by have h92 := jz_1; omega) (by have h92 := jz_1; omega) (fun i hi => ((jnp i eσ356 (imp_282 i hi)).trans ((f314 i (imp_284 i hi)).trans ((jnp i eσ299 (imp_289 i hi)).trans ((jnp i eσ153 (imp_290 i hi)).trans ((jnp i eσ141 (imp_291 i hi)).trans ((f132 i (imp_292 i hi)).trans ((f113 i (imp_293 i hi)).trans (f74 i hi))))))))) (fun i hi => ((jkp i eσ356 (imp_294 i hi)).trans ((f315 i (imp_295 i hi)).trans ((congrFun (jnp 55 eσ299 (by decide)) i).trans ((congrFun (jnp 55 eσ153 (by decide)) i).trans ((congrFun (jnp 55 eσ141 (by decide)) i).trans ((f133 i (imp_296 i hi)).trans ((f114 i (imp_297 i hi)).trans (f75 i hi)))))))))  p363 I364 I366 hP hS (lv_sub hl [0, 3, 1, 7, 8, 9] rfl)
                · have kc302 := jeq c302 rfl jz_1
                  refine lv_iconst (v := 1) hx hb dX12_game_178 (by decide) ?_
                  refine lv_goto (tgt := 183) hx hb dX12_game_179 (by decide) ?_
                  have w367 : ∀ k : Nat, k < 4 → 0 ≤ (σ299 68 k).toInt ∧ (σ299 68 k).toInt ≤ 3 := (jrr_fr (jnp 68 eσ299 (by decide)) (jrr_fr (jnp 68 eσ153 (by decide)) w146))
                  have z368 : (σ299 55 6).toInt = (σ 55 6).toInt := (congrArg Int32.toInt (show σ299 55 6 = (σ 55 6) from ((congrFun (jnp 55 eσ299 (by decide)) 6).trans ((congrFun (jnp 55 eσ153 (by decide)) 6).trans ((congrFun (jnp 55 eσ141 (by decide)) 6).trans ((f133 6 (by decide)).trans ((f114 6 (by decide)).trans ((f75 6 (by decide)).trans ((jkp 6 eσ45 (by decide)).trans ((f43 6 (by decide)).trans (f25 6 (by decide))))))))))))
                  have z369 : (σ299 55 27).toInt = (σ55 55 27).toInt := (congrArg Int32.toInt (show σ299 55 27 = (σ55 55 27) from ((congrFun (jnp 55 eσ299 (by decide)) 27).trans ((congrFun (jnp 55 eσ153 (by decide)) 27).trans ((congrFun (jnp 55 eσ141 (by decide)) 27).trans ((f133 27 (by decide)).trans (f114 27 (by decide))))))))
                  have z370 : (σ299 55 25).toInt = (σ55 55 25).toInt := (congrArg Int32.toInt (show σ299 55 25 = (σ55 55 25) from ((congrFun (jnp 55 eσ299 (by decide)) 25).trans ((congrFun (jnp 55 eσ153 (by decide)) 25).trans ((congrFun (jnp 55 eσ141 (by decide)) 25).trans ((f133 25 (by decide)).trans m121))))))
                  have z371 : (σ299 55 26).toInt = (σ55 55 26).toInt := (congrArg Int32.toInt (show σ299 55 26 = (σ55 55 26) from ((congrFun (jnp 55 eσ299 (by decide)) 26).trans ((congrFun (jnp 55 eσ153 (by decide)) 26).trans ((congrFun (jnp 55 eσ141 (by decide)) 26).trans ((f133 26 (by decide)).trans (f114 26 (by decide))))))))
                  have z372 : (σ299 68 0).toInt = (σ55 68 0).toInt := (congrArg Int32.toInt (show σ299 68 0 = (σ55 68 0) from ((congrFun (jnp 68 eσ299 (by decide)) 0).trans ((congrFun (jnp 68 eσ153 (by decide)) 0).trans ((congrFun (jnp 68 eσ141 (by decide)) 0).trans ((congrFun (f132 68 (by decide)) 0).trans (congrFun (f113 68 (by decide)) 0)))))))
                  have z373 : (σ299 68 1).toInt = (σ55 68 1).toInt := (congrArg Int32.toInt (show σ299 68 1 = (σ55 68 1) from ((congrFun (jnp 68 eσ299 (by decide)) 1).trans ((congrFun (jnp 68 eσ153 (by decide)) 1).trans ((congrFun (jnp 68 eσ141 (by decide)) 1).trans ((congrFun (f132 68 (by decide)) 1).trans (congrFun (f113 68 (by decide)) 1)))))))
                  have z374 : (σ299 68 2).toInt = (σ55 68 2).toInt := (congrArg Int32.toInt (show σ299 68 2 = (σ55 68 2) from ((congrFun (jnp 68 eσ299 (by decide)) 2).trans ((congrFun (jnp 68 eσ153 (by decide)) 2).trans ((congrFun (jnp 68 eσ141 (by decide)) 2).trans ((congrFun (f132 68 (by decide)) 2).trans (congrFun (f113 68 (by decide)) 2)))))))
                  have z375 : (σ299 68 3).toInt = (σ55 68 3).toInt := (congrArg Int32.toInt (show σ299 68 3 = (σ55 68 3) from ((congrFun (jnp 68 eσ299 (by decide)) 3).trans ((congrFun (jnp 68 eσ153 (by decide)) 3).trans ((congrFun (jnp 68 eσ141 (by decide)) 3).trans ((congrFun (f132 68 (by decide)) 3).trans (congrFun (f113 68 (by decide)) 3)))))))
                  refine jcallV (As := [.int r112, .int 1]) (rest := []) ⟨hx, hb, hml, hown, hts⟩ hK hP hA hS hZ (c_X12_goes_1 l D cI cL ad zz hJ σ299 τ r112 (r112.toInt) rfl w367 (by omega) (by omega) (by omega) (by omega) (by omega)) cw_RX12_296 (jc_55 cI cL ad σ299 τ) rfl ⟨Nat.le_of_ble_eq_true rfl, Nat.le_of_ble_eq_true rfl⟩ rfl rfl rfl hl.1 rfl (Nat.le_of_ble_eq_true rfl) dX12_game_183 ⟨Nat.zero_le _, Nat.zero_le _⟩ (fun r377 σ376 τ376 H locs h376 hP hS => ?_)
                  obtain ⟨rfl, f378, f379, w380, w381, w382, h376⟩ := h376
                  obtain ⟨k384, k385, k386, h376⟩ := h376
                  have h387 := h376
                  obtain ⟨q393, k388, k389, k390, k391, k392⟩ := h387
                  refine lv_istore (lv' := [(9, .int r377), (3, .int x162), (4, .int x158), (8, .int r131), (7, .int x124), (6, .int r112), (5, .int x50), (0, .ref (ad 55)), (1, .int a1), (2, .int a2)]) hx hb dX12_game_186 hl (by decide) rfl (fun ls hl => ?_)
                  refine lv_iload_n hx hb dX12_game_188 rfl (lv_at hl 1 rfl) ?_
                  refine lv_ldcw (v := 1103515245) hx hb hown (hts _ kw_46_14) dX12_game_189 ?_
                  have g394 := jrg (rfl : x162.toInt = x162.toInt)
                  refine lv_imul hx hb dX12_game_192 ?_
                  refine lv_topi (fun x395 ex395 => ?_)
                  have gx395 := jrg (rfl : x395.toInt = x395.toInt)
                  refine lv_sipush (v := 12345) hx hb dX12_game_193 (by decide) ?_
                  have g396 := jrg (rfl : x395.toInt = x395.toInt)
                  refine lv_iadd hx hb dX12_game_196 ?_
                  refine lv_topi (fun x397 ex397 => ?_)
                  have gx397 := jrg (rfl : x397.toInt = x397.toInt)
                  refine lv_istore_n (lv' := [(3, .int x397), (9, .int r377), (4, .int x158), (8, .int r131), (7, .int x124), (6, .int r112), (5, .int x50), (0, .ref (ad 55)), (1, .int a1), (2, .int a2)]) hx hb dX12_game_197 rfl hl (by decide) rfl (fun ls hl => ?_)
                  refine lv_iload_n hx hb dX12_game_198 rfl (lv_at hl 0 rfl) ?_
                  refine lv_bipush (v := 8) hx hb dX12_game_199 (by decide) ?_
                  refine lv_iushr hx hb dX12_game_201 rfl ?_
                  refine lv_topi (fun x398 ex398 => ?_)
                  have gx398 := jrg (rfl : x398.toInt = x398.toInt)
                  have g399 : 0 ≤ x398.toInt ∧ x398.toInt ≤ 16777215 := jushr8 ex398
                  refine lv_sipush (v := 1000) hx hb dX12_game_202 (by decide) ?_
                  refine lv_irem hx hb dX12_game_205 (by decide) ?_
                  refine lv_topi (fun x400 ex400 => ?_)
                  have tx400 : x400.toInt = (x398.toInt % 1000) := jrem ex400 rfl jz_1000 (by omega)
                  refine lv_aload_n hx hb dX12_game_206 rfl (lv_at hl 7 rfl) ?_
                  refine va_get (D := D) hx hb hts inlX12 hown hK hP 55 (jc_55 cI cL ad σ376 τ) rfl 13 (by decide) (hts _ kw_15_14) (fun _ h9 => h9) rfl dX12_game_207 ?_
                  have m401 : σ376 55 13 = (σ 55 13) := ((f379 13 (by decide)).trans ((congrFun (jnp 55 eσ299 (by decide)) 13).trans ((congrFun (jnp 55 eσ153 (by decide)) 13).trans ((congrFun (jnp 55 eσ141 (by decide)) 13).trans ((f133 13 (by decide)).trans ((f114 13 (by decide)).trans ((f75 13 (by decide)).trans ((jkp 13 eσ45 (by decide)).trans ((f43 13 (by decide)).trans (f25 13 (by decide)))))))))))
                  refine jtopr m401 ?_
                  refine lv_icmp_ge (tgt := 217) hx hb dX12_game_210 (by decide) (fun c402 => ?_) (fun c402 => ?_)
                  · have kc402 := jle c402 rfl tx400
                    refine lv_iconst (v := 0) hx hb dX12_game_217 (by decide) ?_
                    refine lv_istore (lv' := [(5, .int 0), (3, .int x397), (9, .int r377), (4, .int x158), (8, .int r131), (7, .int x124), (6, .int r112), (0, .ref (ad 55)), (1, .int a1), (2, .int a2)]) hx hb dX12_game_218 hl (by decide) rfl (fun ls hl => ?_)
                    refine lv_aload_n hx hb dX12_game_220 rfl (lv_at hl 7 rfl) ?_
                    refine lv_dup hx hb dX12_game_221 rfl ?_
                    refine va_get (D := D) hx hb hts inlX12 hown hK hP 55 (jc_55 cI cL ad σ376 τ) rfl 50 (by decide) (hts _ kw_46_13) (fun _ h9 => h9) rfl dX12_game_222 ?_
                    have m403 : σ376 55 50 = (σ55 55 50) := ((f379 50 (by decide)).trans m300)
                    refine jtopr m403 ?_
                    refine lv_iconst (v := 1) hx hb dX12_game_225 (by decide) ?_
                    have g404 := jrg (rfl : (σ55 55 50).toInt = (σ55 55 50).toInt)
                    refine lv_iadd hx hb dX12_game_226 ?_
                    refine lv_topi (fun x405 ex405 => ?_)
                    have tx405 : x405.toInt = (σ55 55 50).toInt + 1 := (jadd ex405 rfl jz_1 (by omega) (by omega)).trans (by omega)
                    refine jput (ty := .int) hx hb hts inlX12 tyX12 tyX12_ok nmX12 hown hK hP hJ hA hS (jc_55 cI cL ad σ376 τ) rfl (k := 50) (by decide) (Nat.le_of_ble_eq_true rfl) (jp_55_50 cI cL ad σ376 τ x405) (hts _ kw_46_13) (fun _ h9 => h9) rfl (by decide +kernel) rfl rfl dX12_game_227 (fun σ406 H locs eσ406 hP hS => ?_)
                    refine lv_goto (tgt := 43) hx hb dX12_game_230 (by decide) ?_
                    have z407 : (σ406 55 12).toInt = (σ 55 12).toInt := (congrArg Int32.toInt (show σ406 55 12 = (σ 55 12) from ((jkp 12 eσ406 (by decide)).trans ((f379 12 (by decide)).trans ((congrFun (jnp 55 eσ299 (by decide)) 12).trans ((congrFun (jnp 55 eσ153 (by decide)) 12).trans ((congrFun (jnp 55 eσ141 (by decide)) 12).trans ((f133 12 (by decide)).trans ((f114 12 (by decide)).trans ((f75 12 (by decide)).trans ((jkp 12 eσ45 (by decide)).trans ((f43 12 (by decide)).trans (f25 12 (by decide))))))))))))))
                    have z408 : (σ406 55 26).toInt = (σ376 55 26).toInt := (congrArg Int32.toInt (show σ406 55 26 = (σ376 55 26) from (jkp 26 eσ406 (by decide))))
                    have z409 : (σ406 55 25).toInt = (σ376 55 25).toInt := (congrArg Int32.toInt (show σ406 55 25 = (σ376 55 25) from (jkp 25 eσ406 (by decide))))
                    have z410 : (σ406 55 10).toInt = (σ 55 10).toInt := (congrArg Int32.toInt (show σ406 55 10 = (σ 55 10) from ((jkp 10 eσ406 (by decide)).trans ((f379 10 (by decide)).trans ((congrFun (jnp 55 eσ299 (by decide)) 10).trans ((congrFun (jnp 55 eσ153 (by decide)) 10).trans ((congrFun (jnp 55 eσ141 (by decide)) 10).trans ((f133 10 (by decide)).trans ((f114 10 (by decide)).trans ((f75 10 (by decide)).trans ((jkp 10 eσ45 (by decide)).trans ((f43 10 (by decide)).trans (f25 10 (by decide))))))))))))))
                    have z411 : (σ406 55 27).toInt = (σ376 55 27).toInt := (congrArg Int32.toInt (show σ406 55 27 = (σ376 55 27) from (jkp 27 eσ406 (by decide))))
                    have z412 : (σ406 55 50).toInt = (σ55 55 50).toInt + 1 := ((congrArg Int32.toInt (show σ406 55 50 = x405 from (jsp eσ406))).trans tx405)
                    have p413 : jKept σ406 := jKept.fr ((jnp 75 eσ406 (by decide)).trans ((f378 75 (by decide)).trans ((jnp 75 eσ299 (by decide)).trans ((jnp 75 eσ153 (by decide)).trans ((jnp 75 eσ141 (by decide)).trans (f132 75 (by decide))))))) ((jnp 76 eσ406 (by decide)).trans ((f378 76 (by decide)).trans ((jnp 76 eσ299 (by decide)).trans ((jnp 76 eσ153 (by decide)).trans ((jnp 76 eσ141 (by decide)).trans (f132 76 (by decide))))))) ((jnp 77 eσ406 (by decide)).trans ((f378 77 (by decide)).trans ((jnp 77 eσ299 (by decide)).trans ((jnp 77 eσ153 (by decide)).trans ((jnp 77 eσ141 (by decide)).trans (f132 77 (by decide))))))) p115
                    have I414 : jI109 σ406 := (show 0 ≤ (σ406 55 50).toInt ∧ (σ406 55 50).toInt ≤ 12 by omega)
                    have w415 : ∀ k : Nat, k < 4 → 0 ≤ (σ406 68 k).toInt ∧ (σ406 68 k).toInt ≤ 3 := (jrr_fr (jnp 68 eσ406 (by decide)) w380)
                    have I416 : jI119 σ406 := w415
                    exact ihlp46 x397 x158 0 σ406 _ _ ls (by have h92 := jz_0; omega) (by have h92 := jz_0; omega) (by have h92 := jz_0; omega) (by have h92 := jz_0; omega) (by have h92 := jz_0; omega) (by have h92 := jz_0; omega) (by have h92 := jz_0; omega) (fun i hi => ((jnp i eσ406 (imp_282 i hi)).trans ((f378 i (imp_284 i hi)).trans ((jnp i eσ299 (imp_289 i hi)).trans ((jnp i eσ153 (imp_290 i hi)).trans ((jnp i eσ141 (imp_291 i hi)).trans ((f132 i (imp_292 i hi)).trans ((f113 i (imp_293 i hi)).trans (f74 i hi))))))))) (fun i hi => ((jkp i eσ406 (imp_294 i hi)).trans ((f379 i (imp_295 i hi)).trans ((congrFun (jnp 55 eσ299 (by decide)) i).trans ((congrFun (jnp 55 eσ153 (by decide)) i).trans ((congrFun (jnp 55 eσ141 (by decide)) i).trans ((f133 i (imp_296 i hi)).trans ((f114 i (imp_297 i hi)).trans (f75 i hi)))))))))  p413 I414 I416 hP hS (lv_sub hl [0, 3, 1, 7, 8, 9] rfl)
                  · have kc402 := jnle c402 rfl tx400
                    refine lv_iconst (v := 1) hx hb dX12_game_213 (by decide) ?_
                    refine lv_goto (tgt := 218) hx hb dX12_game_214 (by decide) ?_
                    refine lv_istore (lv' := [(5, .int 1), (3, .int x397), (9, .int r377), (4, .int x158), (8, .int r131), (7, .int x124), (6, .int r112), (0, .ref (ad 55)), (1, .int a1), (2, .int a2)]) hx hb dX12_game_218 hl (by decide) rfl (fun ls hl => ?_)
                    refine lv_aload_n hx hb dX12_game_220 rfl (lv_at hl 7 rfl) ?_
                    refine lv_dup hx hb dX12_game_221 rfl ?_
                    refine va_get (D := D) hx hb hts inlX12 hown hK hP 55 (jc_55 cI cL ad σ376 τ) rfl 50 (by decide) (hts _ kw_46_13) (fun _ h9 => h9) rfl dX12_game_222 ?_
                    have m417 : σ376 55 50 = (σ55 55 50) := ((f379 50 (by decide)).trans m300)
                    refine jtopr m417 ?_
                    refine lv_iconst (v := 1) hx hb dX12_game_225 (by decide) ?_
                    have g418 := jrg (rfl : (σ55 55 50).toInt = (σ55 55 50).toInt)
                    refine lv_iadd hx hb dX12_game_226 ?_
                    refine lv_topi (fun x419 ex419 => ?_)
                    have tx419 : x419.toInt = (σ55 55 50).toInt + 1 := (jadd ex419 rfl jz_1 (by omega) (by omega)).trans (by omega)
                    refine jput (ty := .int) hx hb hts inlX12 tyX12 tyX12_ok nmX12 hown hK hP hJ hA hS (jc_55 cI cL ad σ376 τ) rfl (k := 50) (by decide) (Nat.le_of_ble_eq_true rfl) (jp_55_50 cI cL ad σ376 τ x419) (hts _ kw_46_13) (fun _ h9 => h9) rfl (by decide +kernel) rfl rfl dX12_game_227 (fun σ420 H locs eσ420 hP hS => ?_)
                    refine lv_goto (tgt := 43) hx hb dX12_game_230 (by decide) ?_
                    have z421 : (σ420 55 12).toInt = (σ 55 12).toInt := (congrArg Int32.toInt (show σ420 55 12 = (σ 55 12) from ((jkp 12 eσ420 (by decide)).trans ((f379 12 (by decide)).trans ((congrFun (jnp 55 eσ299 (by decide)) 12).trans ((congrFun (jnp 55 eσ153 (by decide)) 12).trans ((congrFun (jnp 55 eσ141 (by decide)) 12).trans ((f133 12 (by decide)).trans ((f114 12 (by decide)).trans ((f75 12 (by decide)).trans ((jkp 12 eσ45 (by decide)).trans ((f43 12 (by decide)).trans (f25 12 (by decide))))))))))))))
                    have z422 : (σ420 55 26).toInt = (σ376 55 26).toInt := (congrArg Int32.toInt (show σ420 55 26 = (σ376 55 26) from (jkp 26 eσ420 (by decide))))
                    have z423 : (σ420 55 25).toInt = (σ376 55 25).toInt := (congrArg Int32.toInt (show σ420 55 25 = (σ376 55 25) from (jkp 25 eσ420 (by decide))))
                    have z424 : (σ420 55 10).toInt = (σ 55 10).toInt := (congrArg Int32.toInt (show σ420 55 10 = (σ 55 10) from ((jkp 10 eσ420 (by decide)).trans ((f379 10 (by decide)).trans ((congrFun (jnp 55 eσ299 (by decide)) 10).trans ((congrFun (jnp 55 eσ153 (by decide)) 10).trans ((congrFun (jnp 55 eσ141 (by decide)) 10).trans ((f133 10 (by decide)).trans ((f114 10 (by decide)).trans ((f75 10 (by decide)).trans ((jkp 10 eσ45 (by decide)).trans ((f43 10 (by decide)).trans (f25 10 (by decide))))))))))))))
                    have z425 : (σ420 55 27).toInt = (σ376 55 27).toInt := (congrArg Int32.toInt (show σ420 55 27 = (σ376 55 27) from (jkp 27 eσ420 (by decide))))
                    have z426 : (σ420 55 50).toInt = (σ55 55 50).toInt + 1 := ((congrArg Int32.toInt (show σ420 55 50 = x419 from (jsp eσ420))).trans tx419)
                    have p427 : jKept σ420 := jKept.fr ((jnp 75 eσ420 (by decide)).trans ((f378 75 (by decide)).trans ((jnp 75 eσ299 (by decide)).trans ((jnp 75 eσ153 (by decide)).trans ((jnp 75 eσ141 (by decide)).trans (f132 75 (by decide))))))) ((jnp 76 eσ420 (by decide)).trans ((f378 76 (by decide)).trans ((jnp 76 eσ299 (by decide)).trans ((jnp 76 eσ153 (by decide)).trans ((jnp 76 eσ141 (by decide)).trans (f132 76 (by decide))))))) ((jnp 77 eσ420 (by decide)).trans ((f378 77 (by decide)).trans ((jnp 77 eσ299 (by decide)).trans ((jnp 77 eσ153 (by decide)).trans ((jnp 77 eσ141 (by decide)).trans (f132 77 (by decide))))))) p115
                    have I428 : jI109 σ420 := (show 0 ≤ (σ420 55 50).toInt ∧ (σ420 55 50).toInt ≤ 12 by omega)
                    have w429 : ∀ k : Nat, k < 4 → 0 ≤ (σ420 68 k).toInt ∧ (σ420 68 k).toInt ≤ 3 := (jrr_fr (jnp 68 eσ420 (by decide)) w380)
                    have I430 : jI119 σ420 := w429
                    exact ihlp46 x397 x158 1 σ420 _ _ ls (by have h92 := jz_1; omega) (by have h92 := jz_1; omega) (by have h92 := jz_1; omega) (by have h92 := jz_1; omega) (by have h92 := jz_1; omega) (by have h92 := jz_1; omega) (by have h92 := jz_1; omega) (fun i hi => ((jnp i eσ420 (imp_282 i hi)).trans ((f378 i (imp_284 i hi)).trans ((jnp i eσ299 (imp_289 i hi)).trans ((jnp i eσ153 (imp_290 i hi)).trans ((jnp i eσ141 (imp_291 i hi)).trans ((f132 i (imp_292 i hi)).trans ((f113 i (imp_293 i hi)).trans (f74 i hi))))))))) (fun i hi => ((jkp i eσ420 (imp_294 i hi)).trans ((f379 i (imp_295 i hi)).trans ((congrFun (jnp 55 eσ299 (by decide)) i).trans ((congrFun (jnp 55 eσ153 (by decide)) i).trans ((congrFun (jnp 55 eσ141 (by decide)) i).trans ((f133 i (imp_296 i hi)).trans ((f114 i (imp_297 i hi)).trans (f75 i hi)))))))))  p427 I428 I430 hP hS (lv_sub hl [0, 3, 1, 7, 8, 9] rfl)
      exact lp46 1000000 a2 0 0 σ45 _ _ ls (by have h90 := t2; have h91 := jz_0; have h92 := jz_0; omega) (by have h90 := t2; have h91 := jz_0; have h92 := jz_0; omega) (by have h90 := t2; have h91 := jz_0; have h92 := jz_0; omega) (by have h90 := t2; have h91 := jz_0; have h92 := jz_0; omega) (by have h90 := t2; have h91 := jz_0; have h92 := jz_0; omega) (by have h90 := t2; have h91 := jz_0; have h92 := jz_0; omega) (by have h90 := t2; have h91 := jz_0; have h92 := jz_0; omega) (fun _ _ => rfl) (fun _ _ => rfl)  p66 I57 I59 hP hS hl
    · have kc20 := jnle c20 rfl jz_8
      refine lv_bipush (v := (-4)) hx hb dX12_game_19 (by decide) ?_
      exact hret (-4) σ τ _ _ _ _ rfl ⟨rfl, (fun _ _ => rfl), (fun _ _ => rfl), hI109, hI119, hs_jKept, hs_jTR, trivial⟩ hP hS dX12_game_21
  · obtain ⟨q432, k431⟩ := h17
    have q432 := q432.symm
    subst q432
    refine lv_if_ne (tgt := 10) hx hb dX12_game_5 (by decide) (fun c => absurd (by decide) c) (fun _ => ?_)
    refine lv_iconst (v := (-1)) hx hb dX12_game_8 (by decide) ?_
    exact hret (-1) σ τ _ _ _ _ rfl ⟨rfl, (fun _ _ => rfl), (fun _ _ => rfl), hI109, hI119, hs_jKept, hs_jTR, trivial⟩ hP hS dX12_game_9
set_option maxHeartbeats 4000000 in
set_option maxRecDepth 100000 in
theorem c_X12_led (l : Launch) (D : va_G) (cI cL : ClassId) (ad zz : Nat → Nat) (hJ : jD ad) (σ : Nat → Nat → Int32) (τ : Nat → Nat → Int64) (a1 : Int32) (A1 : Int) (t1 : a1.toInt = A1) (a2 : Int32) (A2 : Int) (t2 : a2.toInt = A2) (hI109 : jI109 σ) : jM l yX12_led cX12_led 3 (some .int) ({ frames := 1, cells := 0, slots := 0, locals := 25 }) D cI cL ad zz [.ref (ad 55), .int a1, .int a2] σ τ (fun r σ' τ' => (σ = σ' ∧ τ = τ') ∧ True) := by
  refine jM.of hJ (by decide +kernel) (nt := .int) rfl (Nat.le_of_ble_eq_true rfl) ?_
  intro p e s m args below meth c Q ls hC hret hl hP
  obtain ⟨hx, hb, hr, hml, hown, hts, hK, -, hlocks, hZ⟩ := hC
  have hown : s.vm.findClass RX12 = some m.cls := hown
  have hS : va_S (jA ad) s.heap s.heap [] := va_S.rf
  have hA : ∀ q, jA ad q → jA ad q := fun _ h => h
  have hl : lv_has ls 3 [(0, .ref (ad 55)), (1, .int a1), (2, .int a2)] := hl
  have g1 := jrg t1
  have g2 := jrg t2
  have i1 : 0 ≤ (σ 55 50).toInt ∧ (σ 55 50).toInt ≤ 12 := hI109
  refine lv_iload_n hx hb dX12_led_0 rfl (lv_at hl 1 rfl) ?_
  refine lv_iconst (v := (-1)) hx hb dX12_led_1 (by decide) ?_
  refine lv_icmp_ne (tgt := 18) hx hb dX12_led_2 (by decide) (fun c2 => ?_) (fun c2 => ?_)
  · have kc2 := jne c2 t1 jz_m1
    refine lv_iload_n hx hb dX12_led_18 rfl (lv_at hl 1 rfl) ?_
    refine lv_i2l (v := a1.toInt64) hx hb dX12_led_19 rfl ?_
    refine lv_lconst (v := 0) hx hb dX12_led_20 (by decide) ?_
    refine lv_aload_n hx hb dX12_led_21 rfl (lv_at hl 0 rfl) ?_
    refine va_get (D := D) hx hb hts inlX12 hown hK hP 55 (jc_55 cI cL ad σ τ) rfl 50 (by decide) (hts _ kw_46_13) (fun _ h9 => h9) rfl dX12_led_22 ?_
    refine lv_iconst (v := 1) hx hb dX12_led_25 (by decide) ?_
    have g3 := jrg (rfl : (σ 55 50).toInt = (σ 55 50).toInt)
    refine lv_isub hx hb dX12_led_26 ?_
    refine lv_topi (fun x4 ex4 => ?_)
    have tx4 : x4.toInt = (σ 55 50).toInt - 1 := (jsub ex4 rfl jz_1 (by omega) (by omega)).trans (by omega)
    refine lv_i2l (v := x4.toInt64) hx hb dX12_led_27 rfl ?_
    refine jcallS (As := [.long a1.toInt64, .long 0, .long x4.toInt64]) (rest := []) ⟨hx, hb, hml, hown, hts⟩ hK hP hA hS hZ (c_X12_within l D cI cL ad zz hJ σ τ a1.toInt64 (A1) (jtoL t1) 0 (0) jzl_0 x4.toInt64 ((σ 55 50).toInt - 1) (jtoL tx4)) cw_RX12_136 ⟨Nat.le_of_ble_eq_true rfl, Nat.le_of_ble_eq_true rfl⟩ rfl rfl rfl hl.1 rfl (Nat.le_of_ble_eq_true rfl) dX12_led_28 ⟨Nat.zero_le _, Nat.zero_le _⟩ (fun r6 σ5 τ5 H locs h5 hP hS => ?_)
    obtain ⟨⟨rfl, rfl⟩, h5⟩ := h5
    rcases h5 with h7 | h8
    · obtain ⟨q10, k9⟩ := h7
      have q10 := q10.symm
      subst q10
      refine lv_if_ne (tgt := 36) hx hb dX12_led_31 (by decide) (fun _ => ?_) (fun c => absurd c (by decide))
      refine lv_iload_n hx hb dX12_led_36 rfl (lv_at hl 2 rfl) ?_
      by_cases c11 : a2 = 0
      · have kc11 := jeq c11 t2 jz_0
        refine jtopr c11 ?_
        refine lv_tableIn (off := 27) (tgt := 64) hx hb dX12_led_37 (by decide) (by decide) (by decide) (by decide) ?_
        refine lv_aload_n hx hb dX12_led_64 rfl (lv_at hl 0 rfl) ?_
        refine va_get (D := D) hx hb hts inlX12 hown hK hP 55 (jc_55 cI cL ad σ τ) rfl 51 (by decide) (hts _ kw_8_7) (fun _ h9 => h9) rfl dX12_led_65 ?_
        refine lv_iload_n hx hb dX12_led_68 rfl (lv_at hl 1 rfl) ?_
        refine jald hx hb hK hP (jc_82 cI cL ad σ τ) (jin t1 (by omega) (by omega)) dX12_led_69 ?_
        refine lv_topi (fun x12 ex12 => ?_)
        exact hret x12 σ τ _ _ _ _ rfl ⟨⟨rfl, rfl⟩, trivial⟩ hP hS dX12_led_70
      have kc11 := jne c11 t2 jz_0
      by_cases c13 : a2 = 1
      · have kc13 := jeq c13 t2 jz_1
        refine jtopr c13 ?_
        refine lv_tableIn (off := 34) (tgt := 71) hx hb dX12_led_37 (by decide) (by decide) (by decide) (by decide) ?_
        refine lv_aload_n hx hb dX12_led_71 rfl (lv_at hl 0 rfl) ?_
        refine va_get (D := D) hx hb hts inlX12 hown hK hP 55 (jc_55 cI cL ad σ τ) rfl 52 (by decide) (hts _ kw_8_8) (fun _ h9 => h9) rfl dX12_led_72 ?_
        refine lv_iload_n hx hb dX12_led_75 rfl (lv_at hl 1 rfl) ?_
        refine jald hx hb hK hP (jc_83 cI cL ad σ τ) (jin t1 (by omega) (by omega)) dX12_led_76 ?_
        refine lv_topi (fun x14 ex14 => ?_)
        exact hret x14 σ τ _ _ _ _ rfl ⟨⟨rfl, rfl⟩, trivial⟩ hP hS dX12_led_77
      have kc13 := jne c13 t2 jz_1
      by_cases c15 : a2 = 2
      · have kc15 := jeq c15 t2 jz_2
        refine jtopr c15 ?_
        refine lv_tableIn (off := 41) (tgt := 78) hx hb dX12_led_37 (by decide) (by decide) (by decide) (by decide) ?_
        refine lv_aload_n hx hb dX12_led_78 rfl (lv_at hl 0 rfl) ?_
        refine va_get (D := D) hx hb hts inlX12 hown hK hP 55 (jc_55 cI cL ad σ τ) rfl 53 (by decide) (hts _ kw_8_9) (fun _ h9 => h9) rfl dX12_led_79 ?_
        refine lv_iload_n hx hb dX12_led_82 rfl (lv_at hl 1 rfl) ?_
        refine jald hx hb hK hP (jc_84 cI cL ad σ τ) (jin t1 (by omega) (by omega)) dX12_led_83 ?_
        refine lv_topi (fun x16 ex16 => ?_)
        exact hret x16 σ τ _ _ _ _ rfl ⟨⟨rfl, rfl⟩, trivial⟩ hP hS dX12_led_84
      have kc15 := jne c15 t2 jz_2
      refine lv_tableOut (tgt := 85) hx hb dX12_led_37 (by rw [t2]; omega) (by decide) ?_
      refine lv_iconst (v := (-1)) hx hb dX12_led_85 (by decide) ?_
      exact hret (-1) σ τ _ _ _ _ rfl ⟨⟨rfl, rfl⟩, trivial⟩ hP hS dX12_led_86
    · obtain ⟨q18, k17⟩ := h8
      have q18 := q18.symm
      subst q18
      refine lv_if_ne (tgt := 36) hx hb dX12_led_31 (by decide) (fun c => absurd (by decide) c) (fun _ => ?_)
      refine lv_iconst (v := (-1)) hx hb dX12_led_34 (by decide) ?_
      exact hret (-1) σ τ _ _ _ _ rfl ⟨⟨rfl, rfl⟩, trivial⟩ hP hS dX12_led_35
  · have kc2 := jeq c2 t1 jz_m1
    refine lv_iload_n hx hb dX12_led_5 rfl (lv_at hl 2 rfl) ?_
    refine lv_if_ne (tgt := 16) hx hb dX12_led_6 (by decide) (fun c19 => ?_) (fun c19 => ?_)
    · have kc19 := jne c19 t2 jz_0
      refine lv_iconst (v := (-1)) hx hb dX12_led_16 (by decide) ?_
      exact hret (-1) σ τ _ _ _ _ rfl ⟨⟨rfl, rfl⟩, trivial⟩ hP hS dX12_led_17
    · have kc19 := jeq c19 t2 jz_0
      refine lv_aload_n hx hb dX12_led_9 rfl (lv_at hl 0 rfl) ?_
      refine va_get (D := D) hx hb hts inlX12 hown hK hP 55 (jc_55 cI cL ad σ τ) rfl 50 (by decide) (hts _ kw_46_13) (fun _ h9 => h9) rfl dX12_led_10 ?_
      refine lv_goto (tgt := 17) hx hb dX12_led_13 (by decide) ?_
      exact hret (σ 55 50) σ τ _ _ _ _ rfl ⟨⟨rfl, rfl⟩, trivial⟩ hP hS dX12_led_17
