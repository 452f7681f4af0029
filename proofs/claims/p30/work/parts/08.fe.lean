set_option maxHeartbeats 4000000 in
set_option maxRecDepth 100000 in
theorem c_X12_cost (l : Launch) (D : va_G) (cI cL : ClassId) (ad zz : Nat → Nat) (hJ : jD ad) (σ : Nat → Nat → Int32) (τ : Nat → Nat → Int64) (a1 : Int32) (A1 : Int) (t1 : a1.toInt = A1) (hI101 : jI101 σ) (hI102 : jI102 σ) (hI103 : jI103 σ) (hI104 : jI104 σ) (hI105 : jI105 σ) (hI106 : jI106 σ) (hI107 : jI107 σ) (hI119 : jI119 σ) (hs_jKept : jKept σ) (hs_jBook : jBook σ) : jM l yX12_cost cX12_cost 2 (some .int) ({ frames := 104, cells := 0, slots := 0, locals := 5083 }) D cI cL ad zz [.ref (ad 55), .int a1] σ τ (fun r σ' τ' => τ = τ' ∧ (∀ i : Nat, (i < 55 ∨ 55 < i) ∧ (i < 66 ∨ 66 < i) ∧ (i < 68 ∨ 69 < i) ∧ (i < 74 ∨ 78 < i) → σ' i = σ i) ∧ (∀ k : Nat, (k < 18 ∨ 18 < k) ∧ (k < 19 ∨ 19 < k) ∧ (k < 20 ∨ 20 < k) ∧ (k < 21 ∨ 21 < k) ∧ (k < 22 ∨ 22 < k) ∧ (k < 25 ∨ 25 < k) ∧ (k < 26 ∨ 26 < k) ∧ (k < 27 ∨ 27 < k) ∧ (k < 37 ∨ 37 < k) ∧ (k < 42 ∨ 42 < k) → σ' 55 k = σ 55 k) ∧ (jI119 σ') ∧ (jKept σ') ∧ (jBook σ') ∧ True) := by
  refine jM.of hJ (by decide +kernel) (nt := .int) rfl (Nat.le_of_ble_eq_true rfl) ?_
  intro p e s m args below meth c Q ls hC hret hl hP
  obtain ⟨hx, hb, hr, hml, hown, hts, hK, -, hlocks, hZ⟩ := hC
  have hown : s.vm.findClass RX12 = some m.cls := hown
  have hS : va_S (jA ad) s.heap s.heap [] := va_S.rf
  have hA : ∀ q, jA ad q → jA ad q := fun _ h => h
  have hl : lv_has ls 2 [(0, .ref (ad 55)), (1, .int a1)] := hl
  have g1 := jrg t1
  obtain ⟨i1, i2, i3, w4, w5⟩ : (1 ≤ (σ 55 10).toInt ∧ (σ 55 10).toInt ≤ 8) ∧ (1 ≤ (σ 55 12).toInt ∧ (σ 55 12).toInt ≤ 12) ∧ (0 ≤ (σ 55 13).toInt ∧ (σ 55 13).toInt ≤ 999) ∧ (∀ k : Nat, k < 8 → 0 ≤ (σ 62 k).toInt ∧ (σ 62 k).toInt ≤ 3) ∧ (∀ k : Nat, k < 8 → 0 ≤ (σ 67 k).toInt ∧ (σ 67 k).toInt ≤ 3) := id hI104
  obtain ⟨i6, i7, w8⟩ : (0 ≤ (σ 55 47).toInt ∧ (σ 55 47).toInt ≤ 12) ∧ ((σ 55 47).toInt ≤ (σ 55 12).toInt) ∧ (∀ k : Nat, k < 12 → 0 ≤ (σ 80 k).toInt ∧ (σ 80 k).toInt ≤ 3) := id hI107
  refine lv_iload_n hx hb dX12_cost_0 rfl (lv_at hl 1 rfl) ?_
  refine lv_i2l (v := a1.toInt64) hx hb dX12_cost_1 rfl ?_
  refine lv_lconst (v := 0) hx hb dX12_cost_2 (by decide) ?_
  refine lv_aload_n hx hb dX12_cost_3 rfl (lv_at hl 0 rfl) ?_
  refine va_get (D := D) hx hb hts inlX12 hown hK hP 55 (jc_55 cI cL ad σ τ) rfl 47 (by decide) (hts _ kw_15_15) (fun _ h9 => h9) rfl dX12_cost_4 ?_
  refine lv_iconst (v := 1) hx hb dX12_cost_7 (by decide) ?_
  have g9 := jrg (rfl : (σ 55 47).toInt = (σ 55 47).toInt)
  refine lv_isub hx hb dX12_cost_8 ?_
  refine lv_topi (fun x10 ex10 => ?_)
  have tx10 : x10.toInt = (σ 55 47).toInt - 1 := (jsub ex10 rfl jz_1 (by omega) (by omega)).trans (by omega)
  refine lv_i2l (v := x10.toInt64) hx hb dX12_cost_9 rfl ?_
  refine jcallS (As := [.long a1.toInt64, .long 0, .long x10.toInt64]) (rest := []) ⟨hx, hb, hml, hown, hts⟩ hK hP hA hS hZ (c_X12_within l D cI cL ad zz hJ σ τ a1.toInt64 (A1) (jtoL t1) 0 (0) jzl_0 x10.toInt64 ((σ 55 47).toInt - 1) (jtoL tx10)) cw_RX12_136 ⟨Nat.le_of_ble_eq_true rfl, Nat.le_of_ble_eq_true rfl⟩ rfl rfl rfl hl.1 rfl (Nat.le_of_ble_eq_true rfl) dX12_cost_10 ⟨Nat.zero_le _, Nat.zero_le _⟩ (fun r12 σ11 τ11 H locs h11 hP hS => ?_)
  obtain ⟨⟨rfl, rfl⟩, h11⟩ := h11
  rcases h11 with h13 | h14
  · obtain ⟨q16, k15⟩ := h13
    have q16 := q16.symm
    subst q16
    refine lv_if_eq (tgt := 27) hx hb dX12_cost_13 (by decide) (fun c => absurd c (by decide)) (fun _ => ?_)
    refine lv_aload_n hx hb dX12_cost_16 rfl (lv_at hl 0 rfl) ?_
    refine va_get (D := D) hx hb hts inlX12 hown hK hP 55 (jc_55 cI cL ad σ τ) rfl 12 (by decide) (hts _ kw_8_16) (fun _ h9 => h9) rfl dX12_cost_17 ?_
    refine lv_iload_n hx hb dX12_cost_20 rfl (lv_at hl 1 rfl) ?_
    have g17 := jrg (rfl : (σ 55 12).toInt = (σ 55 12).toInt)
    refine lv_isub hx hb dX12_cost_21 ?_
    refine lv_topi (fun x18 ex18 => ?_)
    have tx18 : x18.toInt = (σ 55 12).toInt - A1 := (jsub ex18 rfl t1 (by omega) (by omega)).trans (by omega)
    refine lv_bipush (v := 8) hx hb dX12_cost_22 (by decide) ?_
    refine lv_icmp_le (tgt := 32) hx hb dX12_cost_24 (by decide) (fun c19 => ?_) (fun c19 => ?_)
    · have kc19 := jle c19 tx18 jz_8
      refine lv_aload_n hx hb dX12_cost_32 rfl (lv_at hl 0 rfl) ?_
      refine lv_iload_n hx hb dX12_cost_33 rfl (lv_at hl 1 rfl) ?_
      refine jcallV (As := [.int a1]) (rest := []) ⟨hx, hb, hml, hown, hts⟩ hK hP hA hS hZ (c_X12_costOf l D cI cL ad zz hJ σ τ a1 (A1) t1 hI101 hI102 hI103 hI104 hI105 hI106 hI107 hI119 hs_jKept hs_jBook (by omega) (by omega) (by omega)) cw_RX12_369 (jc_55 cI cL ad σ τ) rfl ⟨Nat.le_of_ble_eq_true rfl, Nat.le_of_ble_eq_true rfl⟩ rfl rfl rfl hl.1 rfl (Nat.le_of_ble_eq_true rfl) dX12_cost_34 ⟨Nat.zero_le _, Nat.zero_le _⟩ (fun r21 σ20 τ20 H locs h20 hP hS => ?_)
      obtain ⟨rfl, f22, f23, I24, p25, p26, h20⟩ := h20
      exact hret r21 σ20 τ _ _ _ _ rfl ⟨rfl, (fun i hi => (f22 i hi)), (fun i hi => (f23 i hi)), I24, p25, p26, trivial⟩ hP hS dX12_cost_37
    · have kc19 := jnle c19 tx18 jz_8
      refine lv_ldc (v := (-2000000000)) hx hb hown (hts _ kw_11_4) dX12_cost_27 ?_
      refine lv_goto (tgt := 37) hx hb dX12_cost_29 (by decide) ?_
      exact hret (-2000000000) σ τ _ _ _ _ rfl ⟨rfl, (fun _ _ => rfl), (fun _ _ => rfl), hI119, hs_jKept, hs_jBook, trivial⟩ hP hS dX12_cost_37
  · obtain ⟨q29, k28⟩ := h14
    have q29 := q29.symm
    subst q29
    refine lv_if_eq (tgt := 27) hx hb dX12_cost_13 (by decide) (fun _ => ?_) (fun c => absurd (by decide) c)
    refine lv_ldc (v := (-2000000000)) hx hb hown (hts _ kw_11_4) dX12_cost_27 ?_
    refine lv_goto (tgt := 37) hx hb dX12_cost_29 (by decide) ?_
    exact hret (-2000000000) σ τ _ _ _ _ rfl ⟨rfl, (fun _ _ => rfl), (fun _ _ => rfl), hI119, hs_jKept, hs_jBook, trivial⟩ hP hS dX12_cost_37
set_option maxHeartbeats 4000000 in
set_option maxRecDepth 100000 in
theorem c_X12_lost (l : Launch) (D : va_G) (cI cL : ClassId) (ad zz : Nat → Nat) (hJ : jD ad) (σ : Nat → Nat → Int32) (τ : Nat → Nat → Int64) (a1 : Int32) (A1 : Int) (t1 : a1.toInt = A1) (hI101 : jI101 σ) (hI102 : jI102 σ) (hI103 : jI103 σ) (hI104 : jI104 σ) (hI105 : jI105 σ) (hI106 : jI106 σ) (hI107 : jI107 σ) (hI119 : jI119 σ) (hs_jKept : jKept σ) (hs_jBook : jBook σ) : jM l yX12_lost cX12_lost 7 (some .int) ({ frames := 104, cells := 0, slots := 0, locals := 5083 }) D cI cL ad zz [.ref (ad 55), .int a1] σ τ (fun r σ' τ' => τ = τ' ∧ (∀ i : Nat, (i < 55 ∨ 55 < i) ∧ (i < 66 ∨ 66 < i) ∧ (i < 68 ∨ 69 < i) ∧ (i < 74 ∨ 78 < i) → σ' i = σ i) ∧ (∀ k : Nat, (k < 18 ∨ 18 < k) ∧ (k < 19 ∨ 19 < k) ∧ (k < 20 ∨ 20 < k) ∧ (k < 21 ∨ 21 < k) ∧ (k < 22 ∨ 22 < k) ∧ (k < 25 ∨ 25 < k) ∧ (k < 26 ∨ 26 < k) ∧ (k < 27 ∨ 27 < k) ∧ (k < 37 ∨ 37 < k) ∧ (k < 42 ∨ 42 < k) → σ' 55 k = σ 55 k) ∧ (jI119 σ') ∧ (jKept σ') ∧ (jBook σ') ∧ True) := by
  refine jM.of hJ (by decide +kernel) (nt := .int) rfl (Nat.le_of_ble_eq_true rfl) ?_
  intro p e s m args below meth c Q ls hC hret hl hP
  obtain ⟨hx, hb, hr, hml, hown, hts, hK, -, hlocks, hZ⟩ := hC
  have hown : s.vm.findClass RX12 = some m.cls := hown
  have hS : va_S (jA ad) s.heap s.heap [] := va_S.rf
  have hA : ∀ q, jA ad q → jA ad q := fun _ h => h
  have hl : lv_has ls 7 [(0, .ref (ad 55)), (1, .int a1)] := hl
  have g1 := jrg t1
  obtain ⟨i1, i2, i3, w4, w5⟩ : (1 ≤ (σ 55 10).toInt ∧ (σ 55 10).toInt ≤ 8) ∧ (1 ≤ (σ 55 12).toInt ∧ (σ 55 12).toInt ≤ 12) ∧ (0 ≤ (σ 55 13).toInt ∧ (σ 55 13).toInt ≤ 999) ∧ (∀ k : Nat, k < 8 → 0 ≤ (σ 62 k).toInt ∧ (σ 62 k).toInt ≤ 3) ∧ (∀ k : Nat, k < 8 → 0 ≤ (σ 67 k).toInt ∧ (σ 67 k).toInt ≤ 3) := id hI104
  obtain ⟨i6, i7, w8⟩ : (0 ≤ (σ 55 47).toInt ∧ (σ 55 47).toInt ≤ 12) ∧ ((σ 55 47).toInt ≤ (σ 55 12).toInt) ∧ (∀ k : Nat, k < 12 → 0 ≤ (σ 80 k).toInt ∧ (σ 80 k).toInt ≤ 3) := id hI107
  refine lv_iload_n hx hb dX12_lost_0 rfl (lv_at hl 1 rfl) ?_
  refine lv_i2l (v := a1.toInt64) hx hb dX12_lost_1 rfl ?_
  refine lv_lconst (v := 0) hx hb dX12_lost_2 (by decide) ?_
  refine lv_ldc2 (v := 2) hx hb hown (hts _ kw_11_3) dX12_lost_3 ?_
  refine jcallS (As := [.long a1.toInt64, .long 0, .long 2]) (rest := []) ⟨hx, hb, hml, hown, hts⟩ hK hP hA hS hZ (c_X12_within l D cI cL ad zz hJ σ τ a1.toInt64 (A1) (jtoL t1) 0 (0) jzl_0 2 (2) jzl_2) cw_RX12_136 ⟨Nat.le_of_ble_eq_true rfl, Nat.le_of_ble_eq_true rfl⟩ rfl rfl rfl hl.1 rfl (Nat.le_of_ble_eq_true rfl) dX12_lost_6 ⟨Nat.zero_le _, Nat.zero_le _⟩ (fun r10 σ9 τ9 H locs h9 hP hS => ?_)
  obtain ⟨⟨rfl, rfl⟩, h9⟩ := h9
  rcases h9 with h11 | h12
  · obtain ⟨q14, k13⟩ := h11
    have q14 := q14.symm
    subst q14
    refine lv_if_eq (tgt := 19) hx hb dX12_lost_9 (by decide) (fun c => absurd c (by decide)) (fun _ => ?_)
    refine lv_aload_n hx hb dX12_lost_12 rfl (lv_at hl 0 rfl) ?_
    refine va_get (D := D) hx hb hts inlX12 hown hK hP 55 (jc_55 cI cL ad σ τ) rfl 47 (by decide) (hts _ kw_15_15) (fun _ h9 => h9) rfl dX12_lost_13 ?_
    refine lv_if_ne (tgt := 21) hx hb dX12_lost_16 (by decide) (fun c15 => ?_) (fun c15 => ?_)
    · have kc15 := jne c15 rfl jz_0
      refine lv_aload_n hx hb dX12_lost_21 rfl (lv_at hl 0 rfl) ?_
      refine va_get (D := D) hx hb hts inlX12 hown hK hP 55 (jc_55 cI cL ad σ τ) rfl 12 (by decide) (hts _ kw_8_16) (fun _ h9 => h9) rfl dX12_lost_22 ?_
      refine lv_bipush (v := 8) hx hb dX12_lost_25 (by decide) ?_
      refine lv_icmp_le (tgt := 33) hx hb dX12_lost_27 (by decide) (fun c16 => ?_) (fun c16 => ?_)
      · have kc16 := jle c16 rfl jz_8
        refine lv_iconst (v := 0) hx hb dX12_lost_33 (by decide) ?_
        refine lv_istore_n (lv' := [(2, .int 0), (0, .ref (ad 55)), (1, .int a1)]) hx hb dX12_lost_34 rfl hl (by decide) rfl (fun ls hl => ?_)
        refine lv_ldc (v := (-2000000000)) hx hb hown (hts _ kw_11_4) dX12_lost_35 ?_
        refine lv_istore_n (lv' := [(3, .int (-2000000000)), (2, .int 0), (0, .ref (ad 55)), (1, .int a1)]) hx hb dX12_lost_37 rfl hl (by decide) rfl (fun ls hl => ?_)
        refine lv_iconst (v := 0) hx hb dX12_lost_38 (by decide) ?_
        refine lv_istore (lv' := [(4, .int 0), (3, .int (-2000000000)), (2, .int 0), (0, .ref (ad 55)), (1, .int a1)]) hx hb dX12_lost_39 hl (by decide) rfl (fun ls hl => ?_)
        refine lv_iconst (v := 0) hx hb dX12_lost_41 (by decide) ?_
        refine lv_istore (lv' := [(5, .int 0), (4, .int 0), (3, .int (-2000000000)), (2, .int 0), (0, .ref (ad 55)), (1, .int a1)]) hx hb dX12_lost_42 hl (by decide) rfl (fun ls hl => ?_)
        have lp17 : ∀ (n18 : Nat) (x19 : Int32) (x20 : Int32) (x21 : Int32) (x22 : Int32) (σ24 : Nat → Nat → Int32) (H : Heap) (locs : List Loc) (ls : Array Slot), ((σ24 55 47).toInt - x22.toInt : Int) < n18 → 0 ≤ x22.toInt → x22.toInt ≤ 12 → x22.toInt ≤ (σ24 55 47).toInt → (∀ i : Nat, (i < 55 ∨ 55 < i) ∧ (i < 66 ∨ 66 < i) ∧ (i < 68 ∨ 69 < i) ∧ (i < 74 ∨ 78 < i) → σ24 i = σ i) → (∀ k : Nat, (k < 18 ∨ 18 < k) ∧ (k < 19 ∨ 19 < k) ∧ (k < 20 ∨ 20 < k) ∧ (k < 21 ∨ 21 < k) ∧ (k < 22 ∨ 22 < k) ∧ (k < 25 ∨ 25 < k) ∧ (k < 26 ∨ 26 < k) ∧ (k < 27 ∨ 27 < k) ∧ (k < 37 ∨ 37 < k) ∧ (k < 42 ∨ 42 < k) → σ24 55 k = σ 55 k) → jKept σ24 → jI119 σ24 → jH D cI cL ad σ24 τ H → va_S (jA ad) s.heap H locs → lv_has ls 7 [(5, .int x22), (4, .int x21), (3, .int x20), (2, .int x19), (0, .ref (ad 55)), (1, .int a1)] → W p l e ({ frames := 104, cells := 0, slots := 0, locals := 5083 }) s m args below meth c H locs 0 0 Q (F0 m 44 ls []) := by
          intro n18
          induction n18 with
          | zero => intro x19 x20 x21 x22 σ24 H locs ls h26 h27 h28 h29; have gx19 := jrg (rfl : x19.toInt = x19.toInt); have gx20 := jrg (rfl : x20.toInt = x20.toInt); have gx21 := jrg (rfl : x21.toInt = x21.toInt); exact absurd h26 (by omega)
          | succ n18 ihlp17 =>
            intro x19 x20 x21 x22 σ24 H locs ls h26 h27 h28 h29 f30 f31 p32 p33 hP hS hl
            have gx19 := jrg (rfl : x19.toInt = x19.toInt); have gx20 := jrg (rfl : x20.toInt = x20.toInt); have gx21 := jrg (rfl : x21.toInt = x21.toInt)
            have z34 : (σ24 55 47).toInt = (σ 55 47).toInt := (congrArg Int32.toInt (show σ24 55 47 = (σ 55 47) from (f31 47 (by decide))))
            refine lv_iload hx hb dX12_lost_44 (lv_at hl 0 rfl) ?_
            refine lv_aload_n hx hb dX12_lost_46 rfl (lv_at hl 4 rfl) ?_
            refine va_get (D := D) hx hb hts inlX12 hown hK hP 55 (jc_55 cI cL ad σ24 τ) rfl 47 (by decide) (hts _ kw_15_15) (fun _ h9 => h9) rfl dX12_lost_47 ?_
            have m35 : σ24 55 47 = (σ 55 47) := (f31 47 (by decide))
            refine jtopr m35 ?_
            refine lv_icmp_ge (tgt := 86) hx hb dX12_lost_50 (by decide) (fun c36 => ?_) (fun c36 => ?_)
            · have kc36 := jle c36 rfl rfl
              refine lv_iload_n hx hb dX12_lost_86 rfl (lv_at hl 5 rfl) ?_
              refine lv_if_ne (tgt := 94) hx hb dX12_lost_87 (by decide) (fun c37 => ?_) (fun c37 => ?_)
              · have kc37 := jne c37 t1 jz_0
                refine lv_iload_n hx hb dX12_lost_94 rfl (lv_at hl 5 rfl) ?_
                refine lv_iconst (v := 1) hx hb dX12_lost_95 (by decide) ?_
                refine lv_icmp_ne (tgt := 103) hx hb dX12_lost_96 (by decide) (fun c38 => ?_) (fun c38 => ?_)
                · have kc38 := jne c38 t1 jz_1
                  refine lv_iload hx hb dX12_lost_103 (lv_at hl 1 rfl) ?_
                  have p39 : jBook σ24 := jBook.fr (f31 47 (by decide)) (f31 10 (by decide)) (f30 81 (by decide)) hs_jBook
                  exact hret x21 σ24 τ _ _ _ _ rfl ⟨rfl, (fun i hi => (f30 i hi)), (fun i hi => (f31 i hi)), p33, p32, p39, trivial⟩ hP hS dX12_lost_105
                · have kc38 := jeq c38 t1 jz_1
                  refine lv_iload_n hx hb dX12_lost_99 rfl (lv_at hl 2 rfl) ?_
                  refine lv_goto (tgt := 105) hx hb dX12_lost_100 (by decide) ?_
                  have p40 : jBook σ24 := jBook.fr (f31 47 (by decide)) (f31 10 (by decide)) (f30 81 (by decide)) hs_jBook
                  exact hret x20 σ24 τ _ _ _ _ rfl ⟨rfl, (fun i hi => (f30 i hi)), (fun i hi => (f31 i hi)), p33, p32, p40, trivial⟩ hP hS dX12_lost_105
              · have kc37 := jeq c37 t1 jz_0
                refine lv_iload_n hx hb dX12_lost_90 rfl (lv_at hl 3 rfl) ?_
                refine lv_goto (tgt := 105) hx hb dX12_lost_91 (by decide) ?_
                have p41 : jBook σ24 := jBook.fr (f31 47 (by decide)) (f31 10 (by decide)) (f30 81 (by decide)) hs_jBook
                exact hret x19 σ24 τ _ _ _ _ rfl ⟨rfl, (fun i hi => (f30 i hi)), (fun i hi => (f31 i hi)), p33, p32, p41, trivial⟩ hP hS dX12_lost_105
            · have kc36 := jnle c36 rfl rfl
              refine lv_aload_n hx hb dX12_lost_53 rfl (lv_at hl 4 rfl) ?_
              refine lv_iload hx hb dX12_lost_54 (lv_at hl 0 rfl) ?_
              have I42 : jI101 σ24 := jI101_fr (f31 4 (by decide)) (f31 5 (by decide)) (f30 56 (by decide)) (f30 57 (by decide)) (f30 58 (by decide)) (f30 59 (by decide)) hI101
              have I43 : jI102 σ24 := jI102_fr (f31 6 (by decide)) (f30 60 (by decide)) (f30 61 (by decide)) hI102
              have I44 : jI103 σ24 := jI103_fr (f31 9 (by decide)) hI103
              have I45 : jI104 σ24 := jI104_fr (f31 10 (by decide)) (f31 12 (by decide)) (f31 13 (by decide)) (f30 62 (by decide)) (f30 67 (by decide)) hI104
              have I46 : jI105 σ24 := jI105_fr (f31 15 (by decide)) (f30 65 (by decide)) hI105
              have I47 : jI106 σ24 := jI106_fr (f31 32 (by decide)) (f30 70 (by decide)) (f30 71 (by decide)) (f30 72 (by decide)) hI106
              have I48 : jI107 σ24 := jI107_fr (f31 12 (by decide)) (f31 47 (by decide)) (f30 80 (by decide)) hI107
              have p49 : jBook σ24 := jBook.fr (f31 47 (by decide)) (f31 10 (by decide)) (f30 81 (by decide)) hs_jBook
              have z50 : (σ24 55 12).toInt = (σ 55 12).toInt := (congrArg Int32.toInt (show σ24 55 12 = (σ 55 12) from (f31 12 (by decide))))
              refine jcallV (As := [.int x22]) (rest := []) ⟨hx, hb, hml, hown, hts⟩ hK hP hA hS hZ (c_X12_costOf l D cI cL ad zz hJ σ24 τ x22 (x22.toInt) rfl I42 I43 I44 I45 I46 I47 I48 p33 p32 p49 (by omega) (by omega) (by omega)) cw_RX12_369 (jc_55 cI cL ad σ24 τ) rfl ⟨Nat.le_of_ble_eq_true rfl, Nat.le_of_ble_eq_true rfl⟩ rfl rfl rfl hl.1 rfl (Nat.le_of_ble_eq_true rfl) dX12_lost_56 ⟨Nat.zero_le _, Nat.zero_le _⟩ (fun r52 σ51 τ51 H locs h51 hP hS => ?_)
              obtain ⟨rfl, f53, f54, I55, p56, p57, h51⟩ := h51
              refine lv_istore (lv' := [(6, .int r52), (5, .int x22), (4, .int x21), (3, .int x20), (2, .int x19), (0, .ref (ad 55)), (1, .int a1)]) hx hb dX12_lost_59 hl (by decide) rfl (fun ls hl => ?_)
              refine lv_iload hx hb dX12_lost_61 (lv_at hl 2 rfl) ?_
              refine lv_iload hx hb dX12_lost_63 (lv_at hl 0 rfl) ?_
              have g59 := jrg (rfl : x21.toInt = x21.toInt)
              have g60 := jrg (rfl : r52.toInt = r52.toInt)
              refine lv_iadd hx hb dX12_lost_65 ?_
              refine lv_topi (fun x61 ex61 => ?_)
              have gx61 := jrg (rfl : x61.toInt = x61.toInt)
              refine lv_istore (lv' := [(4, .int x61), (6, .int r52), (5, .int x22), (3, .int x20), (2, .int x19), (0, .ref (ad 55)), (1, .int a1)]) hx hb dX12_lost_66 hl (by decide) rfl (fun ls hl => ?_)
              refine lv_iload hx hb dX12_lost_68 (lv_at hl 1 rfl) ?_
              refine lv_iload_n hx hb dX12_lost_70 rfl (lv_at hl 3 rfl) ?_
              refine lv_icmp_le (tgt := 80) hx hb dX12_lost_71 (by decide) (fun c62 => ?_) (fun c62 => ?_)
              · have kc62 := jle c62 rfl rfl
                obtain ⟨x63, ex63⟩ : ∃ y : Int32, y = x22 + 1 := ⟨_, rfl⟩
                have tx63 : x63.toInt = x22.toInt + 1 := (jadd ex63 rfl jz_1 (by omega) (by omega)).trans (by omega)
                refine lv_iinc (v := x63) (lv' := [(5, .int x63), (4, .int x61), (6, .int r52), (3, .int x20), (2, .int x19), (0, .ref (ad 55)), (1, .int a1)]) hx hb dX12_lost_80 hl (k := 2) rfl (by rw [ex63]; rfl) (by decide) rfl (fun ls hl => ?_)
                refine lv_goto (tgt := 44) hx hb dX12_lost_83 (by decide) ?_
                have z64 : (σ51 55 47).toInt = (σ 55 47).toInt := (congrArg Int32.toInt (show σ51 55 47 = (σ 55 47) from ((f54 47 (by decide)).trans m35)))
                exact ihlp17 x19 x20 x61 x63 σ51 _ _ ls (by have h93 := tx63; omega) (by have h93 := tx63; omega) (by have h93 := tx63; omega) (by have h93 := tx63; omega) (fun i hi => ((f53 i hi).trans (f30 i hi))) (fun i hi => ((f54 i hi).trans (f31 i hi)))  p56 I55 hP hS (lv_sub hl [0, 1, 3, 4, 5, 6] rfl)
              · have kc62 := jnle c62 rfl rfl
                refine lv_iload hx hb dX12_lost_74 (lv_at hl 2 rfl) ?_
                refine lv_istore_n (lv' := [(2, .int x22), (4, .int x61), (6, .int r52), (5, .int x22), (3, .int x20), (0, .ref (ad 55)), (1, .int a1)]) hx hb dX12_lost_76 rfl hl (by decide) rfl (fun ls hl => ?_)
                refine lv_iload hx hb dX12_lost_77 (lv_at hl 2 rfl) ?_
                refine lv_istore_n (lv' := [(3, .int r52), (2, .int x22), (4, .int x61), (6, .int r52), (5, .int x22), (0, .ref (ad 55)), (1, .int a1)]) hx hb dX12_lost_79 rfl hl (by decide) rfl (fun ls hl => ?_)
                obtain ⟨x65, ex65⟩ : ∃ y : Int32, y = x22 + 1 := ⟨_, rfl⟩
                have tx65 : x65.toInt = x22.toInt + 1 := (jadd ex65 rfl jz_1 (by omega) (by omega)).trans (by omega)
                refine lv_iinc (v := x65) (lv' := [(5, .int x65), (3, .int r52), (2, .int x22), (4, .int x61), (6, .int r52), (0, .ref (ad 55)), (1, .int a1)]) hx hb dX12_lost_80 hl (k := 4) rfl (by rw [ex65]; rfl) (by decide) rfl (fun ls hl => ?_)
                refine lv_goto (tgt := 44) hx hb dX12_lost_83 (by decide) ?_
                have z66 : (σ51 55 47).toInt = (σ 55 47).toInt := (congrArg Int32.toInt (show σ51 55 47 = (σ 55 47) from ((f54 47 (by decide)).trans m35)))
                exact ihlp17 x22 r52 x61 x65 σ51 _ _ ls (by have h93 := tx65; omega) (by have h93 := tx65; omega) (by have h93 := tx65; omega) (by have h93 := tx65; omega) (fun i hi => ((f53 i hi).trans (f30 i hi))) (fun i hi => ((f54 i hi).trans (f31 i hi)))  p56 I55 hP hS (lv_sub hl [0, 3, 1, 2, 5, 6] rfl)
        exact lp17 1000000 0 (-2000000000) 0 0 σ _ _ ls (by have h90 := jz_0; have h91 := jz_m2000000000; have h92 := jz_0; have h93 := jz_0; omega) (by have h90 := jz_0; have h91 := jz_m2000000000; have h92 := jz_0; have h93 := jz_0; omega) (by have h90 := jz_0; have h91 := jz_m2000000000; have h92 := jz_0; have h93 := jz_0; omega) (by have h90 := jz_0; have h91 := jz_m2000000000; have h92 := jz_0; have h93 := jz_0; omega) (fun _ _ => rfl) (fun _ _ => rfl)  hs_jKept hI119 hP hS hl
      · have kc16 := jnle c16 rfl jz_8
        refine lv_bipush (v := (-4)) hx hb dX12_lost_30 (by decide) ?_
        exact hret (-4) σ τ _ _ _ _ rfl ⟨rfl, (fun _ _ => rfl), (fun _ _ => rfl), hI119, hs_jKept, hs_jBook, trivial⟩ hP hS dX12_lost_32
    · have kc15 := jeq c15 rfl jz_0
      refine lv_iconst (v := (-1)) hx hb dX12_lost_19 (by decide) ?_
      exact hret (-1) σ τ _ _ _ _ rfl ⟨rfl, (fun _ _ => rfl), (fun _ _ => rfl), hI119, hs_jKept, hs_jBook, trivial⟩ hP hS dX12_lost_20
  · obtain ⟨q68, k67⟩ := h12
    have q68 := q68.symm
    subst q68
    refine lv_if_eq (tgt := 19) hx hb dX12_lost_9 (by decide) (fun _ => ?_) (fun c => absurd (by decide) c)
    refine lv_iconst (v := (-1)) hx hb dX12_lost_19 (by decide) ?_
    exact hret (-1) σ τ _ _ _ _ rfl ⟨rfl, (fun _ _ => rfl), (fun _ _ => rfl), hI119, hs_jKept, hs_jBook, trivial⟩ hP hS dX12_lost_20
set_option maxHeartbeats 4000000 in
set_option maxRecDepth 100000 in
theorem c_X12_game (l : Launch) (D : va_G) (cI cL : ClassId) (ad zz : Nat → Nat) (hJ : jD ad) (σ : Nat → Nat → Int32) (τ : Nat → Nat → Int64) (a1 : Int32) (A1 : Int) (t1 : a1.toInt = A1) (a2 : Int32) (A2 : Int) (t2 : a2.toInt = A2) (hI101 : jI101 σ) (hI102 : jI102 σ) (hI103 : jI103 σ) (hI104 : jI104 σ) (hI105 : jI105 σ) (hI106 : jI106 σ) (hI119 : jI119 σ) (hI109 : jI109 σ) (hs_jKept : jKept σ) : jM l yX12_game cX12_game 10 (some .int) ({ frames := 104, cells := 0, slots := 0, locals := 5087 }) D cI cL ad zz [.ref (ad 55), .int a1, .int a2] σ τ (fun r σ' τ' => τ = τ' ∧ (∀ i : Nat, (i < 55 ∨ 55 < i) ∧ (i < 66 ∨ 66 < i) ∧ (i < 68 ∨ 69 < i) ∧ (i < 74 ∨ 78 < i) ∧ (i < 82 ∨ 84 < i) → σ' i = σ i) ∧ (∀ k : Nat, (k < 18 ∨ 18 < k) ∧ (k < 19 ∨ 19 < k) ∧ (k < 20 ∨ 20 < k) ∧ (k < 21 ∨ 21 < k) ∧ (k < 22 ∨ 22 < k) ∧ (k < 25 ∨ 25 < k) ∧ (k < 26 ∨ 26 < k) ∧ (k < 27 ∨ 27 < k) ∧ (k < 37 ∨ 37 < k) ∧ (k < 42 ∨ 42 < k) ∧ (k < 50 ∨ 50 < k) → σ' 55 k = σ 55 k) ∧ (jI109 σ') ∧ (jI119 σ') ∧ (jKept σ') ∧ True) := by
  refine jM.of hJ (by decide +kernel) (nt := .int) rfl (Nat.le_of_ble_eq_true rfl) ?_
  intro p e s m args below meth c Q ls hC hret hl hP
  obtain ⟨hx, hb, hr, hml, hown, hts, hK, -, hlocks, hZ⟩ := hC
  have hown : s.vm.findClass RX12 = some m.cls := hown
  have hS : va_S (jA ad) s.heap s.heap [] := va_S.rf
  have hA : ∀ q, jA ad q → jA ad q := fun _ h => h
  have hl : lv_has ls 10 [(0, .ref (ad 55)), (1, .int a1), (2, .int a2)] := hl
  have g1 := jrg t1
  have g2 := jrg t2
  obtain ⟨i1, w2, w3⟩ : (0 ≤ (σ 55 6).toInt ∧ (σ 55 6).toInt ≤ 4) ∧ (∀ k : Nat, k < 4 → 0 ≤ (σ 60 k).toInt ∧ (σ 60 k).toInt ≤ 50) ∧ (∀ k : Nat, k < 4 → 0 ≤ (σ 61 k).toInt ∧ (σ 61 k).toInt ≤ 20) := id hI102
  obtain ⟨i4, i5, i6, w7, w8⟩ : (1 ≤ (σ 55 10).toInt ∧ (σ 55 10).toInt ≤ 8) ∧ (1 ≤ (σ 55 12).toInt ∧ (σ 55 12).toInt ≤ 12) ∧ (0 ≤ (σ 55 13).toInt ∧ (σ 55 13).toInt ≤ 999) ∧ (∀ k : Nat, k < 8 → 0 ≤ (σ 62 k).toInt ∧ (σ 62 k).toInt ≤ 3) ∧ (∀ k : Nat, k < 8 → 0 ≤ (σ 67 k).toInt ∧ (σ 67 k).toInt ≤ 3) := id hI104
  obtain ⟨i9, w10, w11, w12⟩ : (0 ≤ (σ 55 32).toInt ∧ (σ 55 32).toInt ≤ 20) ∧ (∀ k : Nat, k < 20 → 0 ≤ (σ 70 k).toInt ∧ (σ 70 k).toInt ≤ 6) ∧ (∀ k : Nat, k < 20 → 0 ≤ (σ 71 k).toInt ∧ (σ 71 k).toInt ≤ 8) ∧ (∀ k : Nat, k < 160 → 0 ≤ (σ 72 k).toInt ∧ (σ 72 k).toInt ≤ 3) := id hI106
  have i13 : 0 ≤ (σ 55 50).toInt ∧ (σ 55 50).toInt ≤ 12 := hI109
  refine lv_aload_n hx hb dX12_game_0 rfl (lv_at hl 0 rfl) ?_
  refine lv_iload_n hx hb dX12_game_1 rfl (lv_at hl 1 rfl) ?_
  refine jcallV (As := [.int a1]) (rest := []) ⟨hx, hb, hml, hown, hts⟩ hK hP hA hS hZ (c_X12_isRule l D cI cL ad zz hJ σ τ a1 (A1) t1 hI106) cw_RX12_331 (jc_55 cI cL ad σ τ) rfl ⟨Nat.le_of_ble_eq_true rfl, Nat.le_of_ble_eq_true rfl⟩ rfl rfl rfl hl.1 rfl (Nat.le_of_ble_eq_true rfl) dX12_game_2 ⟨Nat.zero_le _, Nat.zero_le _⟩ (fun r15 σ14 τ14 H locs h14 hP hS => ?_)
  obtain ⟨⟨rfl, rfl⟩, h14⟩ := h14
  rcases h14 with h16 | h17
  · obtain ⟨q19, k18⟩ := h16
    have q19 := q19.symm
    subst q19
    refine lv_if_ne (tgt := 10) hx hb dX12_game_5 (by decide) (fun _ => ?_) (fun c => absurd c (by decide))
    refine lv_aload_n hx hb dX12_game_10 rfl (lv_at hl 0 rfl) ?_
    refine va_get (D := D) hx hb hts inlX12 hown hK hP 55 (jc_55 cI cL ad σ τ) rfl 12 (by decide) (hts _ kw_8_16) (fun _ h9 => h9) rfl dX12_game_11 ?_
    refine lv_bipush (v := 8) hx hb dX12_game_14 (by decide) ?_
    refine lv_icmp_le (tgt := 22) hx hb dX12_game_16 (by decide) (fun c20 => ?_) (fun c20 => ?_)
    · have kc20 := jle c20 rfl jz_8
      refine lv_aload_n hx hb dX12_game_22 rfl (lv_at hl 0 rfl) ?_
      have w21 : ∀ k : Nat, k < 4 → 0 ≤ (σ 68 k).toInt ∧ (σ 68 k).toInt ≤ 3 := hI119
      refine jcallVv (As := []) (rest := []) ⟨hx, hb, hml, hown, hts⟩ hK hP hA hS hZ (c_X12_begin l D cI cL ad zz hJ σ τ hI104 w21) cw_RX12_256 (jc_55 cI cL ad σ τ) rfl ⟨Nat.le_of_ble_eq_true rfl, Nat.le_of_ble_eq_true rfl⟩ rfl rfl rfl hl.1 rfl (Nat.le_of_ble_eq_true rfl) dX12_game_23 ⟨Nat.zero_le _, Nat.zero_le _⟩ (fun σ22 τ22 H locs h22 hP hS => ?_)
      obtain ⟨rfl, f24, f25, I26, h22⟩ := h22
      obtain ⟨i28, i29, i30, i31, i32, w33⟩ : (0 ≤ (σ22 55 25).toInt) ∧ ((σ22 55 25).toInt ≤ (σ22 55 10).toInt) ∧ (0 ≤ (σ22 55 26).toInt) ∧ ((σ22 55 26).toInt ≤ (σ22 55 12).toInt) ∧ ((-1) ≤ (σ22 55 27).toInt ∧ (σ22 55 27).toInt ≤ 3) ∧ (∀ k : Nat, k < 4 → 0 ≤ (σ22 68 k).toInt ∧ (σ22 68 k).toInt ≤ 3) := id I26
      have z34 : (σ22 55 10).toInt = (σ 55 10).toInt := (congrArg Int32.toInt (show σ22 55 10 = (σ 55 10) from (f25 10 (by decide))))
      have z35 : (σ22 55 12).toInt = (σ 55 12).toInt := (congrArg Int32.toInt (show σ22 55 12 = (σ 55 12) from (f25 12 (by decide))))
      obtain ⟨k36, k37, k38, h22⟩ := h22
      refine lv_aload_n hx hb dX12_game_26 rfl (lv_at hl 0 rfl) ?_
      refine jcallVv (As := []) (rest := []) ⟨hx, hb, hml, hown, hts⟩ hK hP hA hS hZ (c_X12_forgets l D cI cL ad zz hJ σ22 τ) cw_RX12_341 (jc_55 cI cL ad σ22 τ) rfl ⟨Nat.le_of_ble_eq_true rfl, Nat.le_of_ble_eq_true rfl⟩ rfl rfl rfl hl.1 rfl (Nat.le_of_ble_eq_true rfl) dX12_game_27 ⟨Nat.zero_le _, Nat.zero_le _⟩ (fun σ39 τ39 H locs h39 hP hS => ?_)
      obtain ⟨rfl, f41, f42, h39⟩ := h39
      refine lv_aload_n hx hb dX12_game_30 rfl (lv_at hl 0 rfl) ?_
      refine lv_iconst (v := 0) hx hb dX12_game_31 (by decide) ?_
      refine jput (ty := .int) hx hb hts inlX12 tyX12 tyX12_ok nmX12 hown hK hP hJ hA hS (jc_55 cI cL ad σ39 τ) rfl (k := 50) (by decide) (Nat.le_of_ble_eq_true rfl) (jp_55_50 cI cL ad σ39 τ 0) (hts _ kw_46_13) (fun _ h9 => h9) rfl (by decide +kernel) rfl rfl dX12_game_32 (fun σ44 H locs eσ44 hP hS => ?_)
      refine lv_iload_n hx hb dX12_game_35 rfl (lv_at hl 2 rfl) ?_
      refine lv_istore_n (lv' := [(3, .int a2), (0, .ref (ad 55)), (1, .int a1), (2, .int a2)]) hx hb dX12_game_36 rfl hl (by decide) rfl (fun ls hl => ?_)
      refine lv_iconst (v := 0) hx hb dX12_game_37 (by decide) ?_
      refine lv_istore (lv' := [(4, .int 0), (3, .int a2), (0, .ref (ad 55)), (1, .int a1), (2, .int a2)]) hx hb dX12_game_38 hl (by decide) rfl (fun ls hl => ?_)
      refine lv_iconst (v := 0) hx hb dX12_game_40 (by decide) ?_
      refine lv_istore (lv' := [(5, .int 0), (4, .int 0), (3, .int a2), (0, .ref (ad 55)), (1, .int a1), (2, .int a2)]) hx hb dX12_game_41 hl (by decide) rfl (fun ls hl => ?_)
      have z55 : (σ44 55 50).toInt = 0 := ((congrArg Int32.toInt (show σ44 55 50 = 0 from (jsp eσ44))).trans jz_0)
      have I56 : jI109 σ44 := (show 0 ≤ (σ44 55 50).toInt ∧ (σ44 55 50).toInt ≤ 12 by omega)
      have w57 : ∀ k : Nat, k < 4 → 0 ≤ (σ44 68 k).toInt ∧ (σ44 68 k).toInt ≤ 3 := (jrr_fr (jnp 68 eσ44 (by decide)) (jrr_fr (f41 68 (by decide)) w33))
      have I58 : jI119 σ44 := w57
      have z59 : (σ44 55 12).toInt = (σ 55 12).toInt := (congrArg Int32.toInt (show σ44 55 12 = (σ 55 12) from ((jkp 12 eσ44 (by decide)).trans ((f42 12 (by decide)).trans (f25 12 (by decide))))))
      have z60 : (σ44 55 26).toInt = (σ22 55 26).toInt := (congrArg Int32.toInt (show σ44 55 26 = (σ22 55 26) from ((jkp 26 eσ44 (by decide)).trans (f42 26 (by decide)))))
      have z61 : (σ44 55 25).toInt = (σ22 55 25).toInt := (congrArg Int32.toInt (show σ44 55 25 = (σ22 55 25) from ((jkp 25 eσ44 (by decide)).trans (f42 25 (by decide)))))
      have z62 : (σ44 55 10).toInt = (σ 55 10).toInt := (congrArg Int32.toInt (show σ44 55 10 = (σ 55 10) from ((jkp 10 eσ44 (by decide)).trans ((f42 10 (by decide)).trans (f25 10 (by decide))))))
      have z63 : (σ44 55 27).toInt = (σ22 55 27).toInt := (congrArg Int32.toInt (show σ44 55 27 = (σ22 55 27) from ((jkp 27 eσ44 (by decide)).trans (f42 27 (by decide)))))
      have p65 : jKept σ44 := jKept.fr ((jnp 75 eσ44 (by decide)).trans ((f41 75 (by decide)).trans (f24 75 (by decide)))) ((jnp 76 eσ44 (by decide)).trans ((f41 76 (by decide)).trans (f24 76 (by decide)))) ((jnp 77 eσ44 (by decide)).trans ((f41 77 (by decide)).trans (f24 77 (by decide)))) hs_jKept
      have lp45 : ∀ (n46 : Nat) (x47 : Int32) (x48 : Int32) (x49 : Int32) (σ54 : Nat → Nat → Int32) (H : Heap) (locs : List Loc) (ls : Array Slot), ((σ54 55 12).toInt - (σ54 55 26).toInt : Int) < n46 → 0 ≤ (σ54 55 25).toInt → (σ54 55 25).toInt ≤ (σ54 55 10).toInt → 0 ≤ (σ54 55 26).toInt → (σ54 55 26).toInt ≤ (σ54 55 12).toInt → (-1) ≤ (σ54 55 27).toInt ∧ (σ54 55 27).toInt ≤ 3 → (σ54 55 50).toInt = (σ54 55 26).toInt → (∀ i : Nat, (i < 55 ∨ 55 < i) ∧ (i < 66 ∨ 66 < i) ∧ (i < 68 ∨ 69 < i) ∧ (i < 74 ∨ 78 < i) ∧ (i < 82 ∨ 84 < i) → σ54 i = σ44 i) → (∀ k : Nat, (k < 18 ∨ 18 < k) ∧ (k < 19 ∨ 19 < k) ∧ (k < 20 ∨ 20 < k) ∧ (k < 21 ∨ 21 < k) ∧ (k < 22 ∨ 22 < k) ∧ (k < 25 ∨ 25 < k) ∧ (k < 26 ∨ 26 < k) ∧ (k < 27 ∨ 27 < k) ∧ (k < 37 ∨ 37 < k) ∧ (k < 50 ∨ 50 < k) → σ54 55 k = σ44 55 k) → jKept σ54 → jI109 σ54 → jI119 σ54 → jH D cI cL ad σ54 τ H → va_S (jA ad) s.heap H locs → lv_has ls 10 [(5, .int x49), (4, .int x48), (3, .int x47), (0, .ref (ad 55)), (1, .int a1), (2, .int a2)] → W p l e ({ frames := 104, cells := 0, slots := 0, locals := 5087 }) s m args below meth c H locs 0 0 Q (F0 m 43 ls []) := by
        intro n46
        induction n46 with
        | zero => intro x47 x48 x49 σ54 H locs ls h66 h67 h68 h69 h70 h71 h72; have gx47 := jrg (rfl : x47.toInt = x47.toInt); have gx48 := jrg (rfl : x48.toInt = x48.toInt); have gx49 := jrg (rfl : x49.toInt = x49.toInt); exact absurd h66 (by omega)
        | succ n46 ihlp45 =>
          intro x47 x48 x49 σ54 H locs ls h66 h67 h68 h69 h70 h71 h72 f73 f74 p75 p76 p77 hP hS hl
          have gx47 := jrg (rfl : x47.toInt = x47.toInt); have gx48 := jrg (rfl : x48.toInt = x48.toInt); have gx49 := jrg (rfl : x49.toInt = x49.toInt)
          have i78 : 0 ≤ (σ54 55 50).toInt ∧ (σ54 55 50).toInt ≤ 12 := p76
          have z79 : (σ54 55 12).toInt = (σ 55 12).toInt := (congrArg Int32.toInt (show σ54 55 12 = (σ 55 12) from ((f74 12 (by decide)).trans ((jkp 12 eσ44 (by decide)).trans ((f42 12 (by decide)).trans (f25 12 (by decide)))))))
          have z80 : (σ54 55 10).toInt = (σ 55 10).toInt := (congrArg Int32.toInt (show σ54 55 10 = (σ 55 10) from ((f74 10 (by decide)).trans ((jkp 10 eσ44 (by decide)).trans ((f42 10 (by decide)).trans (f25 10 (by decide)))))))
          refine lv_iload hx hb dX12_game_43 (lv_at hl 0 rfl) ?_
          refine lv_if_ne (tgt := 233) hx hb dX12_game_45 (by decide) (fun c81 => ?_) (fun c81 => ?_)
          · have kc81 := jne c81 rfl jz_0
            refine lv_iload hx hb dX12_game_233 (lv_at hl 1 rfl) ?_
            exact hret x48 σ54 τ _ _ _ _ rfl ⟨rfl, (fun i hi => ((f73 i hi).trans ((jnp i eσ44 (imp_282 i hi)).trans ((f41 i (imp_283 i hi)).trans (f24 i (imp_284 i hi)))))), (fun i hi => ((f74 i (imp_285 i hi)).trans ((jkp i eσ44 (imp_286 i hi)).trans ((f42 i (imp_287 i hi)).trans (f25 i (imp_288 i hi)))))), p76, p77, p75, trivial⟩ hP hS dX12_game_235
          · have kc81 := jeq c81 rfl jz_0
            refine lv_aload_n hx hb dX12_game_48 rfl (lv_at hl 3 rfl) ?_
            have I82 : jI102 σ54 := jI102_fr ((f74 6 (by decide)).trans ((jkp 6 eσ44 (by decide)).trans ((f42 6 (by decide)).trans (f25 6 (by decide))))) ((f73 60 (by decide)).trans ((jnp 60 eσ44 (by decide)).trans ((f41 60 (by decide)).trans (f24 60 (by decide))))) ((f73 61 (by decide)).trans ((jnp 61 eσ44 (by decide)).trans ((f41 61 (by decide)).trans (f24 61 (by decide))))) hI102
            have I83 : jI104 σ54 := jI104_fr ((f74 10 (by decide)).trans ((jkp 10 eσ44 (by decide)).trans ((f42 10 (by decide)).trans (f25 10 (by decide))))) ((f74 12 (by decide)).trans ((jkp 12 eσ44 (by decide)).trans ((f42 12 (by decide)).trans (f25 12 (by decide))))) ((f74 13 (by decide)).trans ((jkp 13 eσ44 (by decide)).trans ((f42 13 (by decide)).trans (f25 13 (by decide))))) ((f73 62 (by decide)).trans ((jnp 62 eσ44 (by decide)).trans ((f41 62 (by decide)).trans (f24 62 (by decide))))) ((f73 67 (by decide)).trans ((jnp 67 eσ44 (by decide)).trans ((f41 67 (by decide)).trans (f24 67 (by decide))))) hI104
            have w84 : ∀ k : Nat, k < 4 → 0 ≤ (σ54 68 k).toInt ∧ (σ54 68 k).toInt ≤ 3 := p77
            have I85 : jI120 σ54 := ⟨(by omega), (by omega), (by omega), (by omega), (by omega), w84⟩
            refine jcallV (As := []) (rest := []) ⟨hx, hb, hml, hown, hts⟩ hK hP hA hS hZ (c_X12_isEnded l D cI cL ad zz hJ σ54 τ I82 I83 I85) cw_RX12_307 (jc_55 cI cL ad σ54 τ) rfl ⟨Nat.le_of_ble_eq_true rfl, Nat.le_of_ble_eq_true rfl⟩ rfl rfl rfl hl.1 rfl (Nat.le_of_ble_eq_true rfl) dX12_game_49 ⟨Nat.zero_le _, Nat.zero_le _⟩ (fun r87 σ86 τ86 H locs h86 hP hS => ?_)
            obtain ⟨⟨rfl, rfl⟩, h86⟩ := h86
            rcases h86 with h88 | h89
            · obtain ⟨q91, k90⟩ := h88
              have q91 := q91.symm
              subst q91
              refine lv_if_ne (tgt := 233) hx hb dX12_game_52 (by decide) (fun _ => ?_) (fun c => absurd c (by decide))
              refine lv_iload hx hb dX12_game_233 (lv_at hl 1 rfl) ?_
              exact hret x48 σ54 τ _ _ _ _ rfl ⟨rfl, (fun i hi => ((f73 i hi).trans ((jnp i eσ44 (imp_282 i hi)).trans ((f41 i (imp_283 i hi)).trans (f24 i (imp_284 i hi)))))), (fun i hi => ((f74 i (imp_285 i hi)).trans ((jkp i eσ44 (imp_286 i hi)).trans ((f42 i (imp_287 i hi)).trans (f25 i (imp_288 i hi)))))), p76, p77, p75, trivial⟩ hP hS dX12_game_235
            · obtain ⟨q95, k92, k93, k94⟩ := h89
              have q95 := q95.symm
              subst q95
              obtain ⟨B96, k97, k98, w99⟩ := k94
              have z100 : (σ54 55 6).toInt = (σ 55 6).toInt := (congrArg Int32.toInt (show σ54 55 6 = (σ 55 6) from ((f74 6 (by decide)).trans ((jkp 6 eσ44 (by decide)).trans ((f42 6 (by decide)).trans (f25 6 (by decide)))))))
              refine lv_if_ne (tgt := 233) hx hb dX12_game_52 (by decide) (fun c => absurd (by decide) c) (fun _ => ?_)
              refine lv_aload_n hx hb dX12_game_55 rfl (lv_at hl 3 rfl) ?_
              refine lv_iload_n hx hb dX12_game_56 rfl (lv_at hl 4 rfl) ?_
              have p101 : jmb σ54 B96 = 1 := (jmb_fr rfl rfl rfl rfl rfl B96).trans w99
              have I102 : jI101 σ54 := jI101_fr ((f74 4 (by decide)).trans ((jkp 4 eσ44 (by decide)).trans ((f42 4 (by decide)).trans (f25 4 (by decide))))) ((f74 5 (by decide)).trans ((jkp 5 eσ44 (by decide)).trans ((f42 5 (by decide)).trans (f25 5 (by decide))))) ((f73 56 (by decide)).trans ((jnp 56 eσ44 (by decide)).trans ((f41 56 (by decide)).trans (f24 56 (by decide))))) ((f73 57 (by decide)).trans ((jnp 57 eσ44 (by decide)).trans ((f41 57 (by decide)).trans (f24 57 (by decide))))) ((f73 58 (by decide)).trans ((jnp 58 eσ44 (by decide)).trans ((f41 58 (by decide)).trans (f24 58 (by decide))))) ((f73 59 (by decide)).trans ((jnp 59 eσ44 (by decide)).trans ((f41 59 (by decide)).trans (f24 59 (by decide))))) hI101
              have I103 : jI103 σ54 := jI103_fr ((f74 9 (by decide)).trans ((jkp 9 eσ44 (by decide)).trans ((f42 9 (by decide)).trans (f25 9 (by decide))))) hI103
              have I104 : jI105 σ54 := jI105_fr ((f74 15 (by decide)).trans ((jkp 15 eσ44 (by decide)).trans ((f42 15 (by decide)).trans (f25 15 (by decide))))) ((f73 65 (by decide)).trans ((jnp 65 eσ44 (by decide)).trans ((f41 65 (by decide)).trans (f24 65 (by decide))))) hI105
              have I105 : jI106 σ54 := jI106_fr ((f74 32 (by decide)).trans ((jkp 32 eσ44 (by decide)).trans ((f42 32 (by decide)).trans (f25 32 (by decide))))) ((f73 70 (by decide)).trans ((jnp 70 eσ44 (by decide)).trans ((f41 70 (by decide)).trans (f24 70 (by decide))))) ((f73 71 (by decide)).trans ((jnp 71 eσ44 (by decide)).trans ((f41 71 (by decide)).trans (f24 71 (by decide))))) ((f73 72 (by decide)).trans ((jnp 72 eσ44 (by decide)).trans ((f41 72 (by decide)).trans (f24 72 (by decide))))) hI106
              have z106 : (σ54 70 a1.toNatClampNeg).toInt = (σ 70 a1.toNatClampNeg).toInt := by rw [f73 70 (by decide), jnp 70 eσ44 (by decide), f41 70 (by decide), f24 70 (by decide)]
              refine jcallV (As := [.int a1]) (rest := []) ⟨hx, hb, hml, hown, hts⟩ hK hP hA hS hZ (c_X12_putsOn l D cI cL ad zz hJ σ54 τ B96 p101 a1 (A1) t1 I102 I82 I103 I83 I104 I105 I85 p75 (by omega) (by omega) (by omega) (by omega) (by omega)) cw_RX12_321 (jc_55 cI cL ad σ54 τ) rfl ⟨Nat.le_of_ble_eq_true rfl, Nat.le_of_ble_eq_true rfl⟩ rfl rfl rfl hl.1 rfl (Nat.le_of_ble_eq_true rfl) dX12_game_57 ⟨Nat.zero_le _, Nat.zero_le _⟩ (fun r108 σ107 τ107 H locs h107 hP hS => ?_)
              obtain ⟨rfl, f109, f110, p111, h107⟩ := h107
              have h113 := h107
              obtain ⟨q115, k114⟩ := h113
              refine lv_istore (lv' := [(6, .int r108), (5, .int x49), (4, .int x48), (3, .int x47), (0, .ref (ad 55)), (1, .int a1), (2, .int a2)]) hx hb dX12_game_60 hl (by decide) rfl (fun ls hl => ?_)
              refine lv_aload_n hx hb dX12_game_62 rfl (lv_at hl 4 rfl) ?_
              refine va_get (D := D) hx hb hts inlX12 hown hK hP 55 (jc_55 cI cL ad σ107 τ) rfl 11 (by decide) (hts _ kw_7_8) (fun _ h9 => h9) rfl dX12_game_63 ?_
              refine lv_aload_n hx hb dX12_game_66 rfl (lv_at hl 4 rfl) ?_
              refine va_get (D := D) hx hb hts inlX12 hown hK hP 55 (jc_55 cI cL ad σ107 τ) rfl 25 (by decide) (hts _ kw_23_6) (fun _ h9 => h9) rfl dX12_game_67 ?_
              have m116 : σ107 55 25 = (σ54 55 25) := (f110 25 (by decide))
              refine jtopr m116 ?_
              refine jald hx hb hK hP (jc_62 cI cL ad σ107 τ) (jin rfl (by omega) (by omega)) dX12_game_70 ?_
              have w117 : ∀ k : Nat, k < 8 → 0 ≤ (σ107 62 k).toInt ∧ (σ107 62 k).toInt ≤ 3 := (jrr_fr (f109 62 (by decide)) (jrr_fr (f73 62 (by decide)) (jrr_fr (jnp 62 eσ44 (by decide)) (jrr_fr (f41 62 (by decide)) (jrr_fr (f24 62 (by decide)) w7)))))
              have g118 := w117 _ (jnat (x := (σ54 55 25)) rfl (n := 8) (by omega) (by decide))
              refine lv_topi (fun x119 ex119 => ?_)
              rw [← ex119] at g118
              refine lv_istore (lv' := [(7, .int x119), (6, .int r108), (5, .int x49), (4, .int x48), (3, .int x47), (0, .ref (ad 55)), (1, .int a1), (2, .int a2)]) hx hb dX12_game_71 hl (by decide) rfl (fun ls hl => ?_)
              refine lv_aload_n hx hb dX12_game_73 rfl (lv_at hl 5 rfl) ?_
              refine lv_iload hx hb dX12_game_74 (lv_at hl 1 rfl) ?_
              refine lv_iload hx hb dX12_game_76 (lv_at hl 0 rfl) ?_
              have I120 : jI101 σ107 := jI101_fr (f110 4 (by decide)) (f110 5 (by decide)) (f109 56 (by decide)) (f109 57 (by decide)) (f109 58 (by decide)) (f109 59 (by decide)) I102
              have I121 : jI102 σ107 := jI102_fr (f110 6 (by decide)) (f109 60 (by decide)) (f109 61 (by decide)) I82
              have I122 : jI103 σ107 := jI103_fr (f110 9 (by decide)) I103
              have I123 : jI105 σ107 := jI105_fr (f110 15 (by decide)) (f109 65 (by decide)) I104
              have w124 : ∀ k : Nat, k < 4 → 0 ≤ (σ107 68 k).toInt ∧ (σ107 68 k).toInt ≤ 3 := (jrr_fr (f109 68 (by decide)) w84)
              refine jcallV (As := [.int r108, .int x119]) (rest := []) ⟨hx, hb, hml, hown, hts⟩ hK hP hA hS hZ (c_X12_outBy l D cI cL ad zz hJ σ107 τ r108 (r108.toInt) rfl x119 (x119.toInt) rfl I120 I121 I122 I123 w124 (by omega) (by omega)) cw_RX12_259 (jc_55 cI cL ad σ107 τ) rfl ⟨Nat.le_of_ble_eq_true rfl, Nat.le_of_ble_eq_true rfl⟩ rfl rfl rfl hl.1 rfl (Nat.le_of_ble_eq_true rfl) dX12_game_78 ⟨Nat.zero_le _, Nat.zero_le _⟩ (fun r126 σ125 τ125 H locs h125 hP hS => ?_)
              obtain ⟨rfl, f127, f128, h125⟩ := h125
              have h130 := h125
              obtain ⟨q132, k131⟩ := h130
              refine lv_istore (lv' := [(8, .int r126), (7, .int x119), (6, .int r108), (5, .int x49), (4, .int x48), (3, .int x47), (0, .ref (ad 55)), (1, .int a1), (2, .int a2)]) hx hb dX12_game_81 hl (by decide) rfl (fun ls hl => ?_)
              refine lv_aload_n hx hb dX12_game_83 rfl (lv_at hl 6 rfl) ?_
              refine va_get (D := D) hx hb hts inlX12 hown hK hP 55 (jc_55 cI cL ad σ125 τ) rfl 51 (by decide) (hts _ kw_8_7) (fun _ h9 => h9) rfl dX12_game_84 ?_
              refine lv_aload_n hx hb dX12_game_87 rfl (lv_at hl 6 rfl) ?_
              refine va_get (D := D) hx hb hts inlX12 hown hK hP 55 (jc_55 cI cL ad σ125 τ) rfl 50 (by decide) (hts _ kw_46_13) (fun _ h9 => h9) rfl dX12_game_88 ?_
              have m133 : σ125 55 50 = (σ54 55 50) := ((f128 50 (by decide)).trans (f110 50 (by decide)))
              refine jtopr m133 ?_
              refine lv_iload hx hb dX12_game_91 (lv_at hl 2 rfl) ?_
              refine jast hx hb hK hP hJ hA hS (jc_82 cI cL ad σ125 τ) (ja_82 cI cL ad σ125 τ _ _) (jin rfl (by omega) (by omega)) dX12_game_93 (fun σ134 H locs eσ134 hP hS => ?_)
              refine lv_aload_n hx hb dX12_game_94 rfl (lv_at hl 6 rfl) ?_
              refine va_get (D := D) hx hb hts inlX12 hown hK hP 55 (jc_55 cI cL ad σ134 τ) rfl 52 (by decide) (hts _ kw_8_8) (fun _ h9 => h9) rfl dX12_game_95 ?_
              refine lv_aload_n hx hb dX12_game_98 rfl (lv_at hl 6 rfl) ?_
              refine va_get (D := D) hx hb hts inlX12 hown hK hP 55 (jc_55 cI cL ad σ134 τ) rfl 50 (by decide) (hts _ kw_46_13) (fun _ h9 => h9) rfl dX12_game_99 ?_
              have m135 : σ134 55 50 = (σ54 55 50) := ((congrFun (jnp 55 eσ134 (by decide)) 50).trans m133)
              refine jtopr m135 ?_
              refine lv_aload_n hx hb dX12_game_102 rfl (lv_at hl 6 rfl) ?_
              refine lv_iload hx hb dX12_game_103 (lv_at hl 2 rfl) ?_
              refine lv_iload hx hb dX12_game_105 (lv_at hl 1 rfl) ?_
              have I136 : jI101 σ134 := jI101_fr ((congrFun (jnp 55 eσ134 (by decide)) 4).trans (f128 4 (by decide))) ((congrFun (jnp 55 eσ134 (by decide)) 5).trans (f128 5 (by decide))) ((jnp 56 eσ134 (by decide)).trans (f127 56 (by decide))) ((jnp 57 eσ134 (by decide)).trans (f127 57 (by decide))) ((jnp 58 eσ134 (by decide)).trans (f127 58 (by decide))) ((jnp 59 eσ134 (by decide)).trans (f127 59 (by decide))) I120
              have I137 : jI102 σ134 := jI102_fr ((congrFun (jnp 55 eσ134 (by decide)) 6).trans (f128 6 (by decide))) ((jnp 60 eσ134 (by decide)).trans (f127 60 (by decide))) ((jnp 61 eσ134 (by decide)).trans (f127 61 (by decide))) I121
              have I138 : jI103 σ134 := jI103_fr ((congrFun (jnp 55 eσ134 (by decide)) 9).trans (f128 9 (by decide))) I122
              have w139 : ∀ k : Nat, k < 4 → 0 ≤ (σ134 68 k).toInt ∧ (σ134 68 k).toInt ≤ 3 := (jrr_fr (jnp 68 eσ134 (by decide)) (jrr_fr (f127 68 (by decide)) w124))
              refine jcallV (As := [.int r108, .int x119]) (rest := [.int (σ54 55 50), .ref (ad 83)]) ⟨hx, hb, hml, hown, hts⟩ hK hP hA hS hZ (c_X12_runsBy l D cI cL ad zz hJ σ134 τ r108 (r108.toInt) rfl x119 (x119.toInt) rfl I136 I137 I138 w139 (by omega) (by omega)) cw_RX12_262 (jc_55 cI cL ad σ134 τ) rfl ⟨Nat.le_of_ble_eq_true rfl, Nat.le_of_ble_eq_true rfl⟩ rfl rfl rfl hl.1 rfl (Nat.le_of_ble_eq_true rfl) dX12_game_107 ⟨Nat.zero_le _, Nat.zero_le _⟩ (fun r141 σ140 τ140 H locs h140 hP hS => ?_)
              obtain ⟨⟨rfl, rfl⟩, h140⟩ := h140
              have h142 := h140
              obtain ⟨q144, k143⟩ := h142
              refine jast hx hb hK hP hJ hA hS (jc_83 cI cL ad σ134 τ) (ja_83 cI cL ad σ134 τ _ _) (jin rfl (by omega) (by omega)) dX12_game_110 (fun σ145 H locs eσ145 hP hS => ?_)
              refine lv_iload hx hb dX12_game_111 (lv_at hl 4 rfl) ?_
              refine lv_aload_n hx hb dX12_game_113 rfl (lv_at hl 6 rfl) ?_
              refine va_get (D := D) hx hb hts inlX12 hown hK hP 55 (jc_55 cI cL ad σ145 τ) rfl 52 (by decide) (hts _ kw_8_8) (fun _ h9 => h9) rfl dX12_game_114 ?_
              refine lv_aload_n hx hb dX12_game_117 rfl (lv_at hl 6 rfl) ?_
              refine va_get (D := D) hx hb hts inlX12 hown hK hP 55 (jc_55 cI cL ad σ145 τ) rfl 50 (by decide) (hts _ kw_46_13) (fun _ h9 => h9) rfl dX12_game_118 ?_
              have m146 : σ145 55 50 = (σ54 55 50) := ((congrFun (jnp 55 eσ145 (by decide)) 50).trans m135)
              refine jtopr m146 ?_
              refine jald hx hb hK hP (jc_83 cI cL ad σ145 τ) (jin rfl (by omega) (by omega)) dX12_game_121 ?_
              refine lv_topi (fun x147 ex147 => ?_)
              have g148 := jrg (rfl : x48.toInt = x48.toInt)
              have g149 := jrg (rfl : x147.toInt = x147.toInt)
              refine lv_iadd hx hb dX12_game_122 ?_
              refine lv_topi (fun x150 ex150 => ?_)
              have gx150 := jrg (rfl : x150.toInt = x150.toInt)
              refine lv_istore (lv' := [(4, .int x150), (8, .int r126), (7, .int x119), (6, .int r108), (5, .int x49), (3, .int x47), (0, .ref (ad 55)), (1, .int a1), (2, .int a2)]) hx hb dX12_game_123 hl (by decide) rfl (fun ls hl => ?_)
              refine lv_iload_n hx hb dX12_game_125 rfl (lv_at hl 5 rfl) ?_
              refine lv_ldcw (v := 1103515245) hx hb hown (hts _ kw_46_14) dX12_game_126 ?_
              have g151 := jrg (rfl : x47.toInt = x47.toInt)
              refine lv_imul hx hb dX12_game_129 ?_
              refine lv_topi (fun x152 ex152 => ?_)
              have gx152 := jrg (rfl : x152.toInt = x152.toInt)
              refine lv_sipush (v := 12345) hx hb dX12_game_130 (by decide) ?_
              have g153 := jrg (rfl : x152.toInt = x152.toInt)
              refine lv_iadd hx hb dX12_game_133 ?_
              refine lv_topi (fun x154 ex154 => ?_)
              have gx154 := jrg (rfl : x154.toInt = x154.toInt)
              refine lv_istore_n (lv' := [(3, .int x154), (4, .int x150), (8, .int r126), (7, .int x119), (6, .int r108), (5, .int x49), (0, .ref (ad 55)), (1, .int a1), (2, .int a2)]) hx hb dX12_game_134 rfl hl (by decide) rfl (fun ls hl => ?_)
              refine lv_aload_n hx hb dX12_game_135 rfl (lv_at hl 6 rfl) ?_
              refine va_get (D := D) hx hb hts inlX12 hown hK hP 55 (jc_55 cI cL ad σ145 τ) rfl 53 (by decide) (hts _ kw_8_9) (fun _ h9 => h9) rfl dX12_game_136 ?_
              refine lv_aload_n hx hb dX12_game_139 rfl (lv_at hl 6 rfl) ?_
              refine va_get (D := D) hx hb hts inlX12 hown hK hP 55 (jc_55 cI cL ad σ145 τ) rfl 50 (by decide) (hts _ kw_46_13) (fun _ h9 => h9) rfl dX12_game_140 ?_
              refine jtopr m146 ?_
              refine lv_iload_n hx hb dX12_game_143 rfl (lv_at hl 0 rfl) ?_
              refine lv_bipush (v := 8) hx hb dX12_game_144 (by decide) ?_
              refine lv_iushr hx hb dX12_game_146 rfl ?_
              refine lv_topi (fun x155 ex155 => ?_)
              have gx155 := jrg (rfl : x155.toInt = x155.toInt)
              have g156 : 0 ≤ x155.toInt ∧ x155.toInt ≤ 16777215 := jushr8 ex155
              refine lv_sipush (v := 1000) hx hb dX12_game_147 (by decide) ?_
              refine lv_irem hx hb dX12_game_150 (by decide) ?_
              refine lv_topi (fun x157 ex157 => ?_)
              have tx157 : x157.toInt = (x155.toInt % 1000) := jrem ex157 rfl jz_1000 (by omega)
              refine lv_iload hx hb dX12_game_151 (lv_at hl 2 rfl) ?_
              refine lv_icmp_ge (tgt := 160) hx hb dX12_game_153 (by decide) (fun c158 => ?_) (fun c158 => ?_)
              · have kc158 := jle c158 rfl tx157
                refine lv_iconst (v := 0) hx hb dX12_game_160 (by decide) ?_
                refine jast hx hb hK hP hJ hA hS (jc_84 cI cL ad σ145 τ) (ja_84 cI cL ad σ145 τ _ _) (jin rfl (by omega) (by omega)) dX12_game_161 (fun σ159 H locs eσ159 hP hS => ?_)
                refine lv_aload_n hx hb dX12_game_162 rfl (lv_at hl 6 rfl) ?_
                refine lv_iload hx hb dX12_game_163 (lv_at hl 4 rfl) ?_
                refine lv_aload_n hx hb dX12_game_165 rfl (lv_at hl 6 rfl) ?_
                refine va_get (D := D) hx hb hts inlX12 hown hK hP 55 (jc_55 cI cL ad σ159 τ) rfl 53 (by decide) (hts _ kw_8_9) (fun _ h9 => h9) rfl dX12_game_166 ?_
                refine lv_aload_n hx hb dX12_game_169 rfl (lv_at hl 6 rfl) ?_
                refine va_get (D := D) hx hb hts inlX12 hown hK hP 55 (jc_55 cI cL ad σ159 τ) rfl 50 (by decide) (hts _ kw_46_13) (fun _ h9 => h9) rfl dX12_game_170 ?_
                have m160 : σ159 55 50 = (σ54 55 50) := ((congrFun (jnp 55 eσ159 (by decide)) 50).trans m146)
                refine jtopr m160 ?_
                refine jald hx hb hK hP (jc_84 cI cL ad σ159 τ) (jin rfl (by omega) (by omega)) dX12_game_173 ?_
                refine lv_topi (fun x161 ex161 => ?_)
                refine lv_iconst (v := 1) hx hb dX12_game_174 (by decide) ?_
                refine lv_icmp_ne (tgt := 182) hx hb dX12_game_175 (by decide) (fun c162 => ?_) (fun c162 => ?_)
                · have kc162 := jne c162 rfl jz_1
                  refine lv_iconst (v := 0) hx hb dX12_game_182 (by decide) ?_
                  have w163 : ∀ k : Nat, k < 4 → 0 ≤ (σ159 68 k).toInt ∧ (σ159 68 k).toInt ≤ 3 := (jrr_fr (jnp 68 eσ159 (by decide)) (jrr_fr (jnp 68 eσ145 (by decide)) w139))
                  have z164 : (σ159 55 6).toInt = (σ 55 6).toInt := (congrArg Int32.toInt (show σ159 55 6 = (σ 55 6) from ((congrFun (jnp 55 eσ159 (by decide)) 6).trans ((congrFun (jnp 55 eσ145 (by decide)) 6).trans ((congrFun (jnp 55 eσ134 (by decide)) 6).trans ((f128 6 (by decide)).trans ((f110 6 (by decide)).trans ((f74 6 (by decide)).trans ((jkp 6 eσ44 (by decide)).trans ((f42 6 (by decide)).trans (f25 6 (by decide))))))))))))
                  have z165 : (σ159 55 27).toInt = (σ54 55 27).toInt := (congrArg Int32.toInt (show σ159 55 27 = (σ54 55 27) from ((congrFun (jnp 55 eσ159 (by decide)) 27).trans ((congrFun (jnp 55 eσ145 (by decide)) 27).trans ((congrFun (jnp 55 eσ134 (by decide)) 27).trans ((f128 27 (by decide)).trans (f110 27 (by decide))))))))
                  have z166 : (σ159 55 25).toInt = (σ54 55 25).toInt := (congrArg Int32.toInt (show σ159 55 25 = (σ54 55 25) from ((congrFun (jnp 55 eσ159 (by decide)) 25).trans ((congrFun (jnp 55 eσ145 (by decide)) 25).trans ((congrFun (jnp 55 eσ134 (by decide)) 25).trans ((f128 25 (by decide)).trans m116))))))
                  have z167 : (σ159 55 26).toInt = (σ54 55 26).toInt := (congrArg Int32.toInt (show σ159 55 26 = (σ54 55 26) from ((congrFun (jnp 55 eσ159 (by decide)) 26).trans ((congrFun (jnp 55 eσ145 (by decide)) 26).trans ((congrFun (jnp 55 eσ134 (by decide)) 26).trans ((f128 26 (by decide)).trans (f110 26 (by decide))))))))
                  have z168 : (σ159 68 0).toInt = (σ54 68 0).toInt := (congrArg Int32.toInt (show σ159 68 0 = (σ54 68 0) from ((congrFun (jnp 68 eσ159 (by decide)) 0).trans ((congrFun (jnp 68 eσ145 (by decide)) 0).trans ((congrFun (jnp 68 eσ134 (by decide)) 0).trans ((congrFun (f127 68 (by decide)) 0).trans (congrFun (f109 68 (by decide)) 0)))))))
                  have z169 : (σ159 68 1).toInt = (σ54 68 1).toInt := (congrArg Int32.toInt (show σ159 68 1 = (σ54 68 1) from ((congrFun (jnp 68 eσ159 (by decide)) 1).trans ((congrFun (jnp 68 eσ145 (by decide)) 1).trans ((congrFun (jnp 68 eσ134 (by decide)) 1).trans ((congrFun (f127 68 (by decide)) 1).trans (congrFun (f109 68 (by decide)) 1)))))))
                  have z170 : (σ159 68 2).toInt = (σ54 68 2).toInt := (congrArg Int32.toInt (show σ159 68 2 = (σ54 68 2) from ((congrFun (jnp 68 eσ159 (by decide)) 2).trans ((congrFun (jnp 68 eσ145 (by decide)) 2).trans ((congrFun (jnp 68 eσ134 (by decide)) 2).trans ((congrFun (f127 68 (by decide)) 2).trans (congrFun (f109 68 (by decide)) 2)))))))
                  have z171 : (σ159 68 3).toInt = (σ54 68 3).toInt := (congrArg Int32.toInt (show σ159 68 3 = (σ54 68 3) from ((congrFun (jnp 68 eσ159 (by decide)) 3).trans ((congrFun (jnp 68 eσ145 (by decide)) 3).trans ((congrFun (jnp 68 eσ134 (by decide)) 3).trans ((congrFun (f127 68 (by decide)) 3).trans (congrFun (f109 68 (by decide)) 3)))))))
                  refine jcallV (As := [.int r108, .int 0]) (rest := []) ⟨hx, hb, hml, hown, hts⟩ hK hP hA hS hZ (c_X12_goes_0 l D cI cL ad zz hJ σ159 τ r108 (r108.toInt) rfl w163 (by omega) (by omega) (by omega) (by omega) (by omega)) cw_RX12_296 (jc_55 cI cL ad σ159 τ) rfl ⟨Nat.le_of_ble_eq_true rfl, Nat.le_of_ble_eq_true rfl⟩ rfl rfl rfl hl.1 rfl (Nat.le_of_ble_eq_true rfl) dX12_game_183 ⟨Nat.zero_le _, Nat.zero_le _⟩ (fun r173 σ172 τ172 H locs h172 hP hS => ?_)
                  obtain ⟨rfl, f174, f175, w176, w177, w178, h172⟩ := h172
                  obtain ⟨k180, k181, k182, h172⟩ := h172
                  have h183 := h172
                  obtain ⟨q189, k184, k185, k186, k187, k188⟩ := h183
                  refine lv_istore (lv' := [(9, .int r173), (3, .int x154), (4, .int x150), (8, .int r126), (7, .int x119), (6, .int r108), (5, .int x49), (0, .ref (ad 55)), (1, .int a1), (2, .int a2)]) hx hb dX12_game_186 hl (by decide) rfl (fun ls hl => ?_)
                  refine lv_iload_n hx hb dX12_game_188 rfl (lv_at hl 1 rfl) ?_
                  refine lv_ldcw (v := 1103515245) hx hb hown (hts _ kw_46_14) dX12_game_189 ?_
                  have g190 := jrg (rfl : x154.toInt = x154.toInt)
                  refine lv_imul hx hb dX12_game_192 ?_
                  refine lv_topi (fun x191 ex191 => ?_)
                  have gx191 := jrg (rfl : x191.toInt = x191.toInt)
                  refine lv_sipush (v := 12345) hx hb dX12_game_193 (by decide) ?_
                  have g192 := jrg (rfl : x191.toInt = x191.toInt)
                  refine lv_iadd hx hb dX12_game_196 ?_
                  refine lv_topi (fun x193 ex193 => ?_)
                  have gx193 := jrg (rfl : x193.toInt = x193.toInt)
                  refine lv_istore_n (lv' := [(3, .int x193), (9, .int r173), (4, .int x150), (8, .int r126), (7, .int x119), (6, .int r108), (5, .int x49), (0, .ref (ad 55)), (1, .int a1), (2, .int a2)]) hx hb dX12_game_197 rfl hl (by decide) rfl (fun ls hl => ?_)
                  refine lv_iload_n hx hb dX12_game_198 rfl (lv_at hl 0 rfl) ?_
                  refine lv_bipush (v := 8) hx hb dX12_game_199 (by decide) ?_
                  refine lv_iushr hx hb dX12_game_201 rfl ?_
                  refine lv_topi (fun x194 ex194 => ?_)
                  have gx194 := jrg (rfl : x194.toInt = x194.toInt)
                  have g195 : 0 ≤ x194.toInt ∧ x194.toInt ≤ 16777215 := jushr8 ex194
                  refine lv_sipush (v := 1000) hx hb dX12_game_202 (by decide) ?_
                  refine lv_irem hx hb dX12_game_205 (by decide) ?_
                  refine lv_topi (fun x196 ex196 => ?_)
                  have tx196 : x196.toInt = (x194.toInt % 1000) := jrem ex196 rfl jz_1000 (by omega)
                  refine lv_aload_n hx hb dX12_game_206 rfl (lv_at hl 7 rfl) ?_
                  refine va_get (D := D) hx hb hts inlX12 hown hK hP 55 (jc_55 cI cL ad σ172 τ) rfl 13 (by decide) (hts _ kw_15_14) (fun _ h9 => h9) rfl dX12_game_207 ?_
                  have m197 : σ172 55 13 = (σ 55 13) := ((f175 13 (by decide)).trans ((congrFun (jnp 55 eσ159 (by decide)) 13).trans ((congrFun (jnp 55 eσ145 (by decide)) 13).trans ((congrFun (jnp 55 eσ134 (by decide)) 13).trans ((f128 13 (by decide)).trans ((f110 13 (by decide)).trans ((f74 13 (by decide)).trans ((jkp 13 eσ44 (by decide)).trans ((f42 13 (by decide)).trans (f25 13 (by decide)))))))))))
                  refine jtopr m197 ?_
                  refine lv_icmp_ge (tgt := 217) hx hb dX12_game_210 (by decide) (fun c198 => ?_) (fun c198 => ?_)
                  · have kc198 := jle c198 rfl tx196
                    refine lv_iconst (v := 0) hx hb dX12_game_217 (by decide) ?_
                    refine lv_istore (lv' := [(5, .int 0), (3, .int x193), (9, .int r173), (4, .int x150), (8, .int r126), (7, .int x119), (6, .int r108), (0, .ref (ad 55)), (1, .int a1), (2, .int a2)]) hx hb dX12_game_218 hl (by decide) rfl (fun ls hl => ?_)
                    refine lv_aload_n hx hb dX12_game_220 rfl (lv_at hl 7 rfl) ?_
                    refine lv_dup hx hb dX12_game_221 rfl ?_
                    refine va_get (D := D) hx hb hts inlX12 hown hK hP 55 (jc_55 cI cL ad σ172 τ) rfl 50 (by decide) (hts _ kw_46_13) (fun _ h9 => h9) rfl dX12_game_222 ?_
                    have m199 : σ172 55 50 = (σ54 55 50) := ((f175 50 (by decide)).trans m160)
                    refine jtopr m199 ?_
                    refine lv_iconst (v := 1) hx hb dX12_game_225 (by decide) ?_
                    have g200 := jrg (rfl : (σ54 55 50).toInt = (σ54 55 50).toInt)
                    refine lv_iadd hx hb dX12_game_226 ?_
                    refine lv_topi (fun x201 ex201 => ?_)
                    have tx201 : x201.toInt = (σ54 55 50).toInt + 1 := (jadd ex201 rfl jz_1 (by omega) (by omega)).trans (by omega)
                    refine jput (ty := .int) hx hb hts inlX12 tyX12 tyX12_ok nmX12 hown hK hP hJ hA hS (jc_55 cI cL ad σ172 τ) rfl (k := 50) (by decide) (Nat.le_of_ble_eq_true rfl) (jp_55_50 cI cL ad σ172 τ x201) (hts _ kw_46_13) (fun _ h9 => h9) rfl (by decide +kernel) rfl rfl dX12_game_227 (fun σ202 H locs eσ202 hP hS => ?_)
                    refine lv_goto (tgt := 43) hx hb dX12_game_230 (by decide) ?_
                    have z203 : (σ202 55 12).toInt = (σ 55 12).toInt := (congrArg Int32.toInt (show σ202 55 12 = (σ 55 12) from ((jkp 12 eσ202 (by decide)).trans ((f175 12 (by decide)).trans ((congrFun (jnp 55 eσ159 (by decide)) 12).trans ((congrFun (jnp 55 eσ145 (by decide)) 12).trans ((congrFun (jnp 55 eσ134 (by decide)) 12).trans ((f128 12 (by decide)).trans ((f110 12 (by decide)).trans ((f74 12 (by decide)).trans ((jkp 12 eσ44 (by decide)).trans ((f42 12 (by decide)).trans (f25 12 (by decide))))))))))))))
                    have z204 : (σ202 55 26).toInt = (σ172 55 26).toInt := (congrArg Int32.toInt (show σ202 55 26 = (σ172 55 26) from (jkp 26 eσ202 (by decide))))
                    have z205 : (σ202 55 25).toInt = (σ172 55 25).toInt := (congrArg Int32.toInt (show σ202 55 25 = (σ172 55 25) from (jkp 25 eσ202 (by decide))))
                    have z206 : (σ202 55 10).toInt = (σ 55 10).toInt := (congrArg Int32.toInt (show σ202 55 10 = (σ 55 10) from ((jkp 10 eσ202 (by decide)).trans ((f175 10 (by decide)).trans ((congrFun (jnp 55 eσ159 (by decide)) 10).trans ((congrFun (jnp 55 eσ145 (by decide)) 10).trans ((congrFun (jnp 55 eσ134 (by decide)) 10).trans ((f128 10 (by decide)).trans ((f110 10 (by decide)).trans ((f74 10 (by decide)).trans ((jkp 10 eσ44 (by decide)).trans ((f42 10 (by decide)).trans (f25 10 (by decide))))))))))))))
                    have z207 : (σ202 55 27).toInt = (σ172 55 27).toInt := (congrArg Int32.toInt (show σ202 55 27 = (σ172 55 27) from (jkp 27 eσ202 (by decide))))
                    have z208 : (σ202 55 50).toInt = (σ54 55 50).toInt + 1 := ((congrArg Int32.toInt (show σ202 55 50 = x201 from (jsp eσ202))).trans tx201)
                    have p209 : jKept σ202 := jKept.fr ((jnp 75 eσ202 (by decide)).trans ((f174 75 (by decide)).trans ((jnp 75 eσ159 (by decide)).trans ((jnp 75 eσ145 (by decide)).trans ((jnp 75 eσ134 (by decide)).trans (f127 75 (by decide))))))) ((jnp 76 eσ202 (by decide)).trans ((f174 76 (by decide)).trans ((jnp 76 eσ159 (by decide)).trans ((jnp 76 eσ145 (by decide)).trans ((jnp 76 eσ134 (by decide)).trans (f127 76 (by decide))))))) ((jnp 77 eσ202 (by decide)).trans ((f174 77 (by decide)).trans ((jnp 77 eσ159 (by decide)).trans ((jnp 77 eσ145 (by decide)).trans ((jnp 77 eσ134 (by decide)).trans (f127 77 (by decide))))))) p111
                    have I210 : jI109 σ202 := (show 0 ≤ (σ202 55 50).toInt ∧ (σ202 55 50).toInt ≤ 12 by omega)
                    have w211 : ∀ k : Nat, k < 4 → 0 ≤ (σ202 68 k).toInt ∧ (σ202 68 k).toInt ≤ 3 := (jrr_fr (jnp 68 eσ202 (by decide)) w176)
                    have I212 : jI119 σ202 := w211
                    exact ihlp45 x193 x150 0 σ202 _ _ ls (by have h92 := jz_0; omega) (by have h92 := jz_0; omega) (by have h92 := jz_0; omega) (by have h92 := jz_0; omega) (by have h92 := jz_0; omega) (by have h92 := jz_0; omega) (by have h92 := jz_0; omega) (fun i hi => ((jnp i eσ202 (imp_282 i hi)).trans ((f174 i (imp_284 i hi)).trans ((jnp i eσ159 (imp_289 i hi)).trans ((jnp i eσ145 (imp_290 i hi)).trans ((jnp i eσ134 (imp_291 i hi)).trans ((f127 i (imp_292 i hi)).trans ((f109 i (imp_293 i hi)).trans (f73 i hi))))))))) (fun i hi => ((jkp i eσ202 (imp_294 i hi)).trans ((f175 i (imp_295 i hi)).trans ((congrFun (jnp 55 eσ159 (by decide)) i).trans ((congrFun (jnp 55 eσ145 (by decide)) i).trans ((congrFun (jnp 55 eσ134 (by decide)) i).trans ((f128 i (imp_296 i hi)).trans ((f110 i (imp_297 i hi)).trans (f74 i hi)))))))))  p209 I210 I212 hP hS (lv_sub hl [0, 3, 1, 7, 8, 9] rfl)
                  · have kc198 := jnle c198 rfl tx196
                    refine lv_iconst (v := 1) hx hb dX12_game_213 (by decide) ?_
                    refine lv_goto (tgt := 218) hx hb dX12_game_214 (by decide) ?_
                    refine lv_istore (lv' := [(5, .int 1), (3, .int x193), (9, .int r173), (4, .int x150), (8, .int r126), (7, .int x119), (6, .int r108), (0, .ref (ad 55)), (1, .int a1), (2, .int a2)]) hx hb dX12_game_218 hl (by decide) rfl (fun ls hl => ?_)
                    refine lv_aload_n hx hb dX12_game_220 rfl (lv_at hl 7 rfl) ?_
                    refine lv_dup hx hb dX12_game_221 rfl ?_
                    refine va_get (D := D) hx hb hts inlX12 hown hK hP 55 (jc_55 cI cL ad σ172 τ) rfl 50 (by decide) (hts _ kw_46_13) (fun _ h9 => h9) rfl dX12_game_222 ?_
                    have m213 : σ172 55 50 = (σ54 55 50) := ((f175 50 (by decide)).trans m160)
                    refine jtopr m213 ?_
                    refine lv_iconst (v := 1) hx hb dX12_game_225 (by decide) ?_
                    have g214 := jrg (rfl : (σ54 55 50).toInt = (σ54 55 50).toInt)
                    refine lv_iadd hx hb dX12_game_226 ?_
                    refine lv_topi (fun x215 ex215 => ?_)
                    have tx215 : x215.toInt = (σ54 55 50).toInt + 1 := (jadd ex215 rfl jz_1 (by omega) (by omega)).trans (by omega)
                    refine jput (ty := .int) hx hb hts inlX12 tyX12 tyX12_ok nmX12 hown hK hP hJ hA hS (jc_55 cI cL ad σ172 τ) rfl (k := 50) (by decide) (Nat.le_of_ble_eq_true rfl) (jp_55_50 cI cL ad σ172 τ x215) (hts _ kw_46_13) (fun _ h9 => h9) rfl (by decide +kernel) rfl rfl dX12_game_227 (fun σ216 H locs eσ216 hP hS => ?_)
                    refine lv_goto (tgt := 43) hx hb dX12_game_230 (by decide) ?_
                    have z217 : (σ216 55 12).toInt = (σ 55 12).toInt := (congrArg Int32.toInt (show σ216 55 12 = (σ 55 12) from ((jkp 12 eσ216 (by decide)).trans ((f175 12 (by decide)).trans ((congrFun (jnp 55 eσ159 (by decide)) 12).trans ((congrFun (jnp 55 eσ145 (by decide)) 12).trans ((congrFun (jnp 55 eσ134 (by decide)) 12).trans ((f128 12 (by decide)).trans ((f110 12 (by decide)).trans ((f74 12 (by decide)).trans ((jkp 12 eσ44 (by decide)).trans ((f42 12 (by decide)).trans (f25 12 (by decide))))))))))))))
                    have z218 : (σ216 55 26).toInt = (σ172 55 26).toInt := (congrArg Int32.toInt (show σ216 55 26 = (σ172 55 26) from (jkp 26 eσ216 (by decide))))
                    have z219 : (σ216 55 25).toInt = (σ172 55 25).toInt := (congrArg Int32.toInt (show σ216 55 25 = (σ172 55 25) from (jkp 25 eσ216 (by decide))))
                    have z220 : (σ216 55 10).toInt = (σ 55 10).toInt := (congrArg Int32.toInt (show σ216 55 10 = (σ 55 10) from ((jkp 10 eσ216 (by decide)).trans ((f175 10 (by decide)).trans ((congrFun (jnp 55 eσ159 (by decide)) 10).trans ((congrFun (jnp 55 eσ145 (by decide)) 10).trans ((congrFun (jnp 55 eσ134 (by decide)) 10).trans ((f128 10 (by decide)).trans ((f110 10 (by decide)).trans ((f74 10 (by decide)).trans ((jkp 10 eσ44 (by decide)).trans ((f42 10 (by decide)).trans (f25 10 (by decide))))))))))))))
                    have z221 : (σ216 55 27).toInt = (σ172 55 27).toInt := (congrArg Int32.toInt (show σ216 55 27 = (σ172 55 27) from (jkp 27 eσ216 (by decide))))
                    have z222 : (σ216 55 50).toInt = (σ54 55 50).toInt + 1 := ((congrArg Int32.toInt (show σ216 55 50 = x215 from (jsp eσ216))).trans tx215)
                    have p223 : jKept σ216 := jKept.fr ((jnp 75 eσ216 (by decide)).trans ((f174 75 (by decide)).trans ((jnp 75 eσ159 (by decide)).trans ((jnp 75 eσ145 (by decide)).trans ((jnp 75 eσ134 (by decide)).trans (f127 75 (by decide))))))) ((jnp 76 eσ216 (by decide)).trans ((f174 76 (by decide)).trans ((jnp 76 eσ159 (by decide)).trans ((jnp 76 eσ145 (by decide)).trans ((jnp 76 eσ134 (by decide)).trans (f127 76 (by decide))))))) ((jnp 77 eσ216 (by decide)).trans ((f174 77 (by decide)).trans ((jnp 77 eσ159 (by decide)).trans ((jnp 77 eσ145 (by decide)).trans ((jnp 77 eσ134 (by decide)).trans (f127 77 (by decide))))))) p111
                    have I224 : jI109 σ216 := (show 0 ≤ (σ216 55 50).toInt ∧ (σ216 55 50).toInt ≤ 12 by omega)
                    have w225 : ∀ k : Nat, k < 4 → 0 ≤ (σ216 68 k).toInt ∧ (σ216 68 k).toInt ≤ 3 := (jrr_fr (jnp 68 eσ216 (by decide)) w176)
                    have I226 : jI119 σ216 := w225
                    exact ihlp45 x193 x150 1 σ216 _ _ ls (by have h92 := jz_1; omega) (by have h92 := jz_1; omega) (by have h92 := jz_1; omega) (by have h92 := jz_1; omega) (by have h92 := jz_1; omega) (by have h92 := jz_1; omega) (by have h92 := jz_1; omega) (fun i hi => ((jnp i eσ216 (imp_282 i hi)).trans ((f174 i (imp_284 i hi)).trans ((jnp i eσ159 (imp_289 i hi)).trans ((jnp i eσ145 (imp_290 i hi)).trans ((jnp i eσ134 (imp_291 i hi)).trans ((f127 i (imp_292 i hi)).trans ((f109 i (imp_293 i hi)).trans (f73 i hi))))))))) (fun i hi => ((jkp i eσ216 (imp_294 i hi)).trans ((f175 i (imp_295 i hi)).trans ((congrFun (jnp 55 eσ159 (by decide)) i).trans ((congrFun (jnp 55 eσ145 (by decide)) i).trans ((congrFun (jnp 55 eσ134 (by decide)) i).trans ((f128 i (imp_296 i hi)).trans ((f110 i (imp_297 i hi)).trans (f74 i hi)))))))))  p223 I224 I226 hP hS (lv_sub hl [0, 3, 1, 7, 8, 9] rfl)
                · have kc162 := jeq c162 rfl jz_1
                  refine lv_iconst (v := 1) hx hb dX12_game_178 (by decide) ?_
                  refine lv_goto (tgt := 183) hx hb dX12_game_179 (by decide) ?_
                  have w227 : ∀ k : Nat, k < 4 → 0 ≤ (σ159 68 k).toInt ∧ (σ159 68 k).toInt ≤ 3 := (jrr_fr (jnp 68 eσ159 (by decide)) (jrr_fr (jnp 68 eσ145 (by decide)) w139))
                  have z228 : (σ159 55 6).toInt = (σ 55 6).toInt := (congrArg Int32.toInt (show σ159 55 6 = (σ 55 6) from ((congrFun (jnp 55 eσ159 (by decide)) 6).trans ((congrFun (jnp 55 eσ145 (by decide)) 6).trans ((congrFun (jnp 55 eσ134 (by decide)) 6).trans ((f128 6 (by decide)).trans ((f110 6 (by decide)).trans ((f74 6 (by decide)).trans ((jkp 6 eσ44 (by decide)).trans ((f42 6 (by decide)).trans (f25 6 (by decide))))))))))))
                  have z229 : (σ159 55 27).toInt = (σ54 55 27).toInt := (congrArg Int32.toInt (show σ159 55 27 = (σ54 55 27) from ((congrFun (jnp 55 eσ159 (by decide)) 27).trans ((congrFun (jnp 55 eσ145 (by decide)) 27).trans ((congrFun (jnp 55 eσ134 (by decide)) 27).trans ((f128 27 (by decide)).trans (f110 27 (by decide))))))))
                  have z230 : (σ159 55 25).toInt = (σ54 55 25).toInt := (congrArg Int32.toInt (show σ159 55 25 = (σ54 55 25) from ((congrFun (jnp 55 eσ159 (by decide)) 25).trans ((congrFun (jnp 55 eσ145 (by decide)) 25).trans ((congrFun (jnp 55 eσ134 (by decide)) 25).trans ((f128 25 (by decide)).trans m116))))))
                  have z231 : (σ159 55 26).toInt = (σ54 55 26).toInt := (congrArg Int32.toInt (show σ159 55 26 = (σ54 55 26) from ((congrFun (jnp 55 eσ159 (by decide)) 26).trans ((congrFun (jnp 55 eσ145 (by decide)) 26).trans ((congrFun (jnp 55 eσ134 (by decide)) 26).trans ((f128 26 (by decide)).trans (f110 26 (by decide))))))))
                  have z232 : (σ159 68 0).toInt = (σ54 68 0).toInt := (congrArg Int32.toInt (show σ159 68 0 = (σ54 68 0) from ((congrFun (jnp 68 eσ159 (by decide)) 0).trans ((congrFun (jnp 68 eσ145 (by decide)) 0).trans ((congrFun (jnp 68 eσ134 (by decide)) 0).trans ((congrFun (f127 68 (by decide)) 0).trans (congrFun (f109 68 (by decide)) 0)))))))
                  have z233 : (σ159 68 1).toInt = (σ54 68 1).toInt := (congrArg Int32.toInt (show σ159 68 1 = (σ54 68 1) from ((congrFun (jnp 68 eσ159 (by decide)) 1).trans ((congrFun (jnp 68 eσ145 (by decide)) 1).trans ((congrFun (jnp 68 eσ134 (by decide)) 1).trans ((congrFun (f127 68 (by decide)) 1).trans (congrFun (f109 68 (by decide)) 1)))))))
                  have z234 : (σ159 68 2).toInt = (σ54 68 2).toInt := (congrArg Int32.toInt (show σ159 68 2 = (σ54 68 2) from ((congrFun (jnp 68 eσ159 (by decide)) 2).trans ((congrFun (jnp 68 eσ145 (by decide)) 2).trans ((congrFun (jnp 68 eσ134 (by decide)) 2).trans ((congrFun (f127 68 (by decide)) 2).trans (congrFun (f109 68 (by decide)) 2)))))))
                  have z235 : (σ159 68 3).toInt = (σ54 68 3).toInt := (congrArg Int32.toInt (show σ159 68 3 = (σ54 68 3) from ((congrFun (jnp 68 eσ159 (by decide)) 3).trans ((congrFun (jnp 68 eσ145 (by decide)) 3).trans ((congrFun (jnp 68 eσ134 (by decide)) 3).trans ((congrFun (f127 68 (by decide)) 3).trans (congrFun (f109 68 (by decide)) 3)))))))
                  refine jcallV (As := [.int r108, .int 1]) (rest := []) ⟨hx, hb, hml, hown, hts⟩ hK hP hA hS hZ (c_X12_goes_1 l D cI cL ad zz hJ σ159 τ r108 (r108.toInt) rfl w227 (by omega) (by omega) (by omega) (by omega) (by omega)) cw_RX12_296 (jc_55 cI cL ad σ159 τ) rfl ⟨Nat.le_of_ble_eq_true rfl, Nat.le_of_ble_eq_true rfl⟩ rfl rfl rfl hl.1 rfl (Nat.le_of_ble_eq_true rfl) dX12_game_183 ⟨Nat.zero_le _, Nat.zero_le _⟩ (fun r237 σ236 τ236 H locs h236 hP hS => ?_)
                  obtain ⟨rfl, f238, f239, w240, w241, w242, h236⟩ := h236
                  obtain ⟨k244, k245, k246, h236⟩ := h236
                  have h247 := h236
                  obtain ⟨q253, k248, k249, k250, k251, k252⟩ := h247
                  refine lv_istore (lv' := [(9, .int r237), (3, .int x154), (4, .int x150), (8, .int r126), (7, .int x119), (6, .int r108), (5, .int x49), (0, .ref (ad 55)), (1, .int a1), (2, .int a2)]) hx hb dX12_game_186 hl (by decide) rfl (fun ls hl => ?_)
                  refine lv_iload_n hx hb dX12_game_188 rfl (lv_at hl 1 rfl) ?_
                  refine lv_ldcw (v := 1103515245) hx hb hown (hts _ kw_46_14) dX12_game_189 ?_
                  have g254 := jrg (rfl : x154.toInt = x154.toInt)
                  refine lv_imul hx hb dX12_game_192 ?_
                  refine lv_topi (fun x255 ex255 => ?_)
                  have gx255 := jrg (rfl : x255.toInt = x255.toInt)
                  refine lv_sipush (v := 12345) hx hb dX12_game_193 (by decide) ?_
                  have g256 := jrg (rfl : x255.toInt = x255.toInt)
                  refine lv_iadd hx hb dX12_game_196 ?_
                  refine lv_topi (fun x257 ex257 => ?_)
                  have gx257 := jrg (rfl : x257.toInt = x257.toInt)
                  refine lv_istore_n (lv' := [(3, .int x257), (9, .int r237), (4, .int x150), (8, .int r126), (7, .int x119), (6, .int r108), (5, .int x49), (0, .ref (ad 55)), (1, .int a1), (2, .int a2)]) hx hb dX12_game_197 rfl hl (by decide) rfl (fun ls hl => ?_)
                  refine lv_iload_n hx hb dX12_game_198 rfl (lv_at hl 0 rfl) ?_
                  refine lv_bipush (v := 8) hx hb dX12_game_199 (by decide) ?_
                  refine lv_iushr hx hb dX12_game_201 rfl ?_
                  refine lv_topi (fun x258 ex258 => ?_)
                  have gx258 := jrg (rfl : x258.toInt = x258.toInt)
                  have g259 : 0 ≤ x258.toInt ∧ x258.toInt ≤ 16777215 := jushr8 ex258
                  refine lv_sipush (v := 1000) hx hb dX12_game_202 (by decide) ?_
                  refine lv_irem hx hb dX12_game_205 (by decide) ?_
                  refine lv_topi (fun x260 ex260 => ?_)
                  have tx260 : x260.toInt = (x258.toInt % 1000) := jrem ex260 rfl jz_1000 (by omega)
                  refine lv_aload_n hx hb dX12_game_206 rfl (lv_at hl 7 rfl) ?_
                  refine va_get (D := D) hx hb hts inlX12 hown hK hP 55 (jc_55 cI cL ad σ236 τ) rfl 13 (by decide) (hts _ kw_15_14) (fun _ h9 => h9) rfl dX12_game_207 ?_
                  have m261 : σ236 55 13 = (σ 55 13) := ((f239 13 (by decide)).trans ((congrFun (jnp 55 eσ159 (by decide)) 13).trans ((congrFun (jnp 55 eσ145 (by decide)) 13).trans ((congrFun (jnp 55 eσ134 (by decide)) 13).trans ((f128 13 (by decide)).trans ((f110 13 (by decide)).trans ((f74 13 (by decide)).trans ((jkp 13 eσ44 (by decide)).trans ((f42 13 (by decide)).trans (f25 13 (by decide)))))))))))
                  refine jtopr m261 ?_
                  refine lv_icmp_ge (tgt := 217) hx hb dX12_game_210 (by decide) (fun c262 => ?_) (fun c262 => ?_)
                  · have kc262 := jle c262 rfl tx260
                    refine lv_iconst (v := 0) hx hb dX12_game_217 (by decide) ?_
                    refine lv_istore (lv' := [(5, .int 0), (3, .int x257), (9, .int r237), (4, .int x150), (8, .int r126), (7, .int x119), (6, .int r108), (0, .ref (ad 55)), (1, .int a1), (2, .int a2)]) hx hb dX12_game_218 hl (by decide) rfl (fun ls hl => ?_)
                    refine lv_aload_n hx hb dX12_game_220 rfl (lv_at hl 7 rfl) ?_
                    refine lv_dup hx hb dX12_game_221 rfl ?_
                    refine va_get (D := D) hx hb hts inlX12 hown hK hP 55 (jc_55 cI cL ad σ236 τ) rfl 50 (by decide) (hts _ kw_46_13) (fun _ h9 => h9) rfl dX12_game_222 ?_
                    have m263 : σ236 55 50 = (σ54 55 50) := ((f239 50 (by decide)).trans m160)
                    refine jtopr m263 ?_
                    refine lv_iconst (v := 1) hx hb dX12_game_225 (by decide) ?_
                    have g264 := jrg (rfl : (σ54 55 50).toInt = (σ54 55 50).toInt)
                    refine lv_iadd hx hb dX12_game_226 ?_
                    refine lv_topi (fun x265 ex265 => ?_)
                    have tx265 : x265.toInt = (σ54 55 50).toInt + 1 := (jadd ex265 rfl jz_1 (by omega) (by omega)).trans (by omega)
                    refine jput (ty := .int) hx hb hts inlX12 tyX12 tyX12_ok nmX12 hown hK hP hJ hA hS (jc_55 cI cL ad σ236 τ) rfl (k := 50) (by decide) (Nat.le_of_ble_eq_true rfl) (jp_55_50 cI cL ad σ236 τ x265) (hts _ kw_46_13) (fun _ h9 => h9) rfl (by decide +kernel) rfl rfl dX12_game_227 (fun σ266 H locs eσ266 hP hS => ?_)
                    refine lv_goto (tgt := 43) hx hb dX12_game_230 (by decide) ?_
                    have z267 : (σ266 55 12).toInt = (σ 55 12).toInt := (congrArg Int32.toInt (show σ266 55 12 = (σ 55 12) from ((jkp 12 eσ266 (by decide)).trans ((f239 12 (by decide)).trans ((congrFun (jnp 55 eσ159 (by decide)) 12).trans ((congrFun (jnp 55 eσ145 (by decide)) 12).trans ((congrFun (jnp 55 eσ134 (by decide)) 12).trans ((f128 12 (by decide)).trans ((f110 12 (by decide)).trans ((f74 12 (by decide)).trans ((jkp 12 eσ44 (by decide)).trans ((f42 12 (by decide)).trans (f25 12 (by decide))))))))))))))
                    have z268 : (σ266 55 26).toInt = (σ236 55 26).toInt := (congrArg Int32.toInt (show σ266 55 26 = (σ236 55 26) from (jkp 26 eσ266 (by decide))))
                    have z269 : (σ266 55 25).toInt = (σ236 55 25).toInt := (congrArg Int32.toInt (show σ266 55 25 = (σ236 55 25) from (jkp 25 eσ266 (by decide))))
                    have z270 : (σ266 55 10).toInt = (σ 55 10).toInt := (congrArg Int32.toInt (show σ266 55 10 = (σ 55 10) from ((jkp 10 eσ266 (by decide)).trans ((f239 10 (by decide)).trans ((congrFun (jnp 55 eσ159 (by decide)) 10).trans ((congrFun (jnp 55 eσ145 (by decide)) 10).trans ((congrFun (jnp 55 eσ134 (by decide)) 10).trans ((f128 10 (by decide)).trans ((f110 10 (by decide)).trans ((f74 10 (by decide)).trans ((jkp 10 eσ44 (by decide)).trans ((f42 10 (by decide)).trans (f25 10 (by decide))))))))))))))
                    have z271 : (σ266 55 27).toInt = (σ236 55 27).toInt := (congrArg Int32.toInt (show σ266 55 27 = (σ236 55 27) from (jkp 27 eσ266 (by decide))))
                    have z272 : (σ266 55 50).toInt = (σ54 55 50).toInt + 1 := ((congrArg Int32.toInt (show σ266 55 50 = x265 from (jsp eσ266))).trans tx265)
                    have p273 : jKept σ266 := jKept.fr ((jnp 75 eσ266 (by decide)).trans ((f238 75 (by decide)).trans ((jnp 75 eσ159 (by decide)).trans ((jnp 75 eσ145 (by decide)).trans ((jnp 75 eσ134 (by decide)).trans (f127 75 (by decide))))))) ((jnp 76 eσ266 (by decide)).trans ((f238 76 (by decide)).trans ((jnp 76 eσ159 (by decide)).trans ((jnp 76 eσ145 (by decide)).trans ((jnp 76 eσ134 (by decide)).trans (f127 76 (by decide))))))) ((jnp 77 eσ266 (by decide)).trans ((f238 77 (by decide)).trans ((jnp 77 eσ159 (by decide)).trans ((jnp 77 eσ145 (by decide)).trans ((jnp 77 eσ134 (by decide)).trans (f127 77 (by decide))))))) p111
                    have I274 : jI109 σ266 := (show 0 ≤ (σ266 55 50).toInt ∧ (σ266 55 50).toInt ≤ 12 by omega)
                    have w275 : ∀ k : Nat, k < 4 → 0 ≤ (σ266 68 k).toInt ∧ (σ266 68 k).toInt ≤ 3 := (jrr_fr (jnp 68 eσ266 (by decide)) w240)
                    have I276 : jI119 σ266 := w275
                    exact ihlp45 x257 x150 0 σ266 _ _ ls (by have h92 := jz_0; omega) (by have h92 := jz_0; omega) (by have h92 := jz_0; omega) (by have h92 := jz_0; omega) (by have h92 := jz_0; omega) (by have h92 := jz_0; omega) (by have h92 := jz_0; omega) (fun i hi => ((jnp i eσ266 (imp_282 i hi)).trans ((f238 i (imp_284 i hi)).trans ((jnp i eσ159 (imp_289 i hi)).trans ((jnp i eσ145 (imp_290 i hi)).trans ((jnp i eσ134 (imp_291 i hi)).trans ((f127 i (imp_292 i hi)).trans ((f109 i (imp_293 i hi)).trans (f73 i hi))))))))) (fun i hi => ((jkp i eσ266 (imp_294 i hi)).trans ((f239 i (imp_295 i hi)).trans ((congrFun (jnp 55 eσ159 (by decide)) i).trans ((congrFun (jnp 55 eσ145 (by decide)) i).trans ((congrFun (jnp 55 eσ134 (by decide)) i).trans ((f128 i (imp_296 i hi)).trans ((f110 i (imp_297 i hi)).trans (f74 i hi)))))))))  p273 I274 I276 hP hS (lv_sub hl [0, 3, 1, 7, 8, 9] rfl)
                  · have kc262 := jnle c262 rfl tx260
                    refine lv_iconst (v := 1) hx hb dX12_game_213 (by decide) ?_
                    refine lv_goto (tgt := 218) hx hb dX12_game_214 (by decide) ?_
                    refine lv_istore (lv' := [(5, .int 1), (3, .int x257), (9, .int r237), (4, .int x150), (8, .int r126), (7, .int x119), (6, .int r108), (0, .ref (ad 55)), (1, .int a1), (2, .int a2)]) hx hb dX12_game_218 hl (by decide) rfl (fun ls hl => ?_)
                    refine lv_aload_n hx hb dX12_game_220 rfl (lv_at hl 7 rfl) ?_
                    refine lv_dup hx hb dX12_game_221 rfl ?_
                    refine va_get (D := D) hx hb hts inlX12 hown hK hP 55 (jc_55 cI cL ad σ236 τ) rfl 50 (by decide) (hts _ kw_46_13) (fun _ h9 => h9) rfl dX12_game_222 ?_
                    have m277 : σ236 55 50 = (σ54 55 50) := ((f239 50 (by decide)).trans m160)
                    refine jtopr m277 ?_
                    refine lv_iconst (v := 1) hx hb dX12_game_225 (by decide) ?_
                    have g278 := jrg (rfl : (σ54 55 50).toInt = (σ54 55 50).toInt)
                    refine lv_iadd hx hb dX12_game_226 ?_
                    refine lv_topi (fun x279 ex279 => ?_)
                    have tx279 : x279.toInt = (σ54 55 50).toInt + 1 := (jadd ex279 rfl jz_1 (by omega) (by omega)).trans (by omega)
                    refine jput (ty := .int) hx hb hts inlX12 tyX12 tyX12_ok nmX12 hown hK hP hJ hA hS (jc_55 cI cL ad σ236 τ) rfl (k := 50) (by decide) (Nat.le_of_ble_eq_true rfl) (jp_55_50 cI cL ad σ236 τ x279) (hts _ kw_46_13) (fun _ h9 => h9) rfl (by decide +kernel) rfl rfl dX12_game_227 (fun σ280 H locs eσ280 hP hS => ?_)
                    refine lv_goto (tgt := 43) hx hb dX12_game_230 (by decide) ?_
                    have z281 : (σ280 55 12).toInt = (σ 55 12).toInt := (congrArg Int32.toInt (show σ280 55 12 = (σ 55 12) from ((jkp 12 eσ280 (by decide)).trans ((f239 12 (by decide)).trans ((congrFun (jnp 55 eσ159 (by decide)) 12).trans ((congrFun (jnp 55 eσ145 (by decide)) 12).trans ((congrFun (jnp 55 eσ134 (by decide)) 12).trans ((f128 12 (by decide)).trans ((f110 12 (by decide)).trans ((f74 12 (by decide)).trans ((jkp 12 eσ44 (by decide)).trans ((f42 12 (by decide)).trans (f25 12 (by decide))))))))))))))
                    have z282 : (σ280 55 26).toInt = (σ236 55 26).toInt := (congrArg Int32.toInt (show σ280 55 26 = (σ236 55 26) from (jkp 26 eσ280 (by decide))))
                    have z283 : (σ280 55 25).toInt = (σ236 55 25).toInt := (congrArg Int32.toInt (show σ280 55 25 = (σ236 55 25) from (jkp 25 eσ280 (by decide))))
                    have z284 : (σ280 55 10).toInt = (σ 55 10).toInt := (congrArg Int32.toInt (show σ280 55 10 = (σ 55 10) from ((jkp 10 eσ280 (by decide)).trans ((f239 10 (by decide)).trans ((congrFun (jnp 55 eσ159 (by decide)) 10).trans ((congrFun (jnp 55 eσ145 (by decide)) 10).trans ((congrFun (jnp 55 eσ134 (by decide)) 10).trans ((f128 10 (by decide)).trans ((f110 10 (by decide)).trans ((f74 10 (by decide)).trans ((jkp 10 eσ44 (by decide)).trans ((f42 10 (by decide)).trans (f25 10 (by decide))))))))))))))
                    have z285 : (σ280 55 27).toInt = (σ236 55 27).toInt := (congrArg Int32.toInt (show σ280 55 27 = (σ236 55 27) from (jkp 27 eσ280 (by decide))))
                    have z286 : (σ280 55 50).toInt = (σ54 55 50).toInt + 1 := ((congrArg Int32.toInt (show σ280 55 50 = x279 from (jsp eσ280))).trans tx279)
                    have p287 : jKept σ280 := jKept.fr ((jnp 75 eσ280 (by decide)).trans ((f238 75 (by decide)).trans ((jnp 75 eσ159 (by decide)).trans ((jnp 75 eσ145 (by decide)).trans ((jnp 75 eσ134 (by decide)).trans (f127 75 (by decide))))))) ((jnp 76 eσ280 (by decide)).trans ((f238 76 (by decide)).trans ((jnp 76 eσ159 (by decide)).trans ((jnp 76 eσ145 (by decide)).trans ((jnp 76 eσ134 (by decide)).trans (f127 76 (by decide))))))) ((jnp 77 eσ280 (by decide)).trans ((f238 77 (by decide)).trans ((jnp 77 eσ159 (by decide)).trans ((jnp 77 eσ145 (by decide)).trans ((jnp 77 eσ134 (by decide)).trans (f127 77 (by decide))))))) p111
                    have I288 : jI109 σ280 := (show 0 ≤ (σ280 55 50).toInt ∧ (σ280 55 50).toInt ≤ 12 by omega)
                    have w289 : ∀ k : Nat, k < 4 → 0 ≤ (σ280 68 k).toInt ∧ (σ280 68 k).toInt ≤ 3 := (jrr_fr (jnp 68 eσ280 (by decide)) w240)
                    have I290 : jI119 σ280 := w289
                    exact ihlp45 x257 x150 1 σ280 _ _ ls (by have h92 := jz_1; omega) (by have h92 := jz_1; omega) (by have h92 := jz_1; omega) (by have h92 := jz_1; omega) (by have h92 := jz_1; omega) (by have h92 := jz_1; omega) (by have h92 := jz_1; omega) (fun i hi => ((jnp i eσ280 (imp_282 i hi)).trans ((f238 i (imp_284 i hi)).trans ((jnp i eσ159 (imp_289 i hi)).trans ((jnp i eσ145 (imp_290 i hi)).trans ((jnp i eσ134 (imp_291 i hi)).trans ((f127 i (imp_292 i hi)).trans ((f109 i (imp_293 i hi)).trans (f73 i hi))))))))) (fun i hi => ((jkp i eσ280 (imp_294 i hi)).trans ((f239 i (imp_295 i hi)).trans ((congrFun (jnp 55 eσ159 (by decide)) i).trans ((congrFun (jnp 55 eσ145 (by decide)) i).trans ((congrFun (jnp 55 eσ134 (by decide)) i).trans ((f128 i (imp_296 i hi)).trans ((f110 i (imp_297 i hi)).trans (f74 i hi)))))))))  p287 I288 I290 hP hS (lv_sub hl [0, 3, 1, 7, 8, 9] rfl)
              · have kc158 := jnle c158 rfl tx157
                refine lv_iconst (v := 1) hx hb dX12_game_156 (by decide) ?_
                refine lv_goto (tgt := 161) hx hb dX12_game_157 (by decide) ?_
                refine jast hx hb hK hP hJ hA hS (jc_84 cI cL ad σ145 τ) (ja_84 cI cL ad σ145 τ _ _) (jin rfl (by omega) (by omega)) dX12_game_161 (fun σ291 H locs eσ291 hP hS => ?_)
                refine lv_aload_n hx hb dX12_game_162 rfl (lv_at hl 6 rfl) ?_
                refine lv_iload hx hb dX12_game_163 (lv_at hl 4 rfl) ?_
                refine lv_aload_n hx hb dX12_game_165 rfl (lv_at hl 6 rfl) ?_
                refine va_get (D := D) hx hb hts inlX12 hown hK hP 55 (jc_55 cI cL ad σ291 τ) rfl 53 (by decide) (hts _ kw_8_9) (fun _ h9 => h9) rfl dX12_game_166 ?_
                refine lv_aload_n hx hb dX12_game_169 rfl (lv_at hl 6 rfl) ?_
                refine va_get (D := D) hx hb hts inlX12 hown hK hP 55 (jc_55 cI cL ad σ291 τ) rfl 50 (by decide) (hts _ kw_46_13) (fun _ h9 => h9) rfl dX12_game_170 ?_
                have m292 : σ291 55 50 = (σ54 55 50) := ((congrFun (jnp 55 eσ291 (by decide)) 50).trans m146)
                refine jtopr m292 ?_
                refine jald hx hb hK hP (jc_84 cI cL ad σ291 τ) (jin rfl (by omega) (by omega)) dX12_game_173 ?_
                refine lv_topi (fun x293 ex293 => ?_)
                refine lv_iconst (v := 1) hx hb dX12_game_174 (by decide) ?_
                refine lv_icmp_ne (tgt := 182) hx hb dX12_game_175 (by decide) (fun c294 => ?_) (fun c294 => ?_)
                · have kc294 := jne c294 rfl jz_1
                  refine lv_iconst (v := 0) hx hb dX12_game_182 (by decide) ?_
                  have w295 : ∀ k : Nat, k < 4 → 0 ≤ (σ291 68 k).toInt ∧ (σ291 68 k).toInt ≤ 3 := (jrr_fr (jnp 68 eσ291 (by decide)) (jrr_fr (jnp 68 eσ145 (by decide)) w139))
                  have z296 : (σ291 55 6).toInt = (σ 55 6).toInt := (congrArg Int32.toInt (show σ291 55 6 = (σ 55 6) from ((congrFun (jnp 55 eσ291 (by decide)) 6).trans ((congrFun (jnp 55 eσ145 (by decide)) 6).trans ((congrFun (jnp 55 eσ134 (by decide)) 6).trans ((f128 6 (by decide)).trans ((f110 6 (by decide)).trans ((f74 6 (by decide)).trans ((jkp 6 eσ44 (by decide)).trans ((f42 6 (by decide)).trans (f25 6 (by decide))))))))))))
                  have z297 : (σ291 55 27).toInt = (σ54 55 27).toInt := (congrArg Int32.toInt (show σ291 55 27 = (σ54 55 27) from ((congrFun (jnp 55 eσ291 (by decide)) 27).trans ((congrFun (jnp 55 eσ145 (by decide)) 27).trans ((congrFun (jnp 55 eσ134 (by decide)) 27).trans ((f128 27 (by decide)).trans (f110 27 (by decide))))))))
                  have z298 : (σ291 55 25).toInt = (σ54 55 25).toInt := (congrArg Int32.toInt (show σ291 55 25 = (σ54 55 25) from ((congrFun (jnp 55 eσ291 (by decide)) 25).trans ((congrFun (jnp 55 eσ145 (by decide)) 25).trans ((congrFun (jnp 55 eσ134 (by decide)) 25).trans ((f128 25 (by decide)).trans m116))))))
                  have z299 : (σ291 55 26).toInt = (σ54 55 26).toInt := (congrArg Int32.toInt (show σ291 55 26 = (σ54 55 26) from ((congrFun (jnp 55 eσ291 (by decide)) 26).trans ((congrFun (jnp 55 eσ145 (by decide)) 26).trans ((congrFun (jnp 55 eσ134 (by decide)) 26).trans ((f128 26 (by decide)).trans (f110 26 (by decide))))))))
                  have z300 : (σ291 68 0).toInt = (σ54 68 0).toInt := (congrArg Int32.toInt (show σ291 68 0 = (σ54 68 0) from ((congrFun (jnp 68 eσ291 (by decide)) 0).trans ((congrFun (jnp 68 eσ145 (by decide)) 0).trans ((congrFun (jnp 68 eσ134 (by decide)) 0).trans ((congrFun (f127 68 (by decide)) 0).trans (congrFun (f109 68 (by decide)) 0)))))))
                  have z301 : (σ291 68 1).toInt = (σ54 68 1).toInt := (congrArg Int32.toInt (show σ291 68 1 = (σ54 68 1) from ((congrFun (jnp 68 eσ291 (by decide)) 1).trans ((congrFun (jnp 68 eσ145 (by decide)) 1).trans ((congrFun (jnp 68 eσ134 (by decide)) 1).trans ((congrFun (f127 68 (by decide)) 1).trans (congrFun (f109 68 (by decide)) 1)))))))
                  have z302 : (σ291 68 2).toInt = (σ54 68 2).toInt := (congrArg Int32.toInt (show σ291 68 2 = (σ54 68 2) from ((congrFun (jnp 68 eσ291 (by decide)) 2).trans ((congrFun (jnp 68 eσ145 (by decide)) 2).trans ((congrFun (jnp 68 eσ134 (by decide)) 2).trans ((congrFun (f127 68 (by decide)) 2).trans (congrFun (f109 68 (by decide)) 2)))))))
                  have z303 : (σ291 68 3).toInt = (σ54 68 3).toInt := (congrArg Int32.toInt (show σ291 68 3 = (σ54 68 3) from ((congrFun (jnp 68 eσ291 (by decide)) 3).trans ((congrFun (jnp 68 eσ145 (by decide)) 3).trans ((congrFun (jnp 68 eσ134 (by decide)) 3).trans ((congrFun (f127 68 (by decide)) 3).trans (congrFun (f109 68 (by decide)) 3)))))))
                  refine jcallV (As := [.int r108, .int 0]) (rest := []) ⟨hx, hb, hml, hown, hts⟩ hK hP hA hS hZ (c_X12_goes_0 l D cI cL ad zz hJ σ291 τ r108 (r108.toInt) rfl w295 (by omega) (by omega) (by omega) (by omega) (by omega)) cw_RX12_296 (jc_55 cI cL ad σ291 τ) rfl ⟨Nat.le_of_ble_eq_true rfl, Nat.le_of_ble_eq_true rfl⟩ rfl rfl rfl hl.1 rfl (Nat.le_of_ble_eq_true rfl) dX12_game_183 ⟨Nat.zero_le _, Nat.zero_le _⟩ (fun r305 σ304 τ304 H locs h304 hP hS => ?_)
                  obtain ⟨rfl, f306, f307, w308, w309, w310, h304⟩ := h304
                  obtain ⟨k312, k313, k314, h304⟩ := h304
                  have h315 := h304
                  obtain ⟨q321, k316, k317, k318, k319, k320⟩ := h315
                  refine lv_istore (lv' := [(9, .int r305), (3, .int x154), (4, .int x150), (8, .int r126), (7, .int x119), (6, .int r108), (5, .int x49), (0, .ref (ad 55)), (1, .int a1), (2, .int a2)]) hx hb dX12_game_186 hl (by decide) rfl (fun ls hl => ?_)
                  refine lv_iload_n hx hb dX12_game_188 rfl (lv_at hl 1 rfl) ?_
                  refine lv_ldcw (v := 1103515245) hx hb hown (hts _ kw_46_14) dX12_game_189 ?_
                  have g322 := jrg (rfl : x154.toInt = x154.toInt)
                  refine lv_imul hx hb dX12_game_192 ?_
                  refine lv_topi (fun x323 ex323 => ?_)
                  have gx323 := jrg (rfl : x323.toInt = x323.toInt)
                  refine lv_sipush (v := 12345) hx hb dX12_game_193 (by decide) ?_
                  have g324 := jrg (rfl : x323.toInt = x323.toInt)
                  refine lv_iadd hx hb dX12_game_196 ?_
                  refine lv_topi (fun x325 ex325 => ?_)
                  have gx325 := jrg (rfl : x325.toInt = x325.toInt)
                  refine lv_istore_n (lv' := [(3, .int x325), (9, .int r305), (4, .int x150), (8, .int r126), (7, .int x119), (6, .int r108), (5, .int x49), (0, .ref (ad 55)), (1, .int a1), (2, .int a2)]) hx hb dX12_game_197 rfl hl (by decide) rfl (fun ls hl => ?_)
                  refine lv_iload_n hx hb dX12_game_198 rfl (lv_at hl 0 rfl) ?_
                  refine lv_bipush (v := 8) hx hb dX12_game_199 (by decide) ?_
                  refine lv_iushr hx hb dX12_game_201 rfl ?_
                  refine lv_topi (fun x326 ex326 => ?_)
                  have gx326 := jrg (rfl : x326.toInt = x326.toInt)
                  have g327 : 0 ≤ x326.toInt ∧ x326.toInt ≤ 16777215 := jushr8 ex326
                  refine lv_sipush (v := 1000) hx hb dX12_game_202 (by decide) ?_
                  refine lv_irem hx hb dX12_game_205 (by decide) ?_
                  refine lv_topi (fun x328 ex328 => ?_)
                  have tx328 : x328.toInt = (x326.toInt % 1000) := jrem ex328 rfl jz_1000 (by omega)
                  refine lv_aload_n hx hb dX12_game_206 rfl (lv_at hl 7 rfl) ?_
                  refine va_get (D := D) hx hb hts inlX12 hown hK hP 55 (jc_55 cI cL ad σ304 τ) rfl 13 (by decide) (hts _ kw_15_14) (fun _ h9 => h9) rfl dX12_game_207 ?_
                  have m329 : σ304 55 13 = (σ 55 13) := ((f307 13 (by decide)).trans ((congrFun (jnp 55 eσ291 (by decide)) 13).trans ((congrFun (jnp 55 eσ145 (by decide)) 13).trans ((congrFun (jnp 55 eσ134 (by decide)) 13).trans ((f128 13 (by decide)).trans ((f110 13 (by decide)).trans ((f74 13 (by decide)).trans ((jkp 13 eσ44 (by decide)).trans ((f42 13 (by decide)).trans (f25 13 (by decide)))))))))))
                  refine jtopr m329 ?_
                  refine lv_icmp_ge (tgt := 217) hx hb dX12_game_210 (by decide) (fun c330 => ?_) (fun c330 => ?_)
                  · have kc330 := jle c330 rfl tx328
                    refine lv_iconst (v := 0) hx hb dX12_game_217 (by decide) ?_
                    refine lv_istore (lv' := [(5, .int 0), (3, .int x325), (9, .int r305), (4, .int x150), (8, .int r126), (7, .int x119), (6, .int r108), (0, .ref (ad 55)), (1, .int a1), (2, .int a2)]) hx hb dX12_game_218 hl (by decide) rfl (fun ls hl => ?_)
                    refine lv_aload_n hx hb dX12_game_220 rfl (lv_at hl 7 rfl) ?_
                    refine lv_dup hx hb dX12_game_221 rfl ?_
                    refine va_get (D := D) hx hb hts inlX12 hown hK hP 55 (jc_55 cI cL ad σ304 τ) rfl 50 (by decide) (hts _ kw_46_13) (fun _ h9 => h9) rfl dX12_game_222 ?_
                    have m331 : σ304 55 50 = (σ54 55 50) := ((f307 50 (by decide)).trans m292)
                    refine jtopr m331 ?_
                    refine lv_iconst (v := 1) hx hb dX12_game_225 (by decide) ?_
                    have g332 := jrg (rfl : (σ54 55 50).toInt = (σ54 55 50).toInt)
                    refine lv_iadd hx hb dX12_game_226 ?_
                    refine lv_topi (fun x333 ex333 => ?_)
                    have tx333 : x333.toInt = (σ54 55 50).toInt + 1 := (jadd ex333 rfl jz_1 (by omega) (by omega)).trans (by omega)
                    refine jput (ty := .int) hx hb hts inlX12 tyX12 tyX12_ok nmX12 hown hK hP hJ hA hS (jc_55 cI cL ad σ304 τ) rfl (k := 50) (by decide) (Nat.le_of_ble_eq_true rfl) (jp_55_50 cI cL ad σ304 τ x333) (hts _ kw_46_13) (fun _ h9 => h9) rfl (by decide +kernel) rfl rfl dX12_game_227 (fun σ334 H locs eσ334 hP hS => ?_)
                    refine lv_goto (tgt := 43) hx hb dX12_game_230 (by decide) ?_
                    have z335 : (σ334 55 12).toInt = (σ 55 12).toInt := (congrArg Int32.toInt (show σ334 55 12 = (σ 55 12) from ((jkp 12 eσ334 (by decide)).trans ((f307 12 (by decide)).trans ((congrFun (jnp 55 eσ291 (by decide)) 12).trans ((congrFun (jnp 55 eσ145 (by decide)) 12).trans ((congrFun (jnp 55 eσ134 (by decide)) 12).trans ((f128 12 (by decide)).trans ((f110 12 (by decide)).trans ((f74 12 (by decide)).trans ((jkp 12 eσ44 (by decide)).trans ((f42 12 (by decide)).trans (f25 12 (by decide))))))))))))))
                    have z336 : (σ334 55 26).toInt = (σ304 55 26).toInt := (congrArg Int32.toInt (show σ334 55 26 = (σ304 55 26) from (jkp 26 eσ334 (by decide))))
                    have z337 : (σ334 55 25).toInt = (σ304 55 25).toInt := (congrArg Int32.toInt (show σ334 55 25 = (σ304 55 25) from (jkp 25 eσ334 (by decide))))
                    have z338 : (σ334 55 10).toInt = (σ 55 10).toInt := (congrArg Int32.toInt (show σ334 55 10 = (σ 55 10) from ((jkp 10 eσ334 (by decide)).trans ((f307 10 (by decide)).trans ((congrFun (jnp 55 eσ291 (by decide)) 10).trans ((congrFun (jnp 55 eσ145 (by decide)) 10).trans ((congrFun (jnp 55 eσ134 (by decide)) 10).trans ((f128 10 (by decide)).trans ((f110 10 (by decide)).trans ((f74 10 (by decide)).trans ((jkp 10 eσ44 (by decide)).trans ((f42 10 (by decide)).trans (f25 10 (by decide))))))))))))))
                    have z339 : (σ334 55 27).toInt = (σ304 55 27).toInt := (congrArg Int32.toInt (show σ334 55 27 = (σ304 55 27) from (jkp 27 eσ334 (by decide))))
                    have z340 : (σ334 55 50).toInt = (σ54 55 50).toInt + 1 := ((congrArg Int32.toInt (show σ334 55 50 = x333 from (jsp eσ334))).trans tx333)
                    have p341 : jKept σ334 := jKept.fr ((jnp 75 eσ334 (by decide)).trans ((f306 75 (by decide)).trans ((jnp 75 eσ291 (by decide)).trans ((jnp 75 eσ145 (by decide)).trans ((jnp 75 eσ134 (by decide)).trans (f127 75 (by decide))))))) ((jnp 76 eσ334 (by decide)).trans ((f306 76 (by decide)).trans ((jnp 76 eσ291 (by decide)).trans ((jnp 76 eσ145 (by decide)).trans ((jnp 76 eσ134 (by decide)).trans (f127 76 (by decide))))))) ((jnp 77 eσ334 (by decide)).trans ((f306 77 (by decide)).trans ((jnp 77 eσ291 (by decide)).trans ((jnp 77 eσ145 (by decide)).trans ((jnp 77 eσ134 (by decide)).trans (f127 77 (by decide))))))) p111
                    have I342 : jI109 σ334 := (show 0 ≤ (σ334 55 50).toInt ∧ (σ334 55 50).toInt ≤ 12 by omega)
                    have w343 : ∀ k : Nat, k < 4 → 0 ≤ (σ334 68 k).toInt ∧ (σ334 68 k).toInt ≤ 3 := (jrr_fr (jnp 68 eσ334 (by decide)) w308)
                    have I344 : jI119 σ334 := w343
                    exact ihlp45 x325 x150 0 σ334 _ _ ls (by have h92 := jz_0; omega) (by have h92 := jz_0; omega) (by have h92 := jz_0; omega) (by have h92 := jz_0; omega) (by have h92 := jz_0; omega) (by have h92 := jz_0; omega) (by have h92 := jz_0; omega) (fun i hi => ((jnp i eσ334 (imp_282 i hi)).trans ((f306 i (imp_284 i hi)).trans ((jnp i eσ291 (imp_289 i hi)).trans ((jnp i eσ145 (imp_290 i hi)).trans ((jnp i eσ134 (imp_291 i hi)).trans ((f127 i (imp_292 i hi)).trans ((f109 i (imp_293 i hi)).trans (f73 i hi))))))))) (fun i hi => ((jkp i eσ334 (imp_294 i hi)).trans ((f307 i (imp_295 i hi)).trans ((congrFun (jnp 55 eσ291 (by decide)) i).trans ((congrFun (jnp 55 eσ145 (by decide)) i).trans ((congrFun (jnp 55 eσ134 (by decide)) i).trans ((f128 i (imp_296 i hi)).trans ((f110 i (imp_297 i hi)).trans (f74 i hi)))))))))  p341 I342 I344 hP hS (lv_sub hl [0, 3, 1, 7, 8, 9] rfl)
                  · have kc330 := jnle c330 rfl tx328
                    refine lv_iconst (v := 1) hx hb dX12_game_213 (by decide) ?_
                    refine lv_goto (tgt := 218) hx hb dX12_game_214 (by decide) ?_
                    refine lv_istore (lv' := [(5, .int 1), (3, .int x325), (9, .int r305), (4, .int x150), (8, .int r126), (7, .int x119), (6, .int r108), (0, .ref (ad 55)), (1, .int a1), (2, .int a2)]) hx hb dX12_game_218 hl (by decide) rfl (fun ls hl => ?_)
                    refine lv_aload_n hx hb dX12_game_220 rfl (lv_at hl 7 rfl) ?_
                    refine lv_dup hx hb dX12_game_221 rfl ?_
                    refine va_get (D := D) hx hb hts inlX12 hown hK hP 55 (jc_55 cI cL ad σ304 τ) rfl 50 (by decide) (hts _ kw_46_13) (fun _ h9 => h9) rfl dX12_game_222 ?_
                    have m345 : σ304 55 50 = (σ54 55 50) := ((f307 50 (by decide)).trans m292)
                    refine jtopr m345 ?_
                    refine lv_iconst (v := 1) hx hb dX12_game_225 (by decide) ?_
                    have g346 := jrg (rfl : (σ54 55 50).toInt = (σ54 55 50).toInt)
                    refine lv_iadd hx hb dX12_game_226 ?_
                    refine lv_topi (fun x347 ex347 => ?_)
                    have tx347 : x347.toInt = (σ54 55 50).toInt + 1 := (jadd ex347 rfl jz_1 (by omega) (by omega)).trans (by omega)
                    refine jput (ty := .int) hx hb hts inlX12 tyX12 tyX12_ok nmX12 hown hK hP hJ hA hS (jc_55 cI cL ad σ304 τ) rfl (k := 50) (by decide) (Nat.le_of_ble_eq_true rfl) (jp_55_50 cI cL ad σ304 τ x347) (hts _ kw_46_13) (fun _ h9 => h9) rfl (by decide +kernel) rfl rfl dX12_game_227 (fun σ348 H locs eσ348 hP hS => ?_)
                    refine lv_goto (tgt := 43) hx hb dX12_game_230 (by decide) ?_
                    have z349 : (σ348 55 12).toInt = (σ 55 12).toInt := (congrArg Int32.toInt (show σ348 55 12 = (σ 55 12) from ((jkp 12 eσ348 (by decide)).trans ((f307 12 (by decide)).trans ((congrFun (jnp 55 eσ291 (by decide)) 12).trans ((congrFun (jnp 55 eσ145 (by decide)) 12).trans ((congrFun (jnp 55 eσ134 (by decide)) 12).trans ((f128 12 (by decide)).trans ((f110 12 (by decide)).trans ((f74 12 (by decide)).trans ((jkp 12 eσ44 (by decide)).trans ((f42 12 (by decide)).trans (f25 12 (by decide))))))))))))))
                    have z350 : (σ348 55 26).toInt = (σ304 55 26).toInt := (congrArg Int32.toInt (show σ348 55 26 = (σ304 55 26) from (jkp 26 eσ348 (by decide))))
                    have z351 : (σ348 55 25).toInt = (σ304 55 25).toInt := (congrArg Int32.toInt (show σ348 55 25 = (σ304 55 25) from (jkp 25 eσ348 (by decide))))
                    have z352 : (σ348 55 10).toInt = (σ 55 10).toInt := (congrArg Int32.toInt (show σ348 55 10 = (σ 55 10) from ((jkp 10 eσ348 (by decide)).trans ((f307 10 (by decide)).trans ((congrFun (jnp 55 eσ291 (by decide)) 10).trans ((congrFun (jnp 55 eσ145 (by decide)) 10).trans ((congrFun (jnp 55 eσ134 (by decide)) 10).trans ((f128 10 (by decide)).trans ((f110 10 (by decide)).trans ((f74 10 (by decide)).trans ((jkp 10 eσ44 (by decide)).trans ((f42 10 (by decide)).trans (f25 10 (by decide))))))))))))))
                    have z353 : (σ348 55 27).toInt = (σ304 55 27).toInt := (congrArg Int32.toInt (show σ348 55 27 = (σ304 55 27) from (jkp 27 eσ348 (by decide))))
                    have z354 : (σ348 55 50).toInt = (σ54 55 50).toInt + 1 := ((congrArg Int32.toInt (show σ348 55 50 = x347 from (jsp eσ348))).trans tx347)
                    have p355 : jKept σ348 := jKept.fr ((jnp 75 eσ348 (by decide)).trans ((f306 75 (by decide)).trans ((jnp 75 eσ291 (by decide)).trans ((jnp 75 eσ145 (by decide)).trans ((jnp 75 eσ134 (by decide)).trans (f127 75 (by decide))))))) ((jnp 76 eσ348 (by decide)).trans ((f306 76 (by decide)).trans ((jnp 76 eσ291 (by decide)).trans ((jnp 76 eσ145 (by decide)).trans ((jnp 76 eσ134 (by decide)).trans (f127 76 (by decide))))))) ((jnp 77 eσ348 (by decide)).trans ((f306 77 (by decide)).trans ((jnp 77 eσ291 (by decide)).trans ((jnp 77 eσ145 (by decide)).trans ((jnp 77 eσ134 (by decide)).trans (f127 77 (by decide))))))) p111
                    have I356 : jI109 σ348 := (show 0 ≤ (σ348 55 50).toInt ∧ (σ348 55 50).toInt ≤ 12 by omega)
                    have w357 : ∀ k : Nat, k < 4 → 0 ≤ (σ348 68 k).toInt ∧ (σ348 68 k).toInt ≤ 3 := (jrr_fr (jnp 68 eσ348 (by decide)) w308)
                    have I358 : jI119 σ348 := w357
                    exact ihlp45 x325 x150 1 σ348 _ _ ls (by have h92 := jz_1; omega) (by have h92 := jz_1; omega) (by have h92 := jz_1; omega) (by have h92 := jz_1; omega) (by have h92 := jz_1; omega) (by have h92 := jz_1; omega) (by have h92 := jz_1; omega) (fun i hi => ((jnp i eσ348 (imp_282 i hi)).trans ((f306 i (imp_284 i hi)).trans ((jnp i eσ291 (imp_289 i hi)).trans ((jnp i eσ145 (imp_290 i hi)).trans ((jnp i eσ134 (imp_291 i hi)).trans ((f127 i (imp_292 i hi)).trans ((f109 i (imp_293 i hi)).trans (f73 i hi))))))))) (fun i hi => ((jkp i eσ348 (imp_294 i hi)).trans ((f307 i (imp_295 i hi)).trans ((congrFun (jnp 55 eσ291 (by decide)) i).trans ((congrFun (jnp 55 eσ145 (by decide)) i).trans ((congrFun (jnp 55 eσ134 (by decide)) i).trans ((f128 i (imp_296 i hi)).trans ((f110 i (imp_297 i hi)).trans (f74 i hi)))))))))  p355 I356 I358 hP hS (lv_sub hl [0, 3, 1, 7, 8, 9] rfl)
                · have kc294 := jeq c294 rfl jz_1
                  refine lv_iconst (v := 1) hx hb dX12_game_178 (by decide) ?_
                  refine lv_goto (tgt := 183) hx hb dX12_game_179 (by decide) ?_
                  have w359 : ∀ k : Nat, k < 4 → 0 ≤ (σ291 68 k).toInt ∧ (σ291 68 k).toInt ≤ 3 := (jrr_fr (jnp 68 eσ291 (by decide)) (jrr_fr (jnp 68 eσ145 (by decide)) w139))
                  have z360 : (σ291 55 6).toInt = (σ 55 6).toInt := (congrArg Int32.toInt (show σ291 55 6 = (σ 55 6) from ((congrFun (jnp 55 eσ291 (by decide)) 6).trans ((congrFun (jnp 55 eσ145 (by decide)) 6).trans ((congrFun (jnp 55 eσ134 (by decide)) 6).trans ((f128 6 (by decide)).trans ((f110 6 (by decide)).trans ((f74 6 (by decide)).trans ((jkp 6 eσ44 (by decide)).trans ((f42 6 (by decide)).trans (f25 6 (by decide))))))))))))
                  have z361 : (σ291 55 27).toInt = (σ54 55 27).toInt := (congrArg Int32.toInt (show σ291 55 27 = (σ54 55 27) from ((congrFun (jnp 55 eσ291 (by decide)) 27).trans ((congrFun (jnp 55 eσ145 (by decide)) 27).trans ((congrFun (jnp 55 eσ134 (by decide)) 27).trans ((f128 27 (by decide)).trans (f110 27 (by decide))))))))
                  have z362 : (σ291 55 25).toInt = (σ54 55 25).toInt := (congrArg Int32.toInt (show σ291 55 25 = (σ54 55 25) from ((congrFun (jnp 55 eσ291 (by decide)) 25).trans ((congrFun (jnp 55 eσ145 (by decide)) 25).trans ((congrFun (jnp 55 eσ134 (by decide)) 25).trans ((f128 25 (by decide)).trans m116))))))
                  have z363 : (σ291 55 26).toInt = (σ54 55 26).toInt := (congrArg Int32.toInt (show σ291 55 26 = (σ54 55 26) from ((congrFun (jnp 55 eσ291 (by decide)) 26).trans ((congrFun (jnp 55 eσ145 (by decide)) 26).trans ((congrFun (jnp 55 eσ134 (by decide)) 26).trans ((f128 26 (by decide)).trans (f110 26 (by decide))))))))
                  have z364 : (σ291 68 0).toInt = (σ54 68 0).toInt := (congrArg Int32.toInt (show σ291 68 0 = (σ54 68 0) from ((congrFun (jnp 68 eσ291 (by decide)) 0).trans ((congrFun (jnp 68 eσ145 (by decide)) 0).trans ((congrFun (jnp 68 eσ134 (by decide)) 0).trans ((congrFun (f127 68 (by decide)) 0).trans (congrFun (f109 68 (by decide)) 0)))))))
                  have z365 : (σ291 68 1).toInt = (σ54 68 1).toInt := (congrArg Int32.toInt (show σ291 68 1 = (σ54 68 1) from ((congrFun (jnp 68 eσ291 (by decide)) 1).trans ((congrFun (jnp 68 eσ145 (by decide)) 1).trans ((congrFun (jnp 68 eσ134 (by decide)) 1).trans ((congrFun (f127 68 (by decide)) 1).trans (congrFun (f109 68 (by decide)) 1)))))))
                  have z366 : (σ291 68 2).toInt = (σ54 68 2).toInt := (congrArg Int32.toInt (show σ291 68 2 = (σ54 68 2) from ((congrFun (jnp 68 eσ291 (by decide)) 2).trans ((congrFun (jnp 68 eσ145 (by decide)) 2).trans ((congrFun (jnp 68 eσ134 (by decide)) 2).trans ((congrFun (f127 68 (by decide)) 2).trans (congrFun (f109 68 (by decide)) 2)))))))
                  have z367 : (σ291 68 3).toInt = (σ54 68 3).toInt := (congrArg Int32.toInt (show σ291 68 3 = (σ54 68 3) from ((congrFun (jnp 68 eσ291 (by decide)) 3).trans ((congrFun (jnp 68 eσ145 (by decide)) 3).trans ((congrFun (jnp 68 eσ134 (by decide)) 3).trans ((congrFun (f127 68 (by decide)) 3).trans (congrFun (f109 68 (by decide)) 3)))))))
                  refine jcallV (As := [.int r108, .int 1]) (rest := []) ⟨hx, hb, hml, hown, hts⟩ hK hP hA hS hZ (c_X12_goes_1 l D cI cL ad zz hJ σ291 τ r108 (r108.toInt) rfl w359 (by omega) (by omega) (by omega) (by omega) (by omega)) cw_RX12_296 (jc_55 cI cL ad σ291 τ) rfl ⟨Nat.le_of_ble_eq_true rfl, Nat.le_of_ble_eq_true rfl⟩ rfl rfl rfl hl.1 rfl (Nat.le_of_ble_eq_true rfl) dX12_game_183 ⟨Nat.zero_le _, Nat.zero_le _⟩ (fun r369 σ368 τ368 H locs h368 hP hS => ?_)
                  obtain ⟨rfl, f370, f371, w372, w373, w374, h368⟩ := h368
                  obtain ⟨k376, k377, k378, h368⟩ := h368
                  have h379 := h368
                  obtain ⟨q385, k380, k381, k382, k383, k384⟩ := h379
                  refine lv_istore (lv' := [(9, .int r369), (3, .int x154), (4, .int x150), (8, .int r126), (7, .int x119), (6, .int r108), (5, .int x49), (0, .ref (ad 55)), (1, .int a1), (2, .int a2)]) hx hb dX12_game_186 hl (by decide) rfl (fun ls hl => ?_)
                  refine lv_iload_n hx hb dX12_game_188 rfl (lv_at hl 1 rfl) ?_
                  refine lv_ldcw (v := 1103515245) hx hb hown (hts _ kw_46_14) dX12_game_189 ?_
                  have g386 := jrg (rfl : x154.toInt = x154.toInt)
                  refine lv_imul hx hb dX12_game_192 ?_
                  refine lv_topi (fun x387 ex387 => ?_)
                  have gx387 := jrg (rfl : x387.toInt = x387.toInt)
                  refine lv_sipush (v := 12345) hx hb dX12_game_193 (by decide) ?_
                  have g388 := jrg (rfl : x387.toInt = x387.toInt)
                  refine lv_iadd hx hb dX12_game_196 ?_
                  refine lv_topi (fun x389 ex389 => ?_)
                  have gx389 := jrg (rfl : x389.toInt = x389.toInt)
                  refine lv_istore_n (lv' := [(3, .int x389), (9, .int r369), (4, .int x150), (8, .int r126), (7, .int x119), (6, .int r108), (5, .int x49), (0, .ref (ad 55)), (1, .int a1), (2, .int a2)]) hx hb dX12_game_197 rfl hl (by decide) rfl (fun ls hl => ?_)
                  refine lv_iload_n hx hb dX12_game_198 rfl (lv_at hl 0 rfl) ?_
                  refine lv_bipush (v := 8) hx hb dX12_game_199 (by decide) ?_
                  refine lv_iushr hx hb dX12_game_201 rfl ?_
                  refine lv_topi (fun x390 ex390 => ?_)
                  have gx390 := jrg (rfl : x390.toInt = x390.toInt)
                  have g391 : 0 ≤ x390.toInt ∧ x390.toInt ≤ 16777215 := jushr8 ex390
                  refine lv_sipush (v := 1000) hx hb dX12_game_202 (by decide) ?_
                  refine lv_irem hx hb dX12_game_205 (by decide) ?_
                  refine lv_topi (fun x392 ex392 => ?_)
                  have tx392 : x392.toInt = (x390.toInt % 1000) := jrem ex392 rfl jz_1000 (by omega)
                  refine lv_aload_n hx hb dX12_game_206 rfl (lv_at hl 7 rfl) ?_
                  refine va_get (D := D) hx hb hts inlX12 hown hK hP 55 (jc_55 cI cL ad σ368 τ) rfl 13 (by decide) (hts _ kw_15_14) (fun _ h9 => h9) rfl dX12_game_207 ?_
                  have m393 : σ368 55 13 = (σ 55 13) := ((f371 13 (by decide)).trans ((congrFun (jnp 55 eσ291 (by decide)) 13).trans ((congrFun (jnp 55 eσ145 (by decide)) 13).trans ((congrFun (jnp 55 eσ134 (by decide)) 13).trans ((f128 13 (by decide)).trans ((f110 13 (by decide)).trans ((f74 13 (by decide)).trans ((jkp 13 eσ44 (by decide)).trans ((f42 13 (by decide)).trans (f25 13 (by decide)))))))))))
                  refine jtopr m393 ?_
                  refine lv_icmp_ge (tgt := 217) hx hb dX12_game_210 (by decide) (fun c394 => ?_) (fun c394 => ?_)
                  · have kc394 := jle c394 rfl tx392
                    refine lv_iconst (v := 0) hx hb dX12_game_217 (by decide) ?_
                    refine lv_istore (lv' := [(5, .int 0), (3, .int x389), (9, .int r369), (4, .int x150), (8, .int r126), (7, .int x119), (6, .int r108), (0, .ref (ad 55)), (1, .int a1), (2, .int a2)]) hx hb dX12_game_218 hl (by decide) rfl (fun ls hl => ?_)
                    refine lv_aload_n hx hb dX12_game_220 rfl (lv_at hl 7 rfl) ?_
                    refine lv_dup hx hb dX12_game_221 rfl ?_
                    refine va_get (D := D) hx hb hts inlX12 hown hK hP 55 (jc_55 cI cL ad σ368 τ) rfl 50 (by decide) (hts _ kw_46_13) (fun _ h9 => h9) rfl dX12_game_222 ?_
                    have m395 : σ368 55 50 = (σ54 55 50) := ((f371 50 (by decide)).trans m292)
                    refine jtopr m395 ?_
                    refine lv_iconst (v := 1) hx hb dX12_game_225 (by decide) ?_
                    have g396 := jrg (rfl : (σ54 55 50).toInt = (σ54 55 50).toInt)
                    refine lv_iadd hx hb dX12_game_226 ?_
                    refine lv_topi (fun x397 ex397 => ?_)
                    have tx397 : x397.toInt = (σ54 55 50).toInt + 1 := (jadd ex397 rfl jz_1 (by omega) (by omega)).trans (by omega)
                    refine jput (ty := .int) hx hb hts inlX12 tyX12 tyX12_ok nmX12 hown hK hP hJ hA hS (jc_55 cI cL ad σ368 τ) rfl (k := 50) (by decide) (Nat.le_of_ble_eq_true rfl) (jp_55_50 cI cL ad σ368 τ x397) (hts _ kw_46_13) (fun _ h9 => h9) rfl (by decide +kernel) rfl rfl dX12_game_227 (fun σ398 H locs eσ398 hP hS => ?_)
                    refine lv_goto (tgt := 43) hx hb dX12_game_230 (by decide) ?_
                    have z399 : (σ398 55 12).toInt = (σ 55 12).toInt := (congrArg Int32.toInt (show σ398 55 12 = (σ 55 12) from ((jkp 12 eσ398 (by decide)).trans ((f371 12 (by decide)).trans ((congrFun (jnp 55 eσ291 (by decide)) 12).trans ((congrFun (jnp 55 eσ145 (by decide)) 12).trans ((congrFun (jnp 55 eσ134 (by decide)) 12).trans ((f128 12 (by decide)).trans ((f110 12 (by decide)).trans ((f74 12 (by decide)).trans ((jkp 12 eσ44 (by decide)).trans ((f42 12 (by decide)).trans (f25 12 (by decide))))))))))))))
                    have z400 : (σ398 55 26).toInt = (σ368 55 26).toInt := (congrArg Int32.toInt (show σ398 55 26 = (σ368 55 26) from (jkp 26 eσ398 (by decide))))
                    have z401 : (σ398 55 25).toInt = (σ368 55 25).toInt := (congrArg Int32.toInt (show σ398 55 25 = (σ368 55 25) from (jkp 25 eσ398 (by decide))))
                    have z402 : (σ398 55 10).toInt = (σ 55 10).toInt := (congrArg Int32.toInt (show σ398 55 10 = (σ 55 10) from ((jkp 10 eσ398 (by decide)).trans ((f371 10 (by decide)).trans ((congrFun (jnp 55 eσ291 (by decide)) 10).trans ((congrFun (jnp 55 eσ145 (by decide)) 10).trans ((congrFun (jnp 55 eσ134 (by decide)) 10).trans ((f128 10 (by decide)).trans ((f110 10 (by decide)).trans ((f74 10 (by decide)).trans ((jkp 10 eσ44 (by decide)).trans ((f42 10 (by decide)).trans (f25 10 (by decide))))))))))))))
                    have z403 : (σ398 55 27).toInt = (σ368 55 27).toInt := (congrArg Int32.toInt (show σ398 55 27 = (σ368 55 27) from (jkp 27 eσ398 (by decide))))
                    have z404 : (σ398 55 50).toInt = (σ54 55 50).toInt + 1 := ((congrArg Int32.toInt (show σ398 55 50 = x397 from (jsp eσ398))).trans tx397)
                    have p405 : jKept σ398 := jKept.fr ((jnp 75 eσ398 (by decide)).trans ((f370 75 (by decide)).trans ((jnp 75 eσ291 (by decide)).trans ((jnp 75 eσ145 (by decide)).trans ((jnp 75 eσ134 (by decide)).trans (f127 75 (by decide))))))) ((jnp 76 eσ398 (by decide)).trans ((f370 76 (by decide)).trans ((jnp 76 eσ291 (by decide)).trans ((jnp 76 eσ145 (by decide)).trans ((jnp 76 eσ134 (by decide)).trans (f127 76 (by decide))))))) ((jnp 77 eσ398 (by decide)).trans ((f370 77 (by decide)).trans ((jnp 77 eσ291 (by decide)).trans ((jnp 77 eσ145 (by decide)).trans ((jnp 77 eσ134 (by decide)).trans (f127 77 (by decide))))))) p111
                    have I406 : jI109 σ398 := (show 0 ≤ (σ398 55 50).toInt ∧ (σ398 55 50).toInt ≤ 12 by omega)
                    have w407 : ∀ k : Nat, k < 4 → 0 ≤ (σ398 68 k).toInt ∧ (σ398 68 k).toInt ≤ 3 := (jrr_fr (jnp 68 eσ398 (by decide)) w372)
                    have I408 : jI119 σ398 := w407
                    exact ihlp45 x389 x150 0 σ398 _ _ ls (by have h92 := jz_0; omega) (by have h92 := jz_0; omega) (by have h92 := jz_0; omega) (by have h92 := jz_0; omega) (by have h92 := jz_0; omega) (by have h92 := jz_0; omega) (by have h92 := jz_0; omega) (fun i hi => ((jnp i eσ398 (imp_282 i hi)).trans ((f370 i (imp_284 i hi)).trans ((jnp i eσ291 (imp_289 i hi)).trans ((jnp i eσ145 (imp_290 i hi)).trans ((jnp i eσ134 (imp_291 i hi)).trans ((f127 i (imp_292 i hi)).trans ((f109 i (imp_293 i hi)).trans (f73 i hi))))))))) (fun i hi => ((jkp i eσ398 (imp_294 i hi)).trans ((f371 i (imp_295 i hi)).trans ((congrFun (jnp 55 eσ291 (by decide)) i).trans ((congrFun (jnp 55 eσ145 (by decide)) i).trans ((congrFun (jnp 55 eσ134 (by decide)) i).trans ((f128 i (imp_296 i hi)).trans ((f110 i (imp_297 i hi)).trans (f74 i hi)))))))))  p405 I406 I408 hP hS (lv_sub hl [0, 3, 1, 7, 8, 9] rfl)
                  · have kc394 := jnle c394 rfl tx392
                    refine lv_iconst (v := 1) hx hb dX12_game_213 (by decide) ?_
                    refine lv_goto (tgt := 218) hx hb dX12_game_214 (by decide) ?_
                    refine lv_istore (lv' := [(5, .int 1), (3, .int x389), (9, .int r369), (4, .int x150), (8, .int r126), (7, .int x119), (6, .int r108), (0, .ref (ad 55)), (1, .int a1), (2, .int a2)]) hx hb dX12_game_218 hl (by decide) rfl (fun ls hl => ?_)
                    refine lv_aload_n hx hb dX12_game_220 rfl (lv_at hl 7 rfl) ?_
                    refine lv_dup hx hb dX12_game_221 rfl ?_
                    refine va_get (D := D) hx hb hts inlX12 hown hK hP 55 (jc_55 cI cL ad σ368 τ) rfl 50 (by decide) (hts _ kw_46_13) (fun _ h9 => h9) rfl dX12_game_222 ?_
                    have m409 : σ368 55 50 = (σ54 55 50) := ((f371 50 (by decide)).trans m292)
                    refine jtopr m409 ?_
                    refine lv_iconst (v := 1) hx hb dX12_game_225 (by decide) ?_
                    have g410 := jrg (rfl : (σ54 55 50).toInt = (σ54 55 50).toInt)
                    refine lv_iadd hx hb dX12_game_226 ?_
                    refine lv_topi (fun x411 ex411 => ?_)
                    have tx411 : x411.toInt = (σ54 55 50).toInt + 1 := (jadd ex411 rfl jz_1 (by omega) (by omega)).trans (by omega)
                    refine jput (ty := .int) hx hb hts inlX12 tyX12 tyX12_ok nmX12 hown hK hP hJ hA hS (jc_55 cI cL ad σ368 τ) rfl (k := 50) (by decide) (Nat.le_of_ble_eq_true rfl) (jp_55_50 cI cL ad σ368 τ x411) (hts _ kw_46_13) (fun _ h9 => h9) rfl (by decide +kernel) rfl rfl dX12_game_227 (fun σ412 H locs eσ412 hP hS => ?_)
                    refine lv_goto (tgt := 43) hx hb dX12_game_230 (by decide) ?_
                    have z413 : (σ412 55 12).toInt = (σ 55 12).toInt := (congrArg Int32.toInt (show σ412 55 12 = (σ 55 12) from ((jkp 12 eσ412 (by decide)).trans ((f371 12 (by decide)).trans ((congrFun (jnp 55 eσ291 (by decide)) 12).trans ((congrFun (jnp 55 eσ145 (by decide)) 12).trans ((congrFun (jnp 55 eσ134 (by decide)) 12).trans ((f128 12 (by decide)).trans ((f110 12 (by decide)).trans ((f74 12 (by decide)).trans ((jkp 12 eσ44 (by decide)).trans ((f42 12 (by decide)).trans (f25 12 (by decide))))))))))))))
                    have z414 : (σ412 55 26).toInt = (σ368 55 26).toInt := (congrArg Int32.toInt (show σ412 55 26 = (σ368 55 26) from (jkp 26 eσ412 (by decide))))
                    have z415 : (σ412 55 25).toInt = (σ368 55 25).toInt := (congrArg Int32.toInt (show σ412 55 25 = (σ368 55 25) from (jkp 25 eσ412 (by decide))))
                    have z416 : (σ412 55 10).toInt = (σ 55 10).toInt := (congrArg Int32.toInt (show σ412 55 10 = (σ 55 10) from ((jkp 10 eσ412 (by decide)).trans ((f371 10 (by decide)).trans ((congrFun (jnp 55 eσ291 (by decide)) 10).trans ((congrFun (jnp 55 eσ145 (by decide)) 10).trans ((congrFun (jnp 55 eσ134 (by decide)) 10).trans ((f128 10 (by decide)).trans ((f110 10 (by decide)).trans ((f74 10 (by decide)).trans ((jkp 10 eσ44 (by decide)).trans ((f42 10 (by decide)).trans (f25 10 (by decide))))))))))))))
                    have z417 : (σ412 55 27).toInt = (σ368 55 27).toInt := (congrArg Int32.toInt (show σ412 55 27 = (σ368 55 27) from (jkp 27 eσ412 (by decide))))
                    have z418 : (σ412 55 50).toInt = (σ54 55 50).toInt + 1 := ((congrArg Int32.toInt (show σ412 55 50 = x411 from (jsp eσ412))).trans tx411)
                    have p419 : jKept σ412 := jKept.fr ((jnp 75 eσ412 (by decide)).trans ((f370 75 (by decide)).trans ((jnp 75 eσ291 (by decide)).trans ((jnp 75 eσ145 (by decide)).trans ((jnp 75 eσ134 (by decide)).trans (f127 75 (by decide))))))) ((jnp 76 eσ412 (by decide)).trans ((f370 76 (by decide)).trans ((jnp 76 eσ291 (by decide)).trans ((jnp 76 eσ145 (by decide)).trans ((jnp 76 eσ134 (by decide)).trans (f127 76 (by decide))))))) ((jnp 77 eσ412 (by decide)).trans ((f370 77 (by decide)).trans ((jnp 77 eσ291 (by decide)).trans ((jnp 77 eσ145 (by decide)).trans ((jnp 77 eσ134 (by decide)).trans (f127 77 (by decide))))))) p111
                    have I420 : jI109 σ412 := (show 0 ≤ (σ412 55 50).toInt ∧ (σ412 55 50).toInt ≤ 12 by omega)
                    have w421 : ∀ k : Nat, k < 4 → 0 ≤ (σ412 68 k).toInt ∧ (σ412 68 k).toInt ≤ 3 := (jrr_fr (jnp 68 eσ412 (by decide)) w372)
                    have I422 : jI119 σ412 := w421
                    exact ihlp45 x389 x150 1 σ412 _ _ ls (by have h92 := jz_1; omega) (by have h92 := jz_1; omega) (by have h92 := jz_1; omega) (by have h92 := jz_1; omega) (by have h92 := jz_1; omega) (by have h92 := jz_1; omega) (by have h92 := jz_1; omega) (fun i hi => ((jnp i eσ412 (imp_282 i hi)).trans ((f370 i (imp_284 i hi)).trans ((jnp i eσ291 (imp_289 i hi)).trans ((jnp i eσ145 (imp_290 i hi)).trans ((jnp i eσ134 (imp_291 i hi)).trans ((f127 i (imp_292 i hi)).trans ((f109 i (imp_293 i hi)).trans (f73 i hi))))))))) (fun i hi => ((jkp i eσ412 (imp_294 i hi)).trans ((f371 i (imp_295 i hi)).trans ((congrFun (jnp 55 eσ291 (by decide)) i).trans ((congrFun (jnp 55 eσ145 (by decide)) i).trans ((congrFun (jnp 55 eσ134 (by decide)) i).trans ((f128 i (imp_296 i hi)).trans ((f110 i (imp_297 i hi)).trans (f74 i hi)))))))))  p419 I420 I422 hP hS (lv_sub hl [0, 3, 1, 7, 8, 9] rfl)
      exact lp45 1000000 a2 0 0 σ44 _ _ ls (by have h90 := t2; have h91 := jz_0; have h92 := jz_0; omega) (by have h90 := t2; have h91 := jz_0; have h92 := jz_0; omega) (by have h90 := t2; have h91 := jz_0; have h92 := jz_0; omega) (by have h90 := t2; have h91 := jz_0; have h92 := jz_0; omega) (by have h90 := t2; have h91 := jz_0; have h92 := jz_0; omega) (by have h90 := t2; have h91 := jz_0; have h92 := jz_0; omega) (by have h90 := t2; have h91 := jz_0; have h92 := jz_0; omega) (fun _ _ => rfl) (fun _ _ => rfl)  p65 I56 I58 hP hS hl
    · have kc20 := jnle c20 rfl jz_8
      refine lv_bipush (v := (-4)) hx hb dX12_game_19 (by decide) ?_
      exact hret (-4) σ τ _ _ _ _ rfl ⟨rfl, (fun _ _ => rfl), (fun _ _ => rfl), hI109, hI119, hs_jKept, trivial⟩ hP hS dX12_game_21
  · obtain ⟨q424, k423⟩ := h17
    have q424 := q424.symm
    subst q424
    refine lv_if_ne (tgt := 10) hx hb dX12_game_5 (by decide) (fun c => absurd (by decide) c) (fun _ => ?_)
    refine lv_iconst (v := (-1)) hx hb dX12_game_8 (by decide) ?_
    exact hret (-1) σ τ _ _ _ _ rfl ⟨rfl, (fun _ _ => rfl), (fun _ _ => rfl), hI109, hI119, hs_jKept, trivial⟩ hP hS dX12_game_9
set_option maxHeartbeats 4000000 in
set_option maxRecDepth 100000 in
theorem c_X12_led (l : Launch) (D : va_G) (cI cL : ClassId) (ad zz : Nat → Nat) (hJ : jD ad) (σ : Nat → Nat → Int32) (τ : Nat → Nat → Int64) (a1 : Int32) (A1 : Int) (t1 : a1.toInt = A1) (a2 : Int32) (A2 : Int) (t2 : a2.toInt = A2) (hI109 : jI109 σ) : jM l yX12_led cX12_led 3 (some .int) ({ frames := 1, cells := 0, slots := 0, locals := 25 }) D cI cL ad zz [.ref (ad 55), .int a1, .int a2] σ τ (fun r σ' τ' => (σ = σ' ∧ τ = τ') ∧ True) := by
  refine jM.of hJ (by decide +kernel) (nt := .int) rfl (Nat.le_of_ble_eq_true rfl) ?_
  intro p e s m args below meth c Q ls hC hret hl hP
  obtain ⟨hx, hb, hr, hml, hown, hts, hK, -, hlocks, hZ⟩ := hC
  have hown : s.vm.findClass RX12 = some m.cls := hown
  have hS : va_S (jA ad) s.heap s.heap [] := va_S.rf
  have hA : ∀ q, jA ad q → jA ad q := fun _ h => h
  have hl : lv_has ls 3 [(0, .ref (ad 55)), (1, .int a1), (2, .int a2)] := hl
  have g1 := jrg t1
  have g2 := jrg t2
  have i1 : 0 ≤ (σ 55 50).toInt ∧ (σ 55 50).toInt ≤ 12 := hI109
  refine lv_iload_n hx hb dX12_led_0 rfl (lv_at hl 1 rfl) ?_
  refine lv_iconst (v := (-1)) hx hb dX12_led_1 (by decide) ?_
  refine lv_icmp_ne (tgt := 18) hx hb dX12_led_2 (by decide) (fun c2 => ?_) (fun c2 => ?_)
  · have kc2 := jne c2 t1 jz_m1
    refine lv_iload_n hx hb dX12_led_18 rfl (lv_at hl 1 rfl) ?_
    refine lv_i2l (v := a1.toInt64) hx hb dX12_led_19 rfl ?_
    refine lv_lconst (v := 0) hx hb dX12_led_20 (by decide) ?_
    refine lv_aload_n hx hb dX12_led_21 rfl (lv_at hl 0 rfl) ?_
    refine va_get (D := D) hx hb hts inlX12 hown hK hP 55 (jc_55 cI cL ad σ τ) rfl 50 (by decide) (hts _ kw_46_13) (fun _ h9 => h9) rfl dX12_led_22 ?_
    refine lv_iconst (v := 1) hx hb dX12_led_25 (by decide) ?_
    have g3 := jrg (rfl : (σ 55 50).toInt = (σ 55 50).toInt)
    refine lv_isub hx hb dX12_led_26 ?_
    refine lv_topi (fun x4 ex4 => ?_)
    have tx4 : x4.toInt = (σ 55 50).toInt - 1 := (jsub ex4 rfl jz_1 (by omega) (by omega)).trans (by omega)
    refine lv_i2l (v := x4.toInt64) hx hb dX12_led_27 rfl ?_
    refine jcallS (As := [.long a1.toInt64, .long 0, .long x4.toInt64]) (rest := []) ⟨hx, hb, hml, hown, hts⟩ hK hP hA hS hZ (c_X12_within l D cI cL ad zz hJ σ τ a1.toInt64 (A1) (jtoL t1) 0 (0) jzl_0 x4.toInt64 ((σ 55 50).toInt - 1) (jtoL tx4)) cw_RX12_136 ⟨Nat.le_of_ble_eq_true rfl, Nat.le_of_ble_eq_true rfl⟩ rfl rfl rfl hl.1 rfl (Nat.le_of_ble_eq_true rfl) dX12_led_28 ⟨Nat.zero_le _, Nat.zero_le _⟩ (fun r6 σ5 τ5 H locs h5 hP hS => ?_)
    obtain ⟨⟨rfl, rfl⟩, h5⟩ := h5
    rcases h5 with h7 | h8
    · obtain ⟨q10, k9⟩ := h7
      have q10 := q10.symm
      subst q10
      refine lv_if_ne (tgt := 36) hx hb dX12_led_31 (by decide) (fun _ => ?_) (fun c => absurd c (by decide))
      refine lv_iload_n hx hb dX12_led_36 rfl (lv_at hl 2 rfl) ?_
      by_cases c11 : a2 = 0
      · have kc11 := jeq c11 t2 jz_0
        refine jtopr c11 ?_
        refine lv_tableIn (off := 27) (tgt := 64) hx hb dX12_led_37 (by decide) (by decide) (by decide) (by decide) ?_
        refine lv_aload_n hx hb dX12_led_64 rfl (lv_at hl 0 rfl) ?_
        refine va_get (D := D) hx hb hts inlX12 hown hK hP 55 (jc_55 cI cL ad σ τ) rfl 51 (by decide) (hts _ kw_8_7) (fun _ h9 => h9) rfl dX12_led_65 ?_
        refine lv_iload_n hx hb dX12_led_68 rfl (lv_at hl 1 rfl) ?_
        refine jald hx hb hK hP (jc_82 cI cL ad σ τ) (jin t1 (by omega) (by omega)) dX12_led_69 ?_
        refine lv_topi (fun x12 ex12 => ?_)
        exact hret x12 σ τ _ _ _ _ rfl ⟨⟨rfl, rfl⟩, trivial⟩ hP hS dX12_led_70
      have kc11 := jne c11 t2 jz_0
      by_cases c13 : a2 = 1
      · have kc13 := jeq c13 t2 jz_1
        refine jtopr c13 ?_
        refine lv_tableIn (off := 34) (tgt := 71) hx hb dX12_led_37 (by decide) (by decide) (by decide) (by decide) ?_
        refine lv_aload_n hx hb dX12_led_71 rfl (lv_at hl 0 rfl) ?_
        refine va_get (D := D) hx hb hts inlX12 hown hK hP 55 (jc_55 cI cL ad σ τ) rfl 52 (by decide) (hts _ kw_8_8) (fun _ h9 => h9) rfl dX12_led_72 ?_
        refine lv_iload_n hx hb dX12_led_75 rfl (lv_at hl 1 rfl) ?_
        refine jald hx hb hK hP (jc_83 cI cL ad σ τ) (jin t1 (by omega) (by omega)) dX12_led_76 ?_
        refine lv_topi (fun x14 ex14 => ?_)
        exact hret x14 σ τ _ _ _ _ rfl ⟨⟨rfl, rfl⟩, trivial⟩ hP hS dX12_led_77
      have kc13 := jne c13 t2 jz_1
      by_cases c15 : a2 = 2
      · have kc15 := jeq c15 t2 jz_2
        refine jtopr c15 ?_
        refine lv_tableIn (off := 41) (tgt := 78) hx hb dX12_led_37 (by decide) (by decide) (by decide) (by decide) ?_
        refine lv_aload_n hx hb dX12_led_78 rfl (lv_at hl 0 rfl) ?_
        refine va_get (D := D) hx hb hts inlX12 hown hK hP 55 (jc_55 cI cL ad σ τ) rfl 53 (by decide) (hts _ kw_8_9) (fun _ h9 => h9) rfl dX12_led_79 ?_
        refine lv_iload_n hx hb dX12_led_82 rfl (lv_at hl 1 rfl) ?_
        refine jald hx hb hK hP (jc_84 cI cL ad σ τ) (jin t1 (by omega) (by omega)) dX12_led_83 ?_
        refine lv_topi (fun x16 ex16 => ?_)
        exact hret x16 σ τ _ _ _ _ rfl ⟨⟨rfl, rfl⟩, trivial⟩ hP hS dX12_led_84
      have kc15 := jne c15 t2 jz_2
      refine lv_tableOut (tgt := 85) hx hb dX12_led_37 (by rw [t2]; omega) (by decide) ?_
      refine lv_iconst (v := (-1)) hx hb dX12_led_85 (by decide) ?_
      exact hret (-1) σ τ _ _ _ _ rfl ⟨⟨rfl, rfl⟩, trivial⟩ hP hS dX12_led_86
    · obtain ⟨q18, k17⟩ := h8
      have q18 := q18.symm
      subst q18
      refine lv_if_ne (tgt := 36) hx hb dX12_led_31 (by decide) (fun c => absurd (by decide) c) (fun _ => ?_)
      refine lv_iconst (v := (-1)) hx hb dX12_led_34 (by decide) ?_
      exact hret (-1) σ τ _ _ _ _ rfl ⟨⟨rfl, rfl⟩, trivial⟩ hP hS dX12_led_35
  · have kc2 := jeq c2 t1 jz_m1
    refine lv_iload_n hx hb dX12_led_5 rfl (lv_at hl 2 rfl) ?_
    refine lv_if_ne (tgt := 16) hx hb dX12_led_6 (by decide) (fun c19 => ?_) (fun c19 => ?_)
    · have kc19 := jne c19 t2 jz_0
      refine lv_iconst (v := (-1)) hx hb dX12_led_16 (by decide) ?_
      exact hret (-1) σ τ _ _ _ _ rfl ⟨⟨rfl, rfl⟩, trivial⟩ hP hS dX12_led_17
    · have kc19 := jeq c19 t2 jz_0
      refine lv_aload_n hx hb dX12_led_9 rfl (lv_at hl 0 rfl) ?_
      refine va_get (D := D) hx hb hts inlX12 hown hK hP 55 (jc_55 cI cL ad σ τ) rfl 50 (by decide) (hts _ kw_46_13) (fun _ h9 => h9) rfl dX12_led_10 ?_
      refine lv_goto (tgt := 17) hx hb dX12_led_13 (by decide) ?_
      exact hret (σ 55 50) σ τ _ _ _ _ rfl ⟨⟨rfl, rfl⟩, trivial⟩ hP hS dX12_led_17
