set_option maxHeartbeats 4000000 in
set_option maxRecDepth 100000 in
theorem c_X12_cost (l : Launch) (D : va_G) (cI cL : ClassId) (ad zz : Nat → Nat) (hJ : jD ad) (σ : Nat → Nat → Int32) (τ : Nat → Nat → Int64) (a1 : Int32) (A1 : Int) (t1 : a1.toInt = A1) (hI101 : jI101 σ) (hI102 : jI102 σ) (hI103 : jI103 σ) (hI104 : jI104 σ) (hI105 : jI105 σ) (hI106 : jI106 σ) (hI107 : jI107 σ) (hI119 : jI119 σ) (hs_jKept : jKept σ) (hs_jBook : jBook σ) (hs_jTR : jTR σ) (hs_jqSt : jqSt σ) (hp0 : 0 ≤ (σ 55 42).toInt ∧ (σ 55 42).toInt ≤ 999999998) : jM l yX12_cost cX12_cost 2 (some .int) ({ frames := 104, cells := 0, slots := 0, locals := 5083 }) D cI cL ad zz [.ref (ad 55), .int a1] σ τ (fun r σ' τ' => τ = τ' ∧ (∀ i : Nat, (i < 55 ∨ 55 < i) ∧ (i < 66 ∨ 66 < i) ∧ (i < 68 ∨ 69 < i) ∧ (i < 74 ∨ 78 < i) → σ' i = σ i) ∧ (∀ k : Nat, (k < 18 ∨ 18 < k) ∧ (k < 19 ∨ 19 < k) ∧ (k < 20 ∨ 20 < k) ∧ (k < 21 ∨ 21 < k) ∧ (k < 22 ∨ 22 < k) ∧ (k < 25 ∨ 25 < k) ∧ (k < 26 ∨ 26 < k) ∧ (k < 27 ∨ 27 < k) ∧ (k < 37 ∨ 37 < k) ∧ (k < 42 ∨ 42 < k) → σ' 55 k = σ 55 k) ∧ (jI119 σ') ∧ (jKept σ') ∧ (jBook σ') ∧ (jTR σ') ∧ (jqSt σ') ∧ ((σ 55 42).toInt ≤ (σ' 55 42).toInt) ∧ ((σ' 55 42).toInt ≤ (σ 55 42).toInt + 1) ∧ True) := by
  refine jM.of hJ (by decide +kernel) (nt := .int) rfl (Nat.le_of_ble_eq_true rfl) ?_
  intro p e s m args below meth c Q ls hC hret hl hP
  obtain ⟨hx, hb, hr, hml, hown, hts, hK, -, hlocks, hZ⟩ := hC
  have hown : s.vm.findClass RX12 = some m.cls := hown
  have hS : va_S (jA ad) s.heap s.heap [] := va_S.rf
  have hA : ∀ q, jA ad q → jA ad q := fun _ h => h
  have hl : lv_has ls 2 [(0, .ref (ad 55)), (1, .int a1)] := hl
  have g1 := jrg t1
  obtain ⟨i1, i2, i3, w4, w5⟩ : (1 ≤ (σ 55 10).toInt ∧ (σ 55 10).toInt ≤ 8) ∧ (1 ≤ (σ 55 12).toInt ∧ (σ 55 12).toInt ≤ 12) ∧ (0 ≤ (σ 55 13).toInt ∧ (σ 55 13).toInt ≤ 999) ∧ (∀ k : Nat, k < 8 → 0 ≤ (σ 62 k).toInt ∧ (σ 62 k).toInt ≤ 3) ∧ (∀ k : Nat, k < 8 → 0 ≤ (σ 67 k).toInt ∧ (σ 67 k).toInt ≤ 3) := id hI104
  obtain ⟨i6, i7, w8⟩ : (0 ≤ (σ 55 47).toInt ∧ (σ 55 47).toInt ≤ 12) ∧ ((σ 55 47).toInt ≤ (σ 55 12).toInt) ∧ (∀ k : Nat, k < 12 → 0 ≤ (σ 80 k).toInt ∧ (σ 80 k).toInt ≤ 3) := id hI107
  refine lv_iload_n hx hb dX12_cost_0 rfl (lv_at hl 1 rfl) ?_
  refine lv_i2l (v := a1.toInt64) hx hb dX12_cost_1 rfl ?_
  refine lv_lconst (v := 0) hx hb dX12_cost_2 (of_decide_eq_true rfl) ?_
  refine lv_aload_n hx hb dX12_cost_3 rfl (lv_at hl 0 rfl) ?_
  refine va_get (D := D) hx hb hts inlX12 hown hK hP 55 (jc_55 cI cL ad σ τ) rfl 47 (of_decide_eq_true rfl) (hts _ kw_15_15) (fun _ h9 => h9) rfl dX12_cost_4 ?_
  refine lv_iconst (v := 1) hx hb dX12_cost_7 (of_decide_eq_true rfl) ?_
  have g9 := jrg (rfl : (σ 55 47).toInt = (σ 55 47).toInt)
  refine lv_isub hx hb dX12_cost_8 ?_
  refine lv_topi (fun x10 ex10 => ?_)
  exact by
   have tx10 : x10.toInt = (σ 55 47).toInt - 1 := (jsub ex10 rfl jz_1 (by omega) (by omega)).trans (by omega)
   refine lv_i2l (v := x10.toInt64) hx hb dX12_cost_9 rfl ?_
   refine jcallS (As := [.long a1.toInt64, .long 0, .long x10.toInt64]) (rest := []) ⟨hx, hb, hml, hown, hts⟩ hK hP hA hS hZ (c_X12_within l D cI cL ad zz hJ σ τ a1.toInt64 (A1) (jtoL t1) 0 (0) jzl_0 x10.toInt64 ((σ 55 47).toInt - 1) (jtoL tx10)) cw_RX12_136 ⟨Nat.le_of_ble_eq_true rfl, Nat.le_of_ble_eq_true rfl⟩ rfl rfl rfl hl.1 rfl (Nat.le_of_ble_eq_true rfl) dX12_cost_10 ⟨Nat.zero_le _, Nat.zero_le _⟩ (fun r12 σ11 τ11 H locs h11 hP hS => ?_)
   obtain ⟨⟨rfl, rfl⟩, h11⟩ := h11
   rcases h11 with h13 | h14
   · obtain ⟨q16, k15⟩ := h13
     have q16 := q16.symm
     subst q16
     refine lv_if_eq (tgt := 27) hx hb dX12_cost_13 (of_decide_eq_true rfl) (fun c => absurd c (of_decide_eq_true rfl)) (fun _ => ?_)
     refine lv_aload_n hx hb dX12_cost_16 rfl (lv_at hl 0 rfl) ?_
     refine va_get (D := D) hx hb hts inlX12 hown hK hP 55 (jc_55 cI cL ad σ τ) rfl 12 (of_decide_eq_true rfl) (hts _ kw_8_16) (fun _ h9 => h9) rfl dX12_cost_17 ?_
     refine lv_iload_n hx hb dX12_cost_20 rfl (lv_at hl 1 rfl) ?_
     have g17 := jrg (rfl : (σ 55 12).toInt = (σ 55 12).toInt)
     refine lv_isub hx hb dX12_cost_21 ?_
     refine lv_topi (fun x18 ex18 => ?_)
     exact by
      have tx18 : x18.toInt = (σ 55 12).toInt - A1 := (jsub ex18 rfl t1 (by omega) (by omega)).trans (by omega)
      refine lv_bipush (v := 8) hx hb dX12_cost_22 (of_decide_eq_true rfl) ?_
      refine lv_icmp_le (tgt := 32) hx hb dX12_cost_24 (of_decide_eq_true rfl) (fun c19 => ?_) (fun c19 => ?_)
      · have kc19 := jle c19 tx18 jz_8
        refine lv_aload_n hx hb dX12_cost_32 rfl (lv_at hl 0 rfl) ?_
        refine lv_iload_n hx hb dX12_cost_33 rfl (lv_at hl 1 rfl) ?_
        refine jcallV (As := [.int a1]) (rest := []) ⟨hx, hb, hml, hown, hts⟩ hK hP hA hS hZ (c_X12_costOf l D cI cL ad zz hJ σ τ a1 (A1) t1 hI101 hI102 hI103 hI104 hI105 hI106 hI107 hI119 hs_jKept hs_jBook hs_jTR hs_jqSt (by omega) (by omega) (by omega) (by omega)) cw_RX12_369 (jc_55 cI cL ad σ τ) rfl ⟨Nat.le_of_ble_eq_true rfl, Nat.le_of_ble_eq_true rfl⟩ rfl rfl rfl hl.1 rfl (Nat.le_of_ble_eq_true rfl) dX12_cost_34 ⟨Nat.zero_le _, Nat.zero_le _⟩ (fun r21 σ20 τ20 H locs h20 hP hS => ?_)
        obtain ⟨rfl, f22, f23, I24, p25, p26, p27, p28, h20⟩ := h20
        obtain ⟨k30, k31, h20⟩ := h20
        exact by exact hret r21 σ20 τ _ _ _ _ rfl ⟨rfl, (fun i hi => (f22 i hi)), (fun i hi => (f23 i hi)), I24, p25, p26, p27, p28, (by omega), (by omega), trivial⟩ hP hS dX12_cost_37
      · exact by
         have kc19 := jnle c19 tx18 jz_8
         refine lv_ldc (v := (-2000000000)) hx hb hown (hts _ kw_11_4) dX12_cost_27 ?_
         refine lv_goto (tgt := 37) hx hb dX12_cost_29 (of_decide_eq_true rfl) ?_
         exact by exact hret (-2000000000) σ τ _ _ _ _ rfl ⟨rfl, (fun _ _ => rfl), (fun _ _ => rfl), hI119, hs_jKept, hs_jBook, hs_jTR, hs_jqSt, (by omega), (by omega), trivial⟩ hP hS dX12_cost_37
   · obtain ⟨q33, k32⟩ := h14
     have q33 := q33.symm
     subst q33
     refine lv_if_eq (tgt := 27) hx hb dX12_cost_13 (of_decide_eq_true rfl) (fun _ => ?_) (fun c => absurd (of_decide_eq_true rfl) c)
     refine lv_ldc (v := (-2000000000)) hx hb hown (hts _ kw_11_4) dX12_cost_27 ?_
     refine lv_goto (tgt := 37) hx hb dX12_cost_29 (of_decide_eq_true rfl) ?_
     exact by exact hret (-2000000000) σ τ _ _ _ _ rfl ⟨rfl, (fun _ _ => rfl), (fun _ _ => rfl), hI119, hs_jKept, hs_jBook, hs_jTR, hs_jqSt, (by omega), (by omega), trivial⟩ hP hS dX12_cost_37
set_option maxHeartbeats 4000000 in
set_option maxRecDepth 100000 in
theorem c_X12_lost (l : Launch) (D : va_G) (cI cL : ClassId) (ad zz : Nat → Nat) (hJ : jD ad) (σ : Nat → Nat → Int32) (τ : Nat → Nat → Int64) (a1 : Int32) (A1 : Int) (t1 : a1.toInt = A1) (hI101 : jI101 σ) (hI102 : jI102 σ) (hI103 : jI103 σ) (hI104 : jI104 σ) (hI105 : jI105 σ) (hI106 : jI106 σ) (hI107 : jI107 σ) (hI119 : jI119 σ) (hs_jKept : jKept σ) (hs_jBook : jBook σ) (hs_jTR : jTR σ) (hs_jqSt : jqSt σ) (hp0 : 0 ≤ (σ 55 42).toInt ∧ (σ 55 42).toInt ≤ 999999976) : jM l yX12_lost cX12_lost 7 (some .int) ({ frames := 104, cells := 0, slots := 0, locals := 5083 }) D cI cL ad zz [.ref (ad 55), .int a1] σ τ (fun r σ' τ' => τ = τ' ∧ (∀ i : Nat, (i < 55 ∨ 55 < i) ∧ (i < 66 ∨ 66 < i) ∧ (i < 68 ∨ 69 < i) ∧ (i < 74 ∨ 78 < i) → σ' i = σ i) ∧ (∀ k : Nat, (k < 18 ∨ 18 < k) ∧ (k < 19 ∨ 19 < k) ∧ (k < 20 ∨ 20 < k) ∧ (k < 21 ∨ 21 < k) ∧ (k < 22 ∨ 22 < k) ∧ (k < 25 ∨ 25 < k) ∧ (k < 26 ∨ 26 < k) ∧ (k < 27 ∨ 27 < k) ∧ (k < 37 ∨ 37 < k) ∧ (k < 42 ∨ 42 < k) → σ' 55 k = σ 55 k) ∧ (jI119 σ') ∧ (jKept σ') ∧ (jBook σ') ∧ (jTR σ') ∧ (jqSt σ') ∧ ((σ 55 42).toInt ≤ (σ' 55 42).toInt) ∧ ((σ' 55 42).toInt ≤ (σ 55 42).toInt + 12) ∧ True) := by
  refine jM.of hJ (by decide +kernel) (nt := .int) rfl (Nat.le_of_ble_eq_true rfl) ?_
  intro p e s m args below meth c Q ls hC hret hl hP
  obtain ⟨hx, hb, hr, hml, hown, hts, hK, -, hlocks, hZ⟩ := hC
  have hown : s.vm.findClass RX12 = some m.cls := hown
  have hS : va_S (jA ad) s.heap s.heap [] := va_S.rf
  have hA : ∀ q, jA ad q → jA ad q := fun _ h => h
  have hl : lv_has ls 7 [(0, .ref (ad 55)), (1, .int a1)] := hl
  have g1 := jrg t1
  obtain ⟨i1, i2, i3, w4, w5⟩ : (1 ≤ (σ 55 10).toInt ∧ (σ 55 10).toInt ≤ 8) ∧ (1 ≤ (σ 55 12).toInt ∧ (σ 55 12).toInt ≤ 12) ∧ (0 ≤ (σ 55 13).toInt ∧ (σ 55 13).toInt ≤ 999) ∧ (∀ k : Nat, k < 8 → 0 ≤ (σ 62 k).toInt ∧ (σ 62 k).toInt ≤ 3) ∧ (∀ k : Nat, k < 8 → 0 ≤ (σ 67 k).toInt ∧ (σ 67 k).toInt ≤ 3) := id hI104
  obtain ⟨i6, i7, w8⟩ : (0 ≤ (σ 55 47).toInt ∧ (σ 55 47).toInt ≤ 12) ∧ ((σ 55 47).toInt ≤ (σ 55 12).toInt) ∧ (∀ k : Nat, k < 12 → 0 ≤ (σ 80 k).toInt ∧ (σ 80 k).toInt ≤ 3) := id hI107
  refine lv_iload_n hx hb dX12_lost_0 rfl (lv_at hl 1 rfl) ?_
  refine lv_i2l (v := a1.toInt64) hx hb dX12_lost_1 rfl ?_
  refine lv_lconst (v := 0) hx hb dX12_lost_2 (of_decide_eq_true rfl) ?_
  refine lv_ldc2 (v := 2) hx hb hown (hts _ kw_11_3) dX12_lost_3 ?_
  refine jcallS (As := [.long a1.toInt64, .long 0, .long 2]) (rest := []) ⟨hx, hb, hml, hown, hts⟩ hK hP hA hS hZ (c_X12_within l D cI cL ad zz hJ σ τ a1.toInt64 (A1) (jtoL t1) 0 (0) jzl_0 2 (2) jzl_2) cw_RX12_136 ⟨Nat.le_of_ble_eq_true rfl, Nat.le_of_ble_eq_true rfl⟩ rfl rfl rfl hl.1 rfl (Nat.le_of_ble_eq_true rfl) dX12_lost_6 ⟨Nat.zero_le _, Nat.zero_le _⟩ (fun r10 σ9 τ9 H locs h9 hP hS => ?_)
  obtain ⟨⟨rfl, rfl⟩, h9⟩ := h9
  rcases h9 with h11 | h12
  · obtain ⟨q14, k13⟩ := h11
    have q14 := q14.symm
    subst q14
    refine lv_if_eq (tgt := 19) hx hb dX12_lost_9 (of_decide_eq_true rfl) (fun c => absurd c (of_decide_eq_true rfl)) (fun _ => ?_)
    refine lv_aload_n hx hb dX12_lost_12 rfl (lv_at hl 0 rfl) ?_
    refine va_get (D := D) hx hb hts inlX12 hown hK hP 55 (jc_55 cI cL ad σ τ) rfl 47 (of_decide_eq_true rfl) (hts _ kw_15_15) (fun _ h9 => h9) rfl dX12_lost_13 ?_
    refine lv_if_ne (tgt := 21) hx hb dX12_lost_16 (of_decide_eq_true rfl) (fun c15 => ?_) (fun c15 => ?_)
    · have kc15 := jne c15 rfl jz_0
      refine lv_aload_n hx hb dX12_lost_21 rfl (lv_at hl 0 rfl) ?_
      refine va_get (D := D) hx hb hts inlX12 hown hK hP 55 (jc_55 cI cL ad σ τ) rfl 12 (of_decide_eq_true rfl) (hts _ kw_8_16) (fun _ h9 => h9) rfl dX12_lost_22 ?_
      refine lv_bipush (v := 8) hx hb dX12_lost_25 (of_decide_eq_true rfl) ?_
      refine lv_icmp_le (tgt := 33) hx hb dX12_lost_27 (of_decide_eq_true rfl) (fun c16 => ?_) (fun c16 => ?_)
      · have kc16 := jle c16 rfl jz_8
        refine lv_iconst (v := 0) hx hb dX12_lost_33 (of_decide_eq_true rfl) ?_
        refine lv_istore_n (lv' := [(2, .int 0), (0, .ref (ad 55)), (1, .int a1)]) hx hb dX12_lost_34 rfl hl (of_decide_eq_true rfl) rfl (fun ls hl => ?_)
        refine lv_ldc (v := (-2000000000)) hx hb hown (hts _ kw_11_4) dX12_lost_35 ?_
        refine lv_istore_n (lv' := [(3, .int (-2000000000)), (2, .int 0), (0, .ref (ad 55)), (1, .int a1)]) hx hb dX12_lost_37 rfl hl (of_decide_eq_true rfl) rfl (fun ls hl => ?_)
        refine lv_iconst (v := 0) hx hb dX12_lost_38 (of_decide_eq_true rfl) ?_
        refine lv_istore (lv' := [(4, .int 0), (3, .int (-2000000000)), (2, .int 0), (0, .ref (ad 55)), (1, .int a1)]) hx hb dX12_lost_39 hl (of_decide_eq_true rfl) rfl (fun ls hl => ?_)
        refine lv_iconst (v := 0) hx hb dX12_lost_41 (of_decide_eq_true rfl) ?_
        refine lv_istore (lv' := [(5, .int 0), (4, .int 0), (3, .int (-2000000000)), (2, .int 0), (0, .ref (ad 55)), (1, .int a1)]) hx hb dX12_lost_42 hl (of_decide_eq_true rfl) rfl (fun ls hl => ?_)
        have lp17 : ∀ (n18 : Nat) (x19 : Int32) (x20 : Int32) (x21 : Int32) (x22 : Int32) (σ24 : Nat → Nat → Int32) (H : Heap) (locs : List Loc) (ls : Array Slot), ((σ24 55 47).toInt - x22.toInt : Int) < n18 → 0 ≤ x22.toInt → x22.toInt ≤ 12 → x22.toInt ≤ (σ24 55 47).toInt → (σ 55 42).toInt ≤ (σ24 55 42).toInt → (σ24 55 42).toInt ≤ (σ 55 42).toInt + x22.toInt → (∀ i : Nat, (i < 55 ∨ 55 < i) ∧ (i < 66 ∨ 66 < i) ∧ (i < 68 ∨ 69 < i) ∧ (i < 74 ∨ 78 < i) → σ24 i = σ i) → (∀ k : Nat, (k < 18 ∨ 18 < k) ∧ (k < 19 ∨ 19 < k) ∧ (k < 20 ∨ 20 < k) ∧ (k < 21 ∨ 21 < k) ∧ (k < 22 ∨ 22 < k) ∧ (k < 25 ∨ 25 < k) ∧ (k < 26 ∨ 26 < k) ∧ (k < 27 ∨ 27 < k) ∧ (k < 37 ∨ 37 < k) ∧ (k < 42 ∨ 42 < k) → σ24 55 k = σ 55 k) → jKept σ24 → jqSt σ24 → jI119 σ24 → jH D cI cL ad σ24 τ H → va_S (jA ad) s.heap H locs → lv_has ls 7 [(5, .int x22), (4, .int x21), (3, .int x20), (2, .int x19), (0, .ref (ad 55)), (1, .int a1)] → W p l e ({ frames := 104, cells := 0, slots := 0, locals := 5083 }) s m args below meth c H locs 0 0 Q (F0 m 44 ls []) := by
          intro n18
          induction n18 with
          | zero => intro x19 x20 x21 x22 σ24 H locs ls h26 h27 h28 h29 h30 h31; have gx19 := jrg (rfl : x19.toInt = x19.toInt); have gx20 := jrg (rfl : x20.toInt = x20.toInt); have gx21 := jrg (rfl : x21.toInt = x21.toInt); exact absurd h26 (by omega)
          | succ n18 ihlp17 =>
            intro x19 x20 x21 x22 σ24 H locs ls h26 h27 h28 h29 h30 h31 f32 f33 p34 p35 p36 hP hS hl
            exact by
             have gx19 := jrg (rfl : x19.toInt = x19.toInt); have gx20 := jrg (rfl : x20.toInt = x20.toInt); have gx21 := jrg (rfl : x21.toInt = x21.toInt)
             have z37 : (σ24 55 47).toInt = (σ 55 47).toInt := (congrArg Int32.toInt (show σ24 55 47 = (σ 55 47) from (f33 47 (of_decide_eq_true rfl))))
             refine lv_iload hx hb dX12_lost_44 (lv_at hl 0 rfl) ?_
             refine lv_aload_n hx hb dX12_lost_46 rfl (lv_at hl 4 rfl) ?_
             refine va_get (D := D) hx hb hts inlX12 hown hK hP 55 (jc_55 cI cL ad σ24 τ) rfl 47 (of_decide_eq_true rfl) (hts _ kw_15_15) (fun _ h9 => h9) rfl dX12_lost_47 ?_
             have m38 : σ24 55 47 = (σ 55 47) := (f33 47 (of_decide_eq_true rfl))
             refine jtopr m38 ?_
             refine lv_icmp_ge (tgt := 86) hx hb dX12_lost_50 (of_decide_eq_true rfl) (fun c39 => ?_) (fun c39 => ?_)
             · have kc39 := jle c39 rfl rfl
               refine lv_iload_n hx hb dX12_lost_86 rfl (lv_at hl 5 rfl) ?_
               refine lv_if_ne (tgt := 94) hx hb dX12_lost_87 (of_decide_eq_true rfl) (fun c40 => ?_) (fun c40 => ?_)
               · have kc40 := jne c40 t1 jz_0
                 refine lv_iload_n hx hb dX12_lost_94 rfl (lv_at hl 5 rfl) ?_
                 refine lv_iconst (v := 1) hx hb dX12_lost_95 (of_decide_eq_true rfl) ?_
                 refine lv_icmp_ne (tgt := 103) hx hb dX12_lost_96 (of_decide_eq_true rfl) (fun c41 => ?_) (fun c41 => ?_)
                 · have kc41 := jne c41 t1 jz_1
                   refine lv_iload hx hb dX12_lost_103 (lv_at hl 1 rfl) ?_
                   have p42 : jBook σ24 := jBook.fr (f33 47 (of_decide_eq_true rfl)) (f33 10 (of_decide_eq_true rfl)) (f32 81 (of_decide_eq_true rfl)) hs_jBook
                   have p43 : jTR σ24 := jTR.fr (f32 64 (of_decide_eq_true rfl)) (f32 65 (of_decide_eq_true rfl)) hs_jTR
                   exact by exact hret x21 σ24 τ _ _ _ _ rfl ⟨rfl, (fun i hi => (f32 i hi)), (fun i hi => (f33 i hi)), p36, p34, p42, p43, p35, (by omega), (by omega), trivial⟩ hP hS dX12_lost_105
                 · have kc41 := jeq c41 t1 jz_1
                   refine lv_iload_n hx hb dX12_lost_99 rfl (lv_at hl 2 rfl) ?_
                   refine lv_goto (tgt := 105) hx hb dX12_lost_100 (of_decide_eq_true rfl) ?_
                   have p44 : jBook σ24 := jBook.fr (f33 47 (of_decide_eq_true rfl)) (f33 10 (of_decide_eq_true rfl)) (f32 81 (of_decide_eq_true rfl)) hs_jBook
                   have p45 : jTR σ24 := jTR.fr (f32 64 (of_decide_eq_true rfl)) (f32 65 (of_decide_eq_true rfl)) hs_jTR
                   exact by exact hret x20 σ24 τ _ _ _ _ rfl ⟨rfl, (fun i hi => (f32 i hi)), (fun i hi => (f33 i hi)), p36, p34, p44, p45, p35, (by omega), (by omega), trivial⟩ hP hS dX12_lost_105
               · have kc40 := jeq c40 t1 jz_0
                 refine lv_iload_n hx hb dX12_lost_90 rfl (lv_at hl 3 rfl) ?_
                 refine lv_goto (tgt := 105) hx hb dX12_lost_91 (of_decide_eq_true rfl) ?_
                 have p46 : jBook σ24 := jBook.fr (f33 47 (of_decide_eq_true rfl)) (f33 10 (of_decide_eq_true rfl)) (f32 81 (of_decide_eq_true rfl)) hs_jBook
                 have p47 : jTR σ24 := jTR.fr (f32 64 (of_decide_eq_true rfl)) (f32 65 (of_decide_eq_true rfl)) hs_jTR
                 exact by exact hret x19 σ24 τ _ _ _ _ rfl ⟨rfl, (fun i hi => (f32 i hi)), (fun i hi => (f33 i hi)), p36, p34, p46, p47, p35, (by omega), (by omega), trivial⟩ hP hS dX12_lost_105
             · have kc39 := jnle c39 rfl rfl
               refine lv_aload_n hx hb dX12_lost_53 rfl (lv_at hl 4 rfl) ?_
               refine lv_iload hx hb dX12_lost_54 (lv_at hl 0 rfl) ?_
               have I48 : jI101 σ24 := jI101_fr (f33 4 (of_decide_eq_true rfl)) (f33 5 (of_decide_eq_true rfl)) (f32 56 (of_decide_eq_true rfl)) (f32 57 (of_decide_eq_true rfl)) (f32 58 (of_decide_eq_true rfl)) (f32 59 (of_decide_eq_true rfl)) hI101
               have I49 : jI102 σ24 := jI102_fr (f33 6 (of_decide_eq_true rfl)) (f32 60 (of_decide_eq_true rfl)) (f32 61 (of_decide_eq_true rfl)) hI102
               have I50 : jI103 σ24 := jI103_fr (f33 9 (of_decide_eq_true rfl)) hI103
               have I51 : jI104 σ24 := jI104_fr (f33 10 (of_decide_eq_true rfl)) (f33 12 (of_decide_eq_true rfl)) (f33 13 (of_decide_eq_true rfl)) (f32 62 (of_decide_eq_true rfl)) (f32 67 (of_decide_eq_true rfl)) hI104
               have I52 : jI105 σ24 := jI105_fr (f33 15 (of_decide_eq_true rfl)) (f32 65 (of_decide_eq_true rfl)) hI105
               have I53 : jI106 σ24 := jI106_fr (f33 32 (of_decide_eq_true rfl)) (f32 70 (of_decide_eq_true rfl)) (f32 71 (of_decide_eq_true rfl)) (f32 72 (of_decide_eq_true rfl)) hI106
               have I54 : jI107 σ24 := jI107_fr (f33 12 (of_decide_eq_true rfl)) (f33 47 (of_decide_eq_true rfl)) (f32 80 (of_decide_eq_true rfl)) hI107
               have p55 : jBook σ24 := jBook.fr (f33 47 (of_decide_eq_true rfl)) (f33 10 (of_decide_eq_true rfl)) (f32 81 (of_decide_eq_true rfl)) hs_jBook
               have p56 : jTR σ24 := jTR.fr (f32 64 (of_decide_eq_true rfl)) (f32 65 (of_decide_eq_true rfl)) hs_jTR
               have z57 : (σ24 55 12).toInt = (σ 55 12).toInt := (congrArg Int32.toInt (show σ24 55 12 = (σ 55 12) from (f33 12 (of_decide_eq_true rfl))))
               exact by
                refine jcallV (As := [.int x22]) (rest := []) ⟨hx, hb, hml, hown, hts⟩ hK hP hA hS hZ (c_X12_costOf l D cI cL ad zz hJ σ24 τ x22 (x22.toInt) rfl I48 I49 I50 I51 I52 I53 I54 p36 p34 p55 p56 p35 (by omega) (by omega) (by omega) (by omega)) cw_RX12_369 (jc_55 cI cL ad σ24 τ) rfl ⟨Nat.le_of_ble_eq_true rfl, Nat.le_of_ble_eq_true rfl⟩ rfl rfl rfl hl.1 rfl (Nat.le_of_ble_eq_true rfl) dX12_lost_56 ⟨Nat.zero_le _, Nat.zero_le _⟩ (fun r59 σ58 τ58 H locs h58 hP hS => ?_)
                obtain ⟨rfl, f60, f61, I62, p63, p64, p65, p66, h58⟩ := h58
                obtain ⟨k68, k69, h58⟩ := h58
                refine lv_istore (lv' := [(6, .int r59), (5, .int x22), (4, .int x21), (3, .int x20), (2, .int x19), (0, .ref (ad 55)), (1, .int a1)]) hx hb dX12_lost_59 hl (of_decide_eq_true rfl) rfl (fun ls hl => ?_)
                refine lv_iload hx hb dX12_lost_61 (lv_at hl 2 rfl) ?_
                refine lv_iload hx hb dX12_lost_63 (lv_at hl 0 rfl) ?_
                have g70 := jrg (rfl : x21.toInt = x21.toInt)
                have g71 := jrg (rfl : r59.toInt = r59.toInt)
                refine lv_iadd hx hb dX12_lost_65 ?_
                refine lv_topi (fun x72 ex72 => ?_)
                have gx72 := jrg (rfl : x72.toInt = x72.toInt)
                refine lv_istore (lv' := [(4, .int x72), (6, .int r59), (5, .int x22), (3, .int x20), (2, .int x19), (0, .ref (ad 55)), (1, .int a1)]) hx hb dX12_lost_66 hl (of_decide_eq_true rfl) rfl (fun ls hl => ?_)
                refine lv_iload hx hb dX12_lost_68 (lv_at hl 1 rfl) ?_
                refine lv_iload_n hx hb dX12_lost_70 rfl (lv_at hl 3 rfl) ?_
                refine lv_icmp_le (tgt := 80) hx hb dX12_lost_71 (of_decide_eq_true rfl) (fun c73 => ?_) (fun c73 => ?_)
                · have kc73 := jle c73 rfl rfl
                  obtain ⟨x74, ex74⟩ : ∃ y : Int32, y = x22 + 1 := ⟨_, rfl⟩
                  exact by
                   have tx74 : x74.toInt = x22.toInt + 1 := (jadd ex74 rfl jz_1 (by omega) (by omega)).trans (by omega)
                   refine lv_iinc (v := x74) (lv' := [(5, .int x74), (4, .int x72), (6, .int r59), (3, .int x20), (2, .int x19), (0, .ref (ad 55)), (1, .int a1)]) hx hb dX12_lost_80 hl (k := 2) rfl (by rw [ex74]; rfl) (of_decide_eq_true rfl) rfl (fun ls hl => ?_)
                   refine lv_goto (tgt := 44) hx hb dX12_lost_83 (of_decide_eq_true rfl) ?_
                   have z75 : (σ58 55 47).toInt = (σ 55 47).toInt := (congrArg Int32.toInt (show σ58 55 47 = (σ 55 47) from ((f61 47 (of_decide_eq_true rfl)).trans m38)))
                   exact by exact ihlp17 x19 x20 x72 x74 σ58 _ _ ls (by have h93 := tx74; omega) (by have h93 := tx74; omega) (by have h93 := tx74; omega) (by have h93 := tx74; omega) (by have h93 := tx74; omega) (by have h93 := tx74; omega) (fun i hi => ((f60 i hi).trans (f32 i hi))) (fun i hi => ((f61 i hi).trans (f33 i hi)))  p63 p66 I62 hP hS (lv_sub hl [0, 1, 3, 4, 5, 6] rfl)
                · have kc73 := jnle c73 rfl rfl
                  refine lv_iload hx hb dX12_lost_74 (lv_at hl 2 rfl) ?_
                  refine lv_istore_n (lv' := [(2, .int x22), (4, .int x72), (6, .int r59), (5, .int x22), (3, .int x20), (0, .ref (ad 55)), (1, .int a1)]) hx hb dX12_lost_76 rfl hl (of_decide_eq_true rfl) rfl (fun ls hl => ?_)
                  refine lv_iload hx hb dX12_lost_77 (lv_at hl 2 rfl) ?_
                  exact by
                   refine lv_istore_n (lv' := [(3, .int r59), (2, .int x22), (4, .int x72), (6, .int r59), (5, .int x22), (0, .ref (ad 55)), (1, .int a1)]) hx hb dX12_lost_79 rfl hl (of_decide_eq_true rfl) rfl (fun ls hl => ?_)
                   obtain ⟨x76, ex76⟩ : ∃ y : Int32, y = x22 + 1 := ⟨_, rfl⟩
                   have tx76 : x76.toInt = x22.toInt + 1 := (jadd ex76 rfl jz_1 (by omega) (by omega)).trans (by omega)
                   refine lv_iinc (v := x76) (lv' := [(5, .int x76), (3, .int r59), (2, .int x22), (4, .int x72), (6, .int r59), (0, .ref (ad 55)), (1, .int a1)]) hx hb dX12_lost_80 hl (k := 4) rfl (by rw [ex76]; rfl) (of_decide_eq_true rfl) rfl (fun ls hl => ?_)
                   refine lv_goto (tgt := 44) hx hb dX12_lost_83 (of_decide_eq_true rfl) ?_
                   have z77 : (σ58 55 47).toInt = (σ 55 47).toInt := (congrArg Int32.toInt (show σ58 55 47 = (σ 55 47) from ((f61 47 (of_decide_eq_true rfl)).trans m38)))
                   exact by exact ihlp17 x22 r59 x72 x76 σ58 _ _ ls (by have h93 := tx76; omega) (by have h93 := tx76; omega) (by have h93 := tx76; omega) (by have h93 := tx76; omega) (by have h93 := tx76; omega) (by have h93 := tx76; omega) (fun i hi => ((f60 i hi).trans (f32 i hi))) (fun i hi => ((f61 i hi).trans (f33 i hi)))  p63 p66 I62 hP hS (lv_sub hl [0, 3, 1, 2, 5, 6] rfl)
        exact by exact lp17 1000000 0 (-2000000000) 0 0 σ _ _ ls (by have h90 := jz_0; have h91 := jz_m2000000000; have h92 := jz_0; have h93 := jz_0; omega) (by have h90 := jz_0; have h91 := jz_m2000000000; have h92 := jz_0; have h93 := jz_0; omega) (by have h90 := jz_0; have h91 := jz_m2000000000; have h92 := jz_0; have h93 := jz_0; omega) (by have h90 := jz_0; have h91 := jz_m2000000000; have h92 := jz_0; have h93 := jz_0; omega) (by have h90 := jz_0; have h91 := jz_m2000000000; have h92 := jz_0; have h93 := jz_0; omega) (by have h90 := jz_0; have h91 := jz_m2000000000; have h92 := jz_0; have h93 := jz_0; omega) (fun _ _ => rfl) (fun _ _ => rfl)  hs_jKept hs_jqSt hI119 hP hS hl
      · have kc16 := jnle c16 rfl jz_8
        exact by
         refine lv_bipush (v := (-4)) hx hb dX12_lost_30 (of_decide_eq_true rfl) ?_
         exact by exact hret (-4) σ τ _ _ _ _ rfl ⟨rfl, (fun _ _ => rfl), (fun _ _ => rfl), hI119, hs_jKept, hs_jBook, hs_jTR, hs_jqSt, (by omega), (by omega), trivial⟩ hP hS dX12_lost_32
    · have kc15 := jeq c15 rfl jz_0
      refine lv_iconst (v := (-1)) hx hb dX12_lost_19 (of_decide_eq_true rfl) ?_
      exact by exact hret (-1) σ τ _ _ _ _ rfl ⟨rfl, (fun _ _ => rfl), (fun _ _ => rfl), hI119, hs_jKept, hs_jBook, hs_jTR, hs_jqSt, (by omega), (by omega), trivial⟩ hP hS dX12_lost_20
  · obtain ⟨q79, k78⟩ := h12
    have q79 := q79.symm
    subst q79
    refine lv_if_eq (tgt := 19) hx hb dX12_lost_9 (of_decide_eq_true rfl) (fun _ => ?_) (fun c => absurd (of_decide_eq_true rfl) c)
    refine lv_iconst (v := (-1)) hx hb dX12_lost_19 (of_decide_eq_true rfl) ?_
    exact by exact hret (-1) σ τ _ _ _ _ rfl ⟨rfl, (fun _ _ => rfl), (fun _ _ => rfl), hI119, hs_jKept, hs_jBook, hs_jTR, hs_jqSt, (by omega), (by omega), trivial⟩ hP hS dX12_lost_20
set_option maxHeartbeats 4000000 in
set_option maxRecDepth 100000 in
theorem c_X12_game (l : Launch) (D : va_G) (cI cL : ClassId) (ad zz : Nat → Nat) (hJ : jD ad) (σ : Nat → Nat → Int32) (τ : Nat → Nat → Int64) (a1 : Int32) (A1 : Int) (t1 : a1.toInt = A1) (a2 : Int32) (A2 : Int) (t2 : a2.toInt = A2) (hI101 : jI101 σ) (hI102 : jI102 σ) (hI103 : jI103 σ) (hI104 : jI104 σ) (hI105 : jI105 σ) (hI106 : jI106 σ) (hI119 : jI119 σ) (hI109 : jI109 σ) (hs_jKept : jKept σ) (hs_jTR : jTR σ) (hs_jqSt : jqSt σ) (hp0 : 0 ≤ (σ 55 42).toInt ∧ (σ 55 42).toInt ≤ 999999998) : jM l yX12_game cX12_game 10 (some .int) ({ frames := 104, cells := 0, slots := 0, locals := 5087 }) D cI cL ad zz [.ref (ad 55), .int a1, .int a2] σ τ (fun r σ' τ' => τ = τ' ∧ (∀ i : Nat, (i < 55 ∨ 55 < i) ∧ (i < 66 ∨ 66 < i) ∧ (i < 68 ∨ 69 < i) ∧ (i < 74 ∨ 78 < i) ∧ (i < 82 ∨ 84 < i) → σ' i = σ i) ∧ (∀ k : Nat, (k < 18 ∨ 18 < k) ∧ (k < 19 ∨ 19 < k) ∧ (k < 20 ∨ 20 < k) ∧ (k < 21 ∨ 21 < k) ∧ (k < 22 ∨ 22 < k) ∧ (k < 25 ∨ 25 < k) ∧ (k < 26 ∨ 26 < k) ∧ (k < 27 ∨ 27 < k) ∧ (k < 37 ∨ 37 < k) ∧ (k < 42 ∨ 42 < k) ∧ (k < 50 ∨ 50 < k) → σ' 55 k = σ 55 k) ∧ (jI109 σ') ∧ (jI119 σ') ∧ (jKept σ') ∧ (jTR σ') ∧ (jqSt σ') ∧ ((σ 55 42).toInt ≤ (σ' 55 42).toInt) ∧ ((σ' 55 42).toInt ≤ (σ 55 42).toInt + 1) ∧ True) := by
  refine jM.of hJ (by decide +kernel) (nt := .int) rfl (Nat.le_of_ble_eq_true rfl) ?_
  intro p e s m args below meth c Q ls hC hret hl hP
  obtain ⟨hx, hb, hr, hml, hown, hts, hK, -, hlocks, hZ⟩ := hC
  have hown : s.vm.findClass RX12 = some m.cls := hown
  have hS : va_S (jA ad) s.heap s.heap [] := va_S.rf
  have hA : ∀ q, jA ad q → jA ad q := fun _ h => h
  have hl : lv_has ls 10 [(0, .ref (ad 55)), (1, .int a1), (2, .int a2)] := hl
  have g1 := jrg t1
  have g2 := jrg t2
  obtain ⟨i1, w2, w3⟩ : (0 ≤ (σ 55 6).toInt ∧ (σ 55 6).toInt ≤ 4) ∧ (∀ k : Nat, k < 4 → 0 ≤ (σ 60 k).toInt ∧ (σ 60 k).toInt ≤ 50) ∧ (∀ k : Nat, k < 4 → 0 ≤ (σ 61 k).toInt ∧ (σ 61 k).toInt ≤ 20) := id hI102
  obtain ⟨i4, i5, i6, w7, w8⟩ : (1 ≤ (σ 55 10).toInt ∧ (σ 55 10).toInt ≤ 8) ∧ (1 ≤ (σ 55 12).toInt ∧ (σ 55 12).toInt ≤ 12) ∧ (0 ≤ (σ 55 13).toInt ∧ (σ 55 13).toInt ≤ 999) ∧ (∀ k : Nat, k < 8 → 0 ≤ (σ 62 k).toInt ∧ (σ 62 k).toInt ≤ 3) ∧ (∀ k : Nat, k < 8 → 0 ≤ (σ 67 k).toInt ∧ (σ 67 k).toInt ≤ 3) := id hI104
  obtain ⟨i9, w10, w11, w12⟩ : (0 ≤ (σ 55 32).toInt ∧ (σ 55 32).toInt ≤ 20) ∧ (∀ k : Nat, k < 20 → 0 ≤ (σ 70 k).toInt ∧ (σ 70 k).toInt ≤ 6) ∧ (∀ k : Nat, k < 20 → 0 ≤ (σ 71 k).toInt ∧ (σ 71 k).toInt ≤ 8) ∧ (∀ k : Nat, k < 160 → 0 ≤ (σ 72 k).toInt ∧ (σ 72 k).toInt ≤ 3) := id hI106
  have i13 : 0 ≤ (σ 55 50).toInt ∧ (σ 55 50).toInt ≤ 12 := hI109
  refine lv_aload_n hx hb dX12_game_0 rfl (lv_at hl 0 rfl) ?_
  refine lv_iload_n hx hb dX12_game_1 rfl (lv_at hl 1 rfl) ?_
  refine jcallV (As := [.int a1]) (rest := []) ⟨hx, hb, hml, hown, hts⟩ hK hP hA hS hZ (c_X12_isRule l D cI cL ad zz hJ σ τ a1 (A1) t1 hI106) cw_RX12_331 (jc_55 cI cL ad σ τ) rfl ⟨Nat.le_of_ble_eq_true rfl, Nat.le_of_ble_eq_true rfl⟩ rfl rfl rfl hl.1 rfl (Nat.le_of_ble_eq_true rfl) dX12_game_2 ⟨Nat.zero_le _, Nat.zero_le _⟩ (fun r15 σ14 τ14 H locs h14 hP hS => ?_)
  obtain ⟨⟨rfl, rfl⟩, h14⟩ := h14
  rcases h14 with h16 | h17
  · obtain ⟨q19, k18⟩ := h16
    have q19 := q19.symm
    subst q19
    refine lv_if_ne (tgt := 10) hx hb dX12_game_5 (of_decide_eq_true rfl) (fun _ => ?_) (fun c => absurd c (of_decide_eq_true rfl))
    refine lv_aload_n hx hb dX12_game_10 rfl (lv_at hl 0 rfl) ?_
    refine va_get (D := D) hx hb hts inlX12 hown hK hP 55 (jc_55 cI cL ad σ τ) rfl 12 (of_decide_eq_true rfl) (hts _ kw_8_16) (fun _ h9 => h9) rfl dX12_game_11 ?_
    refine lv_bipush (v := 8) hx hb dX12_game_14 (of_decide_eq_true rfl) ?_
    refine lv_icmp_le (tgt := 22) hx hb dX12_game_16 (of_decide_eq_true rfl) (fun c20 => ?_) (fun c20 => ?_)
    · have kc20 := jle c20 rfl jz_8
      refine lv_aload_n hx hb dX12_game_22 rfl (lv_at hl 0 rfl) ?_
      have w21 : ∀ k : Nat, k < 4 → 0 ≤ (σ 68 k).toInt ∧ (σ 68 k).toInt ≤ 3 := hI119
      refine jcallVv (As := []) (rest := []) ⟨hx, hb, hml, hown, hts⟩ hK hP hA hS hZ (c_X12_begin l D cI cL ad zz hJ σ τ hI104 w21) cw_RX12_256 (jc_55 cI cL ad σ τ) rfl ⟨Nat.le_of_ble_eq_true rfl, Nat.le_of_ble_eq_true rfl⟩ rfl rfl rfl hl.1 rfl (Nat.le_of_ble_eq_true rfl) dX12_game_23 ⟨Nat.zero_le _, Nat.zero_le _⟩ (fun σ22 τ22 H locs h22 hP hS => ?_)
      obtain ⟨rfl, f24, f25, I26, w27, w28, h22⟩ := h22
      obtain ⟨i30, i31, i32, i33, i34, w35⟩ : (0 ≤ (σ22 55 25).toInt) ∧ ((σ22 55 25).toInt ≤ (σ22 55 10).toInt) ∧ (0 ≤ (σ22 55 26).toInt) ∧ ((σ22 55 26).toInt ≤ (σ22 55 12).toInt) ∧ ((-1) ≤ (σ22 55 27).toInt ∧ (σ22 55 27).toInt ≤ 3) ∧ (∀ k : Nat, k < 4 → 0 ≤ (σ22 68 k).toInt ∧ (σ22 68 k).toInt ≤ 3) := id I26
      have z36 : (σ22 55 10).toInt = (σ 55 10).toInt := (congrArg Int32.toInt (show σ22 55 10 = (σ 55 10) from (f25 10 (of_decide_eq_true rfl))))
      have z37 : (σ22 55 12).toInt = (σ 55 12).toInt := (congrArg Int32.toInt (show σ22 55 12 = (σ 55 12) from (f25 12 (of_decide_eq_true rfl))))
      obtain ⟨k38, k39, k40, h22⟩ := h22
      refine lv_aload_n hx hb dX12_game_26 rfl (lv_at hl 0 rfl) ?_
      have p41 : jqSt σ22 := jqSt.fr (f24 78 (of_decide_eq_true rfl)) (f25 42 (of_decide_eq_true rfl)) hs_jqSt
      have z42 : (σ22 55 42).toInt = (σ 55 42).toInt := (congrArg Int32.toInt (show σ22 55 42 = (σ 55 42) from (f25 42 (of_decide_eq_true rfl))))
      exact by
       refine jcallVv (As := []) (rest := []) ⟨hx, hb, hml, hown, hts⟩ hK hP hA hS hZ (c_X12_forgets l D cI cL ad zz hJ σ22 τ p41 (by omega)) cw_RX12_341 (jc_55 cI cL ad σ22 τ) rfl ⟨Nat.le_of_ble_eq_true rfl, Nat.le_of_ble_eq_true rfl⟩ rfl rfl rfl hl.1 rfl (Nat.le_of_ble_eq_true rfl) dX12_game_27 ⟨Nat.zero_le _, Nat.zero_le _⟩ (fun σ43 τ43 H locs h43 hP hS => ?_)
       obtain ⟨rfl, f45, f46, p47, w48, h43⟩ := h43
       obtain ⟨k50, h43⟩ := h43
       refine lv_aload_n hx hb dX12_game_30 rfl (lv_at hl 0 rfl) ?_
       refine lv_iconst (v := 0) hx hb dX12_game_31 (of_decide_eq_true rfl) ?_
       refine jput (ty := .int) hx hb hts inlX12 tyX12 tyX12_ok nmX12 hown hK hP hJ hA hS (jc_55 cI cL ad σ43 τ) rfl (k := 50) (of_decide_eq_true rfl) (Nat.le_of_ble_eq_true rfl) (jp_55_50 cI cL ad σ43 τ 0) (hts _ kw_46_13) (fun _ h9 => h9) rfl (by decide +kernel) rfl rfl dX12_game_32 (fun σ51 H locs eσ51 hP hS => ?_)
       refine lv_iload_n hx hb dX12_game_35 rfl (lv_at hl 2 rfl) ?_
       refine lv_istore_n (lv' := [(3, .int a2), (0, .ref (ad 55)), (1, .int a1), (2, .int a2)]) hx hb dX12_game_36 rfl hl (of_decide_eq_true rfl) rfl (fun ls hl => ?_)
       refine lv_iconst (v := 0) hx hb dX12_game_37 (of_decide_eq_true rfl) ?_
       refine lv_istore (lv' := [(4, .int 0), (3, .int a2), (0, .ref (ad 55)), (1, .int a1), (2, .int a2)]) hx hb dX12_game_38 hl (of_decide_eq_true rfl) rfl (fun ls hl => ?_)
       refine lv_iconst (v := 0) hx hb dX12_game_40 (of_decide_eq_true rfl) ?_
       refine lv_istore (lv' := [(5, .int 0), (4, .int 0), (3, .int a2), (0, .ref (ad 55)), (1, .int a1), (2, .int a2)]) hx hb dX12_game_41 hl (of_decide_eq_true rfl) rfl (fun ls hl => ?_)
       have z62 : (σ51 55 50).toInt = 0 := ((congrArg Int32.toInt (show σ51 55 50 = 0 from (jsp eσ51))).trans jz_0)
       have I63 : jI109 σ51 := (show 0 ≤ (σ51 55 50).toInt ∧ (σ51 55 50).toInt ≤ 12 by omega)
       have w64 : ∀ k : Nat, k < 4 → 0 ≤ (σ51 68 k).toInt ∧ (σ51 68 k).toInt ≤ 3 := (jrr_fr (jnp 68 eσ51 (of_decide_eq_true rfl)) (jrr_fr (f45 68 (of_decide_eq_true rfl)) w35))
       have I65 : jI119 σ51 := w64
       have z66 : (σ51 55 12).toInt = (σ 55 12).toInt := (congrArg Int32.toInt (show σ51 55 12 = (σ 55 12) from ((jkp 12 eσ51 (of_decide_eq_true rfl)).trans ((f46 12 (of_decide_eq_true rfl)).trans (f25 12 (of_decide_eq_true rfl))))))
       have z67 : (σ51 55 26).toInt = (σ22 55 26).toInt := (congrArg Int32.toInt (show σ51 55 26 = (σ22 55 26) from ((jkp 26 eσ51 (of_decide_eq_true rfl)).trans (f46 26 (of_decide_eq_true rfl)))))
       have z68 : (σ51 55 25).toInt = (σ22 55 25).toInt := (congrArg Int32.toInt (show σ51 55 25 = (σ22 55 25) from ((jkp 25 eσ51 (of_decide_eq_true rfl)).trans (f46 25 (of_decide_eq_true rfl)))))
       have z69 : (σ51 55 10).toInt = (σ 55 10).toInt := (congrArg Int32.toInt (show σ51 55 10 = (σ 55 10) from ((jkp 10 eσ51 (of_decide_eq_true rfl)).trans ((f46 10 (of_decide_eq_true rfl)).trans (f25 10 (of_decide_eq_true rfl))))))
       have z70 : (σ51 55 27).toInt = (σ22 55 27).toInt := (congrArg Int32.toInt (show σ51 55 27 = (σ22 55 27) from ((jkp 27 eσ51 (of_decide_eq_true rfl)).trans (f46 27 (of_decide_eq_true rfl)))))
       have p72 : jKept σ51 := jKept.fr ((jnp 75 eσ51 (of_decide_eq_true rfl)).trans ((f45 75 (of_decide_eq_true rfl)).trans (f24 75 (of_decide_eq_true rfl)))) ((jnp 76 eσ51 (of_decide_eq_true rfl)).trans ((f45 76 (of_decide_eq_true rfl)).trans (f24 76 (of_decide_eq_true rfl)))) ((jnp 77 eσ51 (of_decide_eq_true rfl)).trans ((f45 77 (of_decide_eq_true rfl)).trans (f24 77 (of_decide_eq_true rfl)))) hs_jKept
       have p73 : jqSt σ51 := jqSt.fr (jnp 78 eσ51 (of_decide_eq_true rfl)) (jkp 42 eσ51 (of_decide_eq_true rfl)) p47
       have lp52 : ∀ (n53 : Nat) (x54 : Int32) (x55 : Int32) (x56 : Int32) (σ61 : Nat → Nat → Int32) (H : Heap) (locs : List Loc) (ls : Array Slot), ((σ61 55 12).toInt - (σ61 55 26).toInt : Int) < n53 → 0 ≤ (σ61 55 25).toInt → (σ61 55 25).toInt ≤ (σ61 55 10).toInt → 0 ≤ (σ61 55 26).toInt → (σ61 55 26).toInt ≤ (σ61 55 12).toInt → (-1) ≤ (σ61 55 27).toInt ∧ (σ61 55 27).toInt ≤ 3 → (σ61 55 50).toInt = (σ61 55 26).toInt → (∀ i : Nat, (i < 55 ∨ 55 < i) ∧ (i < 66 ∨ 66 < i) ∧ (i < 68 ∨ 69 < i) ∧ (i < 74 ∨ 78 < i) ∧ (i < 82 ∨ 84 < i) → σ61 i = σ51 i) → (∀ k : Nat, (k < 18 ∨ 18 < k) ∧ (k < 19 ∨ 19 < k) ∧ (k < 20 ∨ 20 < k) ∧ (k < 21 ∨ 21 < k) ∧ (k < 22 ∨ 22 < k) ∧ (k < 25 ∨ 25 < k) ∧ (k < 26 ∨ 26 < k) ∧ (k < 27 ∨ 27 < k) ∧ (k < 37 ∨ 37 < k) ∧ (k < 50 ∨ 50 < k) → σ61 55 k = σ51 55 k) → jKept σ61 → jqSt σ61 → jI109 σ61 → jI119 σ61 → jH D cI cL ad σ61 τ H → va_S (jA ad) s.heap H locs → lv_has ls 10 [(5, .int x56), (4, .int x55), (3, .int x54), (0, .ref (ad 55)), (1, .int a1), (2, .int a2)] → W p l e ({ frames := 104, cells := 0, slots := 0, locals := 5087 }) s m args below meth c H locs 0 0 Q (F0 m 43 ls []) := by
         intro n53
         induction n53 with
         | zero => intro x54 x55 x56 σ61 H locs ls h74 h75 h76 h77 h78 h79 h80; have gx54 := jrg (rfl : x54.toInt = x54.toInt); have gx55 := jrg (rfl : x55.toInt = x55.toInt); have gx56 := jrg (rfl : x56.toInt = x56.toInt); exact absurd h74 (by omega)
         | succ n53 ihlp52 =>
           intro x54 x55 x56 σ61 H locs ls h74 h75 h76 h77 h78 h79 h80 f81 f82 p83 p84 p85 p86 hP hS hl
           exact by
            have gx54 := jrg (rfl : x54.toInt = x54.toInt); have gx55 := jrg (rfl : x55.toInt = x55.toInt); have gx56 := jrg (rfl : x56.toInt = x56.toInt)
            have i87 : 0 ≤ (σ61 55 50).toInt ∧ (σ61 55 50).toInt ≤ 12 := p85
            have z88 : (σ61 55 12).toInt = (σ 55 12).toInt := (congrArg Int32.toInt (show σ61 55 12 = (σ 55 12) from ((f82 12 (of_decide_eq_true rfl)).trans ((jkp 12 eσ51 (of_decide_eq_true rfl)).trans ((f46 12 (of_decide_eq_true rfl)).trans (f25 12 (of_decide_eq_true rfl)))))))
            have z89 : (σ61 55 10).toInt = (σ 55 10).toInt := (congrArg Int32.toInt (show σ61 55 10 = (σ 55 10) from ((f82 10 (of_decide_eq_true rfl)).trans ((jkp 10 eσ51 (of_decide_eq_true rfl)).trans ((f46 10 (of_decide_eq_true rfl)).trans (f25 10 (of_decide_eq_true rfl)))))))
            refine lv_iload hx hb dX12_game_43 (lv_at hl 0 rfl) ?_
            refine lv_if_ne (tgt := 233) hx hb dX12_game_45 (of_decide_eq_true rfl) (fun c90 => ?_) (fun c90 => ?_)
            · have kc90 := jne c90 rfl jz_0
              refine lv_iload hx hb dX12_game_233 (lv_at hl 1 rfl) ?_
              have p91 : jTR σ61 := jTR.fr ((f81 64 (of_decide_eq_true rfl)).trans ((jnp 64 eσ51 (of_decide_eq_true rfl)).trans ((f45 64 (of_decide_eq_true rfl)).trans (f24 64 (of_decide_eq_true rfl))))) ((f81 65 (of_decide_eq_true rfl)).trans ((jnp 65 eσ51 (of_decide_eq_true rfl)).trans ((f45 65 (of_decide_eq_true rfl)).trans (f24 65 (of_decide_eq_true rfl))))) hs_jTR
              have z92 : (σ61 55 42).toInt = (σ43 55 42).toInt := (congrArg Int32.toInt (show σ61 55 42 = (σ43 55 42) from ((f82 42 (of_decide_eq_true rfl)).trans (jkp 42 eσ51 (of_decide_eq_true rfl)))))
              exact by exact hret x55 σ61 τ _ _ _ _ rfl ⟨rfl, (fun i hi => ((f81 i hi).trans ((jnp i eσ51 (imp_282 i hi)).trans ((f45 i (imp_283 i hi)).trans (f24 i (imp_284 i hi)))))), (fun i hi => ((f82 i (imp_285 i hi)).trans ((jkp i eσ51 (imp_286 i hi)).trans ((f46 i (imp_287 i hi)).trans (f25 i (imp_288 i hi)))))), p85, p86, p83, p91, p84, (by omega), (by omega), trivial⟩ hP hS dX12_game_235
            · have kc90 := jeq c90 rfl jz_0
              refine lv_aload_n hx hb dX12_game_48 rfl (lv_at hl 3 rfl) ?_
              have I93 : jI102 σ61 := jI102_fr ((f82 6 (of_decide_eq_true rfl)).trans ((jkp 6 eσ51 (of_decide_eq_true rfl)).trans ((f46 6 (of_decide_eq_true rfl)).trans (f25 6 (of_decide_eq_true rfl))))) ((f81 60 (of_decide_eq_true rfl)).trans ((jnp 60 eσ51 (of_decide_eq_true rfl)).trans ((f45 60 (of_decide_eq_true rfl)).trans (f24 60 (of_decide_eq_true rfl))))) ((f81 61 (of_decide_eq_true rfl)).trans ((jnp 61 eσ51 (of_decide_eq_true rfl)).trans ((f45 61 (of_decide_eq_true rfl)).trans (f24 61 (of_decide_eq_true rfl))))) hI102
              have I94 : jI104 σ61 := jI104_fr ((f82 10 (of_decide_eq_true rfl)).trans ((jkp 10 eσ51 (of_decide_eq_true rfl)).trans ((f46 10 (of_decide_eq_true rfl)).trans (f25 10 (of_decide_eq_true rfl))))) ((f82 12 (of_decide_eq_true rfl)).trans ((jkp 12 eσ51 (of_decide_eq_true rfl)).trans ((f46 12 (of_decide_eq_true rfl)).trans (f25 12 (of_decide_eq_true rfl))))) ((f82 13 (of_decide_eq_true rfl)).trans ((jkp 13 eσ51 (of_decide_eq_true rfl)).trans ((f46 13 (of_decide_eq_true rfl)).trans (f25 13 (of_decide_eq_true rfl))))) ((f81 62 (of_decide_eq_true rfl)).trans ((jnp 62 eσ51 (of_decide_eq_true rfl)).trans ((f45 62 (of_decide_eq_true rfl)).trans (f24 62 (of_decide_eq_true rfl))))) ((f81 67 (of_decide_eq_true rfl)).trans ((jnp 67 eσ51 (of_decide_eq_true rfl)).trans ((f45 67 (of_decide_eq_true rfl)).trans (f24 67 (of_decide_eq_true rfl))))) hI104
              have w95 : ∀ k : Nat, k < 4 → 0 ≤ (σ61 68 k).toInt ∧ (σ61 68 k).toInt ≤ 3 := p86
              exact by
               have I96 : jI120 σ61 := ⟨(by omega), (by omega), (by omega), (by omega), (by omega), w95⟩
               refine jcallV (As := []) (rest := []) ⟨hx, hb, hml, hown, hts⟩ hK hP hA hS hZ (c_X12_isEnded l D cI cL ad zz hJ σ61 τ I93 I94 I96) cw_RX12_307 (jc_55 cI cL ad σ61 τ) rfl ⟨Nat.le_of_ble_eq_true rfl, Nat.le_of_ble_eq_true rfl⟩ rfl rfl rfl hl.1 rfl (Nat.le_of_ble_eq_true rfl) dX12_game_49 ⟨Nat.zero_le _, Nat.zero_le _⟩ (fun r98 σ97 τ97 H locs h97 hP hS => ?_)
               obtain ⟨⟨rfl, rfl⟩, h97⟩ := h97
               rcases h97 with h99 | h100
               · obtain ⟨q102, k101⟩ := h99
                 have q102 := q102.symm
                 subst q102
                 refine lv_if_ne (tgt := 233) hx hb dX12_game_52 (of_decide_eq_true rfl) (fun _ => ?_) (fun c => absurd c (of_decide_eq_true rfl))
                 refine lv_iload hx hb dX12_game_233 (lv_at hl 1 rfl) ?_
                 have p103 : jTR σ61 := jTR.fr ((f81 64 (of_decide_eq_true rfl)).trans ((jnp 64 eσ51 (of_decide_eq_true rfl)).trans ((f45 64 (of_decide_eq_true rfl)).trans (f24 64 (of_decide_eq_true rfl))))) ((f81 65 (of_decide_eq_true rfl)).trans ((jnp 65 eσ51 (of_decide_eq_true rfl)).trans ((f45 65 (of_decide_eq_true rfl)).trans (f24 65 (of_decide_eq_true rfl))))) hs_jTR
                 have z104 : (σ61 55 42).toInt = (σ43 55 42).toInt := (congrArg Int32.toInt (show σ61 55 42 = (σ43 55 42) from ((f82 42 (of_decide_eq_true rfl)).trans (jkp 42 eσ51 (of_decide_eq_true rfl)))))
                 exact by exact hret x55 σ61 τ _ _ _ _ rfl ⟨rfl, (fun i hi => ((f81 i hi).trans ((jnp i eσ51 (imp_282 i hi)).trans ((f45 i (imp_283 i hi)).trans (f24 i (imp_284 i hi)))))), (fun i hi => ((f82 i (imp_285 i hi)).trans ((jkp i eσ51 (imp_286 i hi)).trans ((f46 i (imp_287 i hi)).trans (f25 i (imp_288 i hi)))))), p85, p86, p83, p103, p84, (by omega), (by omega), trivial⟩ hP hS dX12_game_235
               · obtain ⟨q108, k105, k106, k107⟩ := h100
                 have q108 := q108.symm
                 subst q108
                 obtain ⟨B109, k110, k111, w112⟩ := k107
                 have z113 : (σ61 55 6).toInt = (σ 55 6).toInt := (congrArg Int32.toInt (show σ61 55 6 = (σ 55 6) from ((f82 6 (of_decide_eq_true rfl)).trans ((jkp 6 eσ51 (of_decide_eq_true rfl)).trans ((f46 6 (of_decide_eq_true rfl)).trans (f25 6 (of_decide_eq_true rfl)))))))
                 refine lv_if_ne (tgt := 233) hx hb dX12_game_52 (of_decide_eq_true rfl) (fun c => absurd (of_decide_eq_true rfl) c) (fun _ => ?_)
                 refine lv_aload_n hx hb dX12_game_55 rfl (lv_at hl 3 rfl) ?_
                 refine lv_iload_n hx hb dX12_game_56 rfl (lv_at hl 4 rfl) ?_
                 have p114 : jmb σ61 B109 = 1 := (jmb_fr rfl rfl rfl rfl rfl B109).trans w112
                 have I115 : jI101 σ61 := jI101_fr ((f82 4 (of_decide_eq_true rfl)).trans ((jkp 4 eσ51 (of_decide_eq_true rfl)).trans ((f46 4 (of_decide_eq_true rfl)).trans (f25 4 (of_decide_eq_true rfl))))) ((f82 5 (of_decide_eq_true rfl)).trans ((jkp 5 eσ51 (of_decide_eq_true rfl)).trans ((f46 5 (of_decide_eq_true rfl)).trans (f25 5 (of_decide_eq_true rfl))))) ((f81 56 (of_decide_eq_true rfl)).trans ((jnp 56 eσ51 (of_decide_eq_true rfl)).trans ((f45 56 (of_decide_eq_true rfl)).trans (f24 56 (of_decide_eq_true rfl))))) ((f81 57 (of_decide_eq_true rfl)).trans ((jnp 57 eσ51 (of_decide_eq_true rfl)).trans ((f45 57 (of_decide_eq_true rfl)).trans (f24 57 (of_decide_eq_true rfl))))) ((f81 58 (of_decide_eq_true rfl)).trans ((jnp 58 eσ51 (of_decide_eq_true rfl)).trans ((f45 58 (of_decide_eq_true rfl)).trans (f24 58 (of_decide_eq_true rfl))))) ((f81 59 (of_decide_eq_true rfl)).trans ((jnp 59 eσ51 (of_decide_eq_true rfl)).trans ((f45 59 (of_decide_eq_true rfl)).trans (f24 59 (of_decide_eq_true rfl))))) hI101
                 have I116 : jI103 σ61 := jI103_fr ((f82 9 (of_decide_eq_true rfl)).trans ((jkp 9 eσ51 (of_decide_eq_true rfl)).trans ((f46 9 (of_decide_eq_true rfl)).trans (f25 9 (of_decide_eq_true rfl))))) hI103
                 have I117 : jI105 σ61 := jI105_fr ((f82 15 (of_decide_eq_true rfl)).trans ((jkp 15 eσ51 (of_decide_eq_true rfl)).trans ((f46 15 (of_decide_eq_true rfl)).trans (f25 15 (of_decide_eq_true rfl))))) ((f81 65 (of_decide_eq_true rfl)).trans ((jnp 65 eσ51 (of_decide_eq_true rfl)).trans ((f45 65 (of_decide_eq_true rfl)).trans (f24 65 (of_decide_eq_true rfl))))) hI105
                 have I118 : jI106 σ61 := jI106_fr ((f82 32 (of_decide_eq_true rfl)).trans ((jkp 32 eσ51 (of_decide_eq_true rfl)).trans ((f46 32 (of_decide_eq_true rfl)).trans (f25 32 (of_decide_eq_true rfl))))) ((f81 70 (of_decide_eq_true rfl)).trans ((jnp 70 eσ51 (of_decide_eq_true rfl)).trans ((f45 70 (of_decide_eq_true rfl)).trans (f24 70 (of_decide_eq_true rfl))))) ((f81 71 (of_decide_eq_true rfl)).trans ((jnp 71 eσ51 (of_decide_eq_true rfl)).trans ((f45 71 (of_decide_eq_true rfl)).trans (f24 71 (of_decide_eq_true rfl))))) ((f81 72 (of_decide_eq_true rfl)).trans ((jnp 72 eσ51 (of_decide_eq_true rfl)).trans ((f45 72 (of_decide_eq_true rfl)).trans (f24 72 (of_decide_eq_true rfl))))) hI106
                 have p119 : jTR σ61 := jTR.fr ((f81 64 (of_decide_eq_true rfl)).trans ((jnp 64 eσ51 (of_decide_eq_true rfl)).trans ((f45 64 (of_decide_eq_true rfl)).trans (f24 64 (of_decide_eq_true rfl))))) ((f81 65 (of_decide_eq_true rfl)).trans ((jnp 65 eσ51 (of_decide_eq_true rfl)).trans ((f45 65 (of_decide_eq_true rfl)).trans (f24 65 (of_decide_eq_true rfl))))) hs_jTR
                 have z120 : (σ61 70 a1.toNatClampNeg).toInt = (σ 70 a1.toNatClampNeg).toInt := by rw [f81 70 (of_decide_eq_true rfl), jnp 70 eσ51 (of_decide_eq_true rfl), f45 70 (of_decide_eq_true rfl), f24 70 (of_decide_eq_true rfl)]
                 exact by
                  refine jcallV (As := [.int a1]) (rest := []) ⟨hx, hb, hml, hown, hts⟩ hK hP hA hS hZ (c_X12_putsOn l D cI cL ad zz hJ σ61 τ B109 p114 a1 (A1) t1 I115 I93 I116 I94 I117 I118 I96 p83 p119 p84 (by omega) (by omega) (by omega) (by omega) (by omega)) cw_RX12_321 (jc_55 cI cL ad σ61 τ) rfl ⟨Nat.le_of_ble_eq_true rfl, Nat.le_of_ble_eq_true rfl⟩ rfl rfl rfl hl.1 rfl (Nat.le_of_ble_eq_true rfl) dX12_game_57 ⟨Nat.zero_le _, Nat.zero_le _⟩ (fun r122 σ121 τ121 H locs h121 hP hS => ?_)
                  obtain ⟨rfl, f123, f124, p125, p126, p127, h121⟩ := h121
                  have h129 := h121
                  obtain ⟨q131, k130⟩ := h129
                  refine lv_istore (lv' := [(6, .int r122), (5, .int x56), (4, .int x55), (3, .int x54), (0, .ref (ad 55)), (1, .int a1), (2, .int a2)]) hx hb dX12_game_60 hl (of_decide_eq_true rfl) rfl (fun ls hl => ?_)
                  refine lv_aload_n hx hb dX12_game_62 rfl (lv_at hl 4 rfl) ?_
                  refine va_get (D := D) hx hb hts inlX12 hown hK hP 55 (jc_55 cI cL ad σ121 τ) rfl 11 (of_decide_eq_true rfl) (hts _ kw_7_8) (fun _ h9 => h9) rfl dX12_game_63 ?_
                  refine lv_aload_n hx hb dX12_game_66 rfl (lv_at hl 4 rfl) ?_
                  refine va_get (D := D) hx hb hts inlX12 hown hK hP 55 (jc_55 cI cL ad σ121 τ) rfl 25 (of_decide_eq_true rfl) (hts _ kw_23_6) (fun _ h9 => h9) rfl dX12_game_67 ?_
                  have m132 : σ121 55 25 = (σ61 55 25) := (f124 25 (of_decide_eq_true rfl))
                  refine jtopr m132 ?_
                  exact by
                   refine jald hx hb hK hP (jc_62 cI cL ad σ121 τ) (jin rfl (by omega) (by omega)) dX12_game_70 ?_
                   have w133 : ∀ k : Nat, k < 8 → 0 ≤ (σ121 62 k).toInt ∧ (σ121 62 k).toInt ≤ 3 := (jrr_fr (f123 62 (of_decide_eq_true rfl)) (jrr_fr (f81 62 (of_decide_eq_true rfl)) (jrr_fr (jnp 62 eσ51 (of_decide_eq_true rfl)) (jrr_fr (f45 62 (of_decide_eq_true rfl)) (jrr_fr (f24 62 (of_decide_eq_true rfl)) w7)))))
                   have g134 := w133 _ (jnat (x := (σ61 55 25)) rfl (n := 8) (by omega) (of_decide_eq_true rfl))
                   refine lv_topi (fun x135 ex135 => ?_)
                   rw [← ex135] at g134
                   refine lv_istore (lv' := [(7, .int x135), (6, .int r122), (5, .int x56), (4, .int x55), (3, .int x54), (0, .ref (ad 55)), (1, .int a1), (2, .int a2)]) hx hb dX12_game_71 hl (of_decide_eq_true rfl) rfl (fun ls hl => ?_)
                   refine lv_aload_n hx hb dX12_game_73 rfl (lv_at hl 5 rfl) ?_
                   refine lv_iload hx hb dX12_game_74 (lv_at hl 1 rfl) ?_
                   refine lv_iload hx hb dX12_game_76 (lv_at hl 0 rfl) ?_
                   exact by
                    have I136 : jI101 σ121 := jI101_fr (f124 4 (of_decide_eq_true rfl)) (f124 5 (of_decide_eq_true rfl)) (f123 56 (of_decide_eq_true rfl)) (f123 57 (of_decide_eq_true rfl)) (f123 58 (of_decide_eq_true rfl)) (f123 59 (of_decide_eq_true rfl)) I115
                    have I137 : jI102 σ121 := jI102_fr (f124 6 (of_decide_eq_true rfl)) (f123 60 (of_decide_eq_true rfl)) (f123 61 (of_decide_eq_true rfl)) I93
                    have I138 : jI103 σ121 := jI103_fr (f124 9 (of_decide_eq_true rfl)) I116
                    have I139 : jI105 σ121 := jI105_fr (f124 15 (of_decide_eq_true rfl)) (f123 65 (of_decide_eq_true rfl)) I117
                    have w140 : ∀ k : Nat, k < 4 → 0 ≤ (σ121 68 k).toInt ∧ (σ121 68 k).toInt ≤ 3 := (jrr_fr (f123 68 (of_decide_eq_true rfl)) w95)
                    refine jcallV (As := [.int r122, .int x135]) (rest := []) ⟨hx, hb, hml, hown, hts⟩ hK hP hA hS hZ (c_X12_outBy l D cI cL ad zz hJ σ121 τ r122 (r122.toInt) rfl x135 (x135.toInt) rfl I136 I137 I138 I139 w140 p126 (by omega) (by omega)) cw_RX12_259 (jc_55 cI cL ad σ121 τ) rfl ⟨Nat.le_of_ble_eq_true rfl, Nat.le_of_ble_eq_true rfl⟩ rfl rfl rfl hl.1 rfl (Nat.le_of_ble_eq_true rfl) dX12_game_78 ⟨Nat.zero_le _, Nat.zero_le _⟩ (fun r142 σ141 τ141 H locs h141 hP hS => ?_)
                    obtain ⟨rfl, f143, f144, p145, w146, h141⟩ := h141
                    have h148 := h141
                    obtain ⟨q150, k149⟩ := h148
                    exact by
                     refine lv_istore (lv' := [(8, .int r142), (7, .int x135), (6, .int r122), (5, .int x56), (4, .int x55), (3, .int x54), (0, .ref (ad 55)), (1, .int a1), (2, .int a2)]) hx hb dX12_game_81 hl (of_decide_eq_true rfl) rfl (fun ls hl => ?_)
                     refine lv_aload_n hx hb dX12_game_83 rfl (lv_at hl 6 rfl) ?_
                     refine va_get (D := D) hx hb hts inlX12 hown hK hP 55 (jc_55 cI cL ad σ141 τ) rfl 51 (of_decide_eq_true rfl) (hts _ kw_8_7) (fun _ h9 => h9) rfl dX12_game_84 ?_
                     refine lv_aload_n hx hb dX12_game_87 rfl (lv_at hl 6 rfl) ?_
                     refine va_get (D := D) hx hb hts inlX12 hown hK hP 55 (jc_55 cI cL ad σ141 τ) rfl 50 (of_decide_eq_true rfl) (hts _ kw_46_13) (fun _ h9 => h9) rfl dX12_game_88 ?_
                     have m151 : σ141 55 50 = (σ61 55 50) := ((f144 50 (of_decide_eq_true rfl)).trans (f124 50 (of_decide_eq_true rfl)))
                     refine jtopr m151 ?_
                     refine lv_iload hx hb dX12_game_91 (lv_at hl 2 rfl) ?_
                     refine jast hx hb hK hP hJ hA hS (jc_82 cI cL ad σ141 τ) (ja_82 cI cL ad σ141 τ _ _) (jin rfl (by omega) (by omega)) dX12_game_93 (fun σ152 H locs eσ152 hP hS => ?_)
                     exact by
                      refine lv_aload_n hx hb dX12_game_94 rfl (lv_at hl 6 rfl) ?_
                      refine va_get (D := D) hx hb hts inlX12 hown hK hP 55 (jc_55 cI cL ad σ152 τ) rfl 52 (of_decide_eq_true rfl) (hts _ kw_8_8) (fun _ h9 => h9) rfl dX12_game_95 ?_
                      refine lv_aload_n hx hb dX12_game_98 rfl (lv_at hl 6 rfl) ?_
                      refine va_get (D := D) hx hb hts inlX12 hown hK hP 55 (jc_55 cI cL ad σ152 τ) rfl 50 (of_decide_eq_true rfl) (hts _ kw_46_13) (fun _ h9 => h9) rfl dX12_game_99 ?_
                      have m153 : σ152 55 50 = (σ61 55 50) := ((congrFun (jnp 55 eσ152 (of_decide_eq_true rfl)) 50).trans m151)
                      refine jtopr m153 ?_
                      refine lv_aload_n hx hb dX12_game_102 rfl (lv_at hl 6 rfl) ?_
                      refine lv_iload hx hb dX12_game_103 (lv_at hl 2 rfl) ?_
                      refine lv_iload hx hb dX12_game_105 (lv_at hl 1 rfl) ?_
                      have I154 : jI101 σ152 := jI101_fr ((congrFun (jnp 55 eσ152 (of_decide_eq_true rfl)) 4).trans (f144 4 (of_decide_eq_true rfl))) ((congrFun (jnp 55 eσ152 (of_decide_eq_true rfl)) 5).trans (f144 5 (of_decide_eq_true rfl))) ((jnp 56 eσ152 (of_decide_eq_true rfl)).trans (f143 56 (of_decide_eq_true rfl))) ((jnp 57 eσ152 (of_decide_eq_true rfl)).trans (f143 57 (of_decide_eq_true rfl))) ((jnp 58 eσ152 (of_decide_eq_true rfl)).trans (f143 58 (of_decide_eq_true rfl))) ((jnp 59 eσ152 (of_decide_eq_true rfl)).trans (f143 59 (of_decide_eq_true rfl))) I136
                      have I155 : jI102 σ152 := jI102_fr ((congrFun (jnp 55 eσ152 (of_decide_eq_true rfl)) 6).trans (f144 6 (of_decide_eq_true rfl))) ((jnp 60 eσ152 (of_decide_eq_true rfl)).trans (f143 60 (of_decide_eq_true rfl))) ((jnp 61 eσ152 (of_decide_eq_true rfl)).trans (f143 61 (of_decide_eq_true rfl))) I137
                      have I156 : jI103 σ152 := jI103_fr ((congrFun (jnp 55 eσ152 (of_decide_eq_true rfl)) 9).trans (f144 9 (of_decide_eq_true rfl))) I138
                      have w157 : ∀ k : Nat, k < 4 → 0 ≤ (σ152 68 k).toInt ∧ (σ152 68 k).toInt ≤ 3 := (jrr_fr (jnp 68 eσ152 (of_decide_eq_true rfl)) (jrr_fr (f143 68 (of_decide_eq_true rfl)) w140))
                      exact by
                       refine jcallV (As := [.int r122, .int x135]) (rest := [.int (σ61 55 50), .ref (ad 83)]) ⟨hx, hb, hml, hown, hts⟩ hK hP hA hS hZ (c_X12_runsBy l D cI cL ad zz hJ σ152 τ r122 (r122.toInt) rfl x135 (x135.toInt) rfl I154 I155 I156 w157 (by omega) (by omega)) cw_RX12_262 (jc_55 cI cL ad σ152 τ) rfl ⟨Nat.le_of_ble_eq_true rfl, Nat.le_of_ble_eq_true rfl⟩ rfl rfl rfl hl.1 rfl (Nat.le_of_ble_eq_true rfl) dX12_game_107 ⟨Nat.zero_le _, Nat.zero_le _⟩ (fun r159 σ158 τ158 H locs h158 hP hS => ?_)
                       obtain ⟨⟨rfl, rfl⟩, w160, h158⟩ := h158
                       have h161 := h158
                       obtain ⟨q163, k162⟩ := h161
                       refine jast hx hb hK hP hJ hA hS (jc_83 cI cL ad σ152 τ) (ja_83 cI cL ad σ152 τ _ _) (jin rfl (by omega) (by omega)) dX12_game_110 (fun σ164 H locs eσ164 hP hS => ?_)
                       refine lv_iload hx hb dX12_game_111 (lv_at hl 4 rfl) ?_
                       refine lv_aload_n hx hb dX12_game_113 rfl (lv_at hl 6 rfl) ?_
                       refine va_get (D := D) hx hb hts inlX12 hown hK hP 55 (jc_55 cI cL ad σ164 τ) rfl 52 (of_decide_eq_true rfl) (hts _ kw_8_8) (fun _ h9 => h9) rfl dX12_game_114 ?_
                       refine lv_aload_n hx hb dX12_game_117 rfl (lv_at hl 6 rfl) ?_
                       exact by
                        refine va_get (D := D) hx hb hts inlX12 hown hK hP 55 (jc_55 cI cL ad σ164 τ) rfl 50 (of_decide_eq_true rfl) (hts _ kw_46_13) (fun _ h9 => h9) rfl dX12_game_118 ?_
                        have m165 : σ164 55 50 = (σ61 55 50) := ((congrFun (jnp 55 eσ164 (of_decide_eq_true rfl)) 50).trans m153)
                        refine jtopr m165 ?_
                        refine jald hx hb hK hP (jc_83 cI cL ad σ164 τ) (jin rfl (by omega) (by omega)) dX12_game_121 ?_
                        refine lv_topi (fun x166 ex166 => ?_)
                        have g167 := jrg (rfl : x55.toInt = x55.toInt)
                        have g168 := jrg (rfl : x166.toInt = x166.toInt)
                        refine lv_iadd hx hb dX12_game_122 ?_
                        refine lv_topi (fun x169 ex169 => ?_)
                        exact by
                         have gx169 := jrg (rfl : x169.toInt = x169.toInt)
                         refine lv_istore (lv' := [(4, .int x169), (8, .int r142), (7, .int x135), (6, .int r122), (5, .int x56), (3, .int x54), (0, .ref (ad 55)), (1, .int a1), (2, .int a2)]) hx hb dX12_game_123 hl (of_decide_eq_true rfl) rfl (fun ls hl => ?_)
                         refine lv_iload_n hx hb dX12_game_125 rfl (lv_at hl 5 rfl) ?_
                         refine lv_ldcw (v := 1103515245) hx hb hown (hts _ kw_46_14) dX12_game_126 ?_
                         have g170 := jrg (rfl : x54.toInt = x54.toInt)
                         refine lv_imul hx hb dX12_game_129 ?_
                         refine lv_topi (fun x171 ex171 => ?_)
                         have gx171 := jrg (rfl : x171.toInt = x171.toInt)
                         refine lv_sipush (v := 12345) hx hb dX12_game_130 (of_decide_eq_true rfl) ?_
                         have g172 := jrg (rfl : x171.toInt = x171.toInt)
                         refine lv_iadd hx hb dX12_game_133 ?_
                         refine lv_topi (fun x173 ex173 => ?_)
                         have gx173 := jrg (rfl : x173.toInt = x173.toInt)
                         refine lv_istore_n (lv' := [(3, .int x173), (4, .int x169), (8, .int r142), (7, .int x135), (6, .int r122), (5, .int x56), (0, .ref (ad 55)), (1, .int a1), (2, .int a2)]) hx hb dX12_game_134 rfl hl (of_decide_eq_true rfl) rfl (fun ls hl => ?_)
                         refine lv_aload_n hx hb dX12_game_135 rfl (lv_at hl 6 rfl) ?_
                         refine va_get (D := D) hx hb hts inlX12 hown hK hP 55 (jc_55 cI cL ad σ164 τ) rfl 53 (of_decide_eq_true rfl) (hts _ kw_8_9) (fun _ h9 => h9) rfl dX12_game_136 ?_
                         refine lv_aload_n hx hb dX12_game_139 rfl (lv_at hl 6 rfl) ?_
                         refine va_get (D := D) hx hb hts inlX12 hown hK hP 55 (jc_55 cI cL ad σ164 τ) rfl 50 (of_decide_eq_true rfl) (hts _ kw_46_13) (fun _ h9 => h9) rfl dX12_game_140 ?_
                         refine jtopr m165 ?_
                         refine lv_iload_n hx hb dX12_game_143 rfl (lv_at hl 0 rfl) ?_
                         refine lv_bipush (v := 8) hx hb dX12_game_144 (of_decide_eq_true rfl) ?_
                         refine lv_iushr hx hb dX12_game_146 rfl ?_
                         refine lv_topi (fun x174 ex174 => ?_)
                         have gx174 := jrg (rfl : x174.toInt = x174.toInt)
                         have g175 : 0 ≤ x174.toInt ∧ x174.toInt ≤ 16777215 := jushr8 ex174
                         refine lv_sipush (v := 1000) hx hb dX12_game_147 (of_decide_eq_true rfl) ?_
                         refine lv_irem hx hb dX12_game_150 (of_decide_eq_true rfl) ?_
                         refine lv_topi (fun x176 ex176 => ?_)
                         exact by
                          have tx176 : x176.toInt = (x174.toInt % 1000) := jrem ex176 rfl jz_1000 (by omega)
                          refine lv_iload hx hb dX12_game_151 (lv_at hl 2 rfl) ?_
                          refine lv_icmp_ge (tgt := 160) hx hb dX12_game_153 (of_decide_eq_true rfl) (fun c177 => ?_) (fun c177 => ?_)
                          · have kc177 := jle c177 rfl tx176
                            refine lv_iconst (v := 0) hx hb dX12_game_160 (of_decide_eq_true rfl) ?_
                            refine jast hx hb hK hP hJ hA hS (jc_84 cI cL ad σ164 τ) (ja_84 cI cL ad σ164 τ _ _) (jin rfl (by omega) (by omega)) dX12_game_161 (fun σ178 H locs eσ178 hP hS => ?_)
                            refine lv_aload_n hx hb dX12_game_162 rfl (lv_at hl 6 rfl) ?_
                            refine lv_iload hx hb dX12_game_163 (lv_at hl 4 rfl) ?_
                            refine lv_aload_n hx hb dX12_game_165 rfl (lv_at hl 6 rfl) ?_
                            exact by
                             refine va_get (D := D) hx hb hts inlX12 hown hK hP 55 (jc_55 cI cL ad σ178 τ) rfl 53 (of_decide_eq_true rfl) (hts _ kw_8_9) (fun _ h9 => h9) rfl dX12_game_166 ?_
                             refine lv_aload_n hx hb dX12_game_169 rfl (lv_at hl 6 rfl) ?_
                             refine va_get (D := D) hx hb hts inlX12 hown hK hP 55 (jc_55 cI cL ad σ178 τ) rfl 50 (of_decide_eq_true rfl) (hts _ kw_46_13) (fun _ h9 => h9) rfl dX12_game_170 ?_
                             have m179 : σ178 55 50 = (σ61 55 50) := ((congrFun (jnp 55 eσ178 (of_decide_eq_true rfl)) 50).trans m165)
                             refine jtopr m179 ?_
                             refine jald hx hb hK hP (jc_84 cI cL ad σ178 τ) (jin rfl (by omega) (by omega)) dX12_game_173 ?_
                             refine lv_topi (fun x180 ex180 => ?_)
                             refine lv_iconst (v := 1) hx hb dX12_game_174 (of_decide_eq_true rfl) ?_
                             refine lv_icmp_ne (tgt := 182) hx hb dX12_game_175 (of_decide_eq_true rfl) (fun c181 => ?_) (fun c181 => ?_)
                             · exact by
                                have kc181 := jne c181 rfl jz_1
                                refine lv_iconst (v := 0) hx hb dX12_game_182 (of_decide_eq_true rfl) ?_
                                have w182 : ∀ k : Nat, k < 4 → 0 ≤ (σ178 68 k).toInt ∧ (σ178 68 k).toInt ≤ 3 := (jrr_fr (jnp 68 eσ178 (of_decide_eq_true rfl)) (jrr_fr (jnp 68 eσ164 (of_decide_eq_true rfl)) w157))
                                have z183 : (σ178 55 6).toInt = (σ 55 6).toInt := (congrArg Int32.toInt (show σ178 55 6 = (σ 55 6) from ((congrFun (jnp 55 eσ178 (of_decide_eq_true rfl)) 6).trans ((congrFun (jnp 55 eσ164 (of_decide_eq_true rfl)) 6).trans ((congrFun (jnp 55 eσ152 (of_decide_eq_true rfl)) 6).trans ((f144 6 (of_decide_eq_true rfl)).trans ((f124 6 (of_decide_eq_true rfl)).trans ((f82 6 (of_decide_eq_true rfl)).trans ((jkp 6 eσ51 (of_decide_eq_true rfl)).trans ((f46 6 (of_decide_eq_true rfl)).trans (f25 6 (of_decide_eq_true rfl))))))))))))
                                have z184 : (σ178 55 27).toInt = (σ61 55 27).toInt := (congrArg Int32.toInt (show σ178 55 27 = (σ61 55 27) from ((congrFun (jnp 55 eσ178 (of_decide_eq_true rfl)) 27).trans ((congrFun (jnp 55 eσ164 (of_decide_eq_true rfl)) 27).trans ((congrFun (jnp 55 eσ152 (of_decide_eq_true rfl)) 27).trans ((f144 27 (of_decide_eq_true rfl)).trans (f124 27 (of_decide_eq_true rfl))))))))
                                have z185 : (σ178 55 25).toInt = (σ61 55 25).toInt := (congrArg Int32.toInt (show σ178 55 25 = (σ61 55 25) from ((congrFun (jnp 55 eσ178 (of_decide_eq_true rfl)) 25).trans ((congrFun (jnp 55 eσ164 (of_decide_eq_true rfl)) 25).trans ((congrFun (jnp 55 eσ152 (of_decide_eq_true rfl)) 25).trans ((f144 25 (of_decide_eq_true rfl)).trans m132))))))
                                have z186 : (σ178 55 26).toInt = (σ61 55 26).toInt := (congrArg Int32.toInt (show σ178 55 26 = (σ61 55 26) from ((congrFun (jnp 55 eσ178 (of_decide_eq_true rfl)) 26).trans ((congrFun (jnp 55 eσ164 (of_decide_eq_true rfl)) 26).trans ((congrFun (jnp 55 eσ152 (of_decide_eq_true rfl)) 26).trans ((f144 26 (of_decide_eq_true rfl)).trans (f124 26 (of_decide_eq_true rfl))))))))
                                have z187 : (σ178 68 0).toInt = (σ61 68 0).toInt := (congrArg Int32.toInt (show σ178 68 0 = (σ61 68 0) from ((congrFun (jnp 68 eσ178 (of_decide_eq_true rfl)) 0).trans ((congrFun (jnp 68 eσ164 (of_decide_eq_true rfl)) 0).trans ((congrFun (jnp 68 eσ152 (of_decide_eq_true rfl)) 0).trans ((congrFun (f143 68 (of_decide_eq_true rfl)) 0).trans (congrFun (f123 68 (of_decide_eq_true rfl)) 0)))))))
                                have z188 : (σ178 68 1).toInt = (σ61 68 1).toInt := (congrArg Int32.toInt (show σ178 68 1 = (σ61 68 1) from ((congrFun (jnp 68 eσ178 (of_decide_eq_true rfl)) 1).trans ((congrFun (jnp 68 eσ164 (of_decide_eq_true rfl)) 1).trans ((congrFun (jnp 68 eσ152 (of_decide_eq_true rfl)) 1).trans ((congrFun (f143 68 (of_decide_eq_true rfl)) 1).trans (congrFun (f123 68 (of_decide_eq_true rfl)) 1)))))))
                                have z189 : (σ178 68 2).toInt = (σ61 68 2).toInt := (congrArg Int32.toInt (show σ178 68 2 = (σ61 68 2) from ((congrFun (jnp 68 eσ178 (of_decide_eq_true rfl)) 2).trans ((congrFun (jnp 68 eσ164 (of_decide_eq_true rfl)) 2).trans ((congrFun (jnp 68 eσ152 (of_decide_eq_true rfl)) 2).trans ((congrFun (f143 68 (of_decide_eq_true rfl)) 2).trans (congrFun (f123 68 (of_decide_eq_true rfl)) 2)))))))
                                have z190 : (σ178 68 3).toInt = (σ61 68 3).toInt := (congrArg Int32.toInt (show σ178 68 3 = (σ61 68 3) from ((congrFun (jnp 68 eσ178 (of_decide_eq_true rfl)) 3).trans ((congrFun (jnp 68 eσ164 (of_decide_eq_true rfl)) 3).trans ((congrFun (jnp 68 eσ152 (of_decide_eq_true rfl)) 3).trans ((congrFun (f143 68 (of_decide_eq_true rfl)) 3).trans (congrFun (f123 68 (of_decide_eq_true rfl)) 3)))))))
                                exact by
                                 refine jcallV (As := [.int r122, .int 0]) (rest := []) ⟨hx, hb, hml, hown, hts⟩ hK hP hA hS hZ (c_X12_goes_0 l D cI cL ad zz hJ σ178 τ r122 (r122.toInt) rfl w182 (by omega) (by omega) (by omega) (by omega) (by omega)) cw_RX12_296 (jc_55 cI cL ad σ178 τ) rfl ⟨Nat.le_of_ble_eq_true rfl, Nat.le_of_ble_eq_true rfl⟩ rfl rfl rfl hl.1 rfl (Nat.le_of_ble_eq_true rfl) dX12_game_183 ⟨Nat.zero_le _, Nat.zero_le _⟩ (fun r192 σ191 τ191 H locs h191 hP hS => ?_)
                                 obtain ⟨rfl, f193, f194, w195, w196, w197, w198, h191⟩ := h191
                                 obtain ⟨k200, k201, k202, h191⟩ := h191
                                 have h203 := h191
                                 obtain ⟨q209, k204, k205, k206, k207, k208⟩ := h203
                                 refine lv_istore (lv' := [(9, .int r192), (3, .int x173), (4, .int x169), (8, .int r142), (7, .int x135), (6, .int r122), (5, .int x56), (0, .ref (ad 55)), (1, .int a1), (2, .int a2)]) hx hb dX12_game_186 hl (of_decide_eq_true rfl) rfl (fun ls hl => ?_)
                                 refine lv_iload_n hx hb dX12_game_188 rfl (lv_at hl 1 rfl) ?_
                                 refine lv_ldcw (v := 1103515245) hx hb hown (hts _ kw_46_14) dX12_game_189 ?_
                                 have g210 := jrg (rfl : x173.toInt = x173.toInt)
                                 refine lv_imul hx hb dX12_game_192 ?_
                                 refine lv_topi (fun x211 ex211 => ?_)
                                 have gx211 := jrg (rfl : x211.toInt = x211.toInt)
                                 refine lv_sipush (v := 12345) hx hb dX12_game_193 (of_decide_eq_true rfl) ?_
                                 have g212 := jrg (rfl : x211.toInt = x211.toInt)
                                 refine lv_iadd hx hb dX12_game_196 ?_
                                 refine lv_topi (fun x213 ex213 => ?_)
                                 have gx213 := jrg (rfl : x213.toInt = x213.toInt)
                                 refine lv_istore_n (lv' := [(3, .int x213), (9, .int r192), (4, .int x169), (8, .int r142), (7, .int x135), (6, .int r122), (5, .int x56), (0, .ref (ad 55)), (1, .int a1), (2, .int a2)]) hx hb dX12_game_197 rfl hl (of_decide_eq_true rfl) rfl (fun ls hl => ?_)
                                 refine lv_iload_n hx hb dX12_game_198 rfl (lv_at hl 0 rfl) ?_
                                 refine lv_bipush (v := 8) hx hb dX12_game_199 (of_decide_eq_true rfl) ?_
                                 refine lv_iushr hx hb dX12_game_201 rfl ?_
                                 refine lv_topi (fun x214 ex214 => ?_)
                                 have gx214 := jrg (rfl : x214.toInt = x214.toInt)
                                 have g215 : 0 ≤ x214.toInt ∧ x214.toInt ≤ 16777215 := jushr8 ex214
                                 refine lv_sipush (v := 1000) hx hb dX12_game_202 (of_decide_eq_true rfl) ?_
                                 refine lv_irem hx hb dX12_game_205 (of_decide_eq_true rfl) ?_
                                 refine lv_topi (fun x216 ex216 => ?_)
                                 exact by
                                  have tx216 : x216.toInt = (x214.toInt % 1000) := jrem ex216 rfl jz_1000 (by omega)
                                  refine lv_aload_n hx hb dX12_game_206 rfl (lv_at hl 7 rfl) ?_
                                  refine va_get (D := D) hx hb hts inlX12 hown hK hP 55 (jc_55 cI cL ad σ191 τ) rfl 13 (of_decide_eq_true rfl) (hts _ kw_15_14) (fun _ h9 => h9) rfl dX12_game_207 ?_
                                  have m217 : σ191 55 13 = (σ 55 13) := ((f194 13 (of_decide_eq_true rfl)).trans ((congrFun (jnp 55 eσ178 (of_decide_eq_true rfl)) 13).trans ((congrFun (jnp 55 eσ164 (of_decide_eq_true rfl)) 13).trans ((congrFun (jnp 55 eσ152 (of_decide_eq_true rfl)) 13).trans ((f144 13 (of_decide_eq_true rfl)).trans ((f124 13 (of_decide_eq_true rfl)).trans ((f82 13 (of_decide_eq_true rfl)).trans ((jkp 13 eσ51 (of_decide_eq_true rfl)).trans ((f46 13 (of_decide_eq_true rfl)).trans (f25 13 (of_decide_eq_true rfl)))))))))))
                                  refine jtopr m217 ?_
                                  refine lv_icmp_ge (tgt := 217) hx hb dX12_game_210 (of_decide_eq_true rfl) (fun c218 => ?_) (fun c218 => ?_)
                                  · have kc218 := jle c218 rfl tx216
                                    refine lv_iconst (v := 0) hx hb dX12_game_217 (of_decide_eq_true rfl) ?_
                                    refine lv_istore (lv' := [(5, .int 0), (3, .int x213), (9, .int r192), (4, .int x169), (8, .int r142), (7, .int x135), (6, .int r122), (0, .ref (ad 55)), (1, .int a1), (2, .int a2)]) hx hb dX12_game_218 hl (of_decide_eq_true rfl) rfl (fun ls hl => ?_)
                                    refine lv_aload_n hx hb dX12_game_220 rfl (lv_at hl 7 rfl) ?_
                                    refine lv_dup hx hb dX12_game_221 rfl ?_
                                    refine va_get (D := D) hx hb hts inlX12 hown hK hP 55 (jc_55 cI cL ad σ191 τ) rfl 50 (of_decide_eq_true rfl) (hts _ kw_46_13) (fun _ h9 => h9) rfl dX12_game_222 ?_
                                    have m219 : σ191 55 50 = (σ61 55 50) := ((f194 50 (of_decide_eq_true rfl)).trans m179)
                                    refine jtopr m219 ?_
                                    refine lv_iconst (v := 1) hx hb dX12_game_225 (of_decide_eq_true rfl) ?_
                                    have g220 := jrg (rfl : (σ61 55 50).toInt = (σ61 55 50).toInt)
                                    refine lv_iadd hx hb dX12_game_226 ?_
                                    refine lv_topi (fun x221 ex221 => ?_)
                                    exact by
                                     have tx221 : x221.toInt = (σ61 55 50).toInt + 1 := (jadd ex221 rfl jz_1 (by omega) (by omega)).trans (by omega)
                                     refine jput (ty := .int) hx hb hts inlX12 tyX12 tyX12_ok nmX12 hown hK hP hJ hA hS (jc_55 cI cL ad σ191 τ) rfl (k := 50) (of_decide_eq_true rfl) (Nat.le_of_ble_eq_true rfl) (jp_55_50 cI cL ad σ191 τ x221) (hts _ kw_46_13) (fun _ h9 => h9) rfl (by decide +kernel) rfl rfl dX12_game_227 (fun σ222 H locs eσ222 hP hS => ?_)
                                     refine lv_goto (tgt := 43) hx hb dX12_game_230 (of_decide_eq_true rfl) ?_
                                     have z223 : (σ222 55 12).toInt = (σ 55 12).toInt := (congrArg Int32.toInt (show σ222 55 12 = (σ 55 12) from ((jkp 12 eσ222 (of_decide_eq_true rfl)).trans ((f194 12 (of_decide_eq_true rfl)).trans ((congrFun (jnp 55 eσ178 (of_decide_eq_true rfl)) 12).trans ((congrFun (jnp 55 eσ164 (of_decide_eq_true rfl)) 12).trans ((congrFun (jnp 55 eσ152 (of_decide_eq_true rfl)) 12).trans ((f144 12 (of_decide_eq_true rfl)).trans ((f124 12 (of_decide_eq_true rfl)).trans ((f82 12 (of_decide_eq_true rfl)).trans ((jkp 12 eσ51 (of_decide_eq_true rfl)).trans ((f46 12 (of_decide_eq_true rfl)).trans (f25 12 (of_decide_eq_true rfl))))))))))))))
                                     have z224 : (σ222 55 26).toInt = (σ191 55 26).toInt := (congrArg Int32.toInt (show σ222 55 26 = (σ191 55 26) from (jkp 26 eσ222 (of_decide_eq_true rfl))))
                                     have z225 : (σ222 55 25).toInt = (σ191 55 25).toInt := (congrArg Int32.toInt (show σ222 55 25 = (σ191 55 25) from (jkp 25 eσ222 (of_decide_eq_true rfl))))
                                     have z226 : (σ222 55 10).toInt = (σ 55 10).toInt := (congrArg Int32.toInt (show σ222 55 10 = (σ 55 10) from ((jkp 10 eσ222 (of_decide_eq_true rfl)).trans ((f194 10 (of_decide_eq_true rfl)).trans ((congrFun (jnp 55 eσ178 (of_decide_eq_true rfl)) 10).trans ((congrFun (jnp 55 eσ164 (of_decide_eq_true rfl)) 10).trans ((congrFun (jnp 55 eσ152 (of_decide_eq_true rfl)) 10).trans ((f144 10 (of_decide_eq_true rfl)).trans ((f124 10 (of_decide_eq_true rfl)).trans ((f82 10 (of_decide_eq_true rfl)).trans ((jkp 10 eσ51 (of_decide_eq_true rfl)).trans ((f46 10 (of_decide_eq_true rfl)).trans (f25 10 (of_decide_eq_true rfl))))))))))))))
                                     have z227 : (σ222 55 27).toInt = (σ191 55 27).toInt := (congrArg Int32.toInt (show σ222 55 27 = (σ191 55 27) from (jkp 27 eσ222 (of_decide_eq_true rfl))))
                                     have z228 : (σ222 55 50).toInt = (σ61 55 50).toInt + 1 := ((congrArg Int32.toInt (show σ222 55 50 = x221 from (jsp eσ222))).trans tx221)
                                     have p229 : jKept σ222 := jKept.fr ((jnp 75 eσ222 (of_decide_eq_true rfl)).trans ((f193 75 (of_decide_eq_true rfl)).trans ((jnp 75 eσ178 (of_decide_eq_true rfl)).trans ((jnp 75 eσ164 (of_decide_eq_true rfl)).trans ((jnp 75 eσ152 (of_decide_eq_true rfl)).trans (f143 75 (of_decide_eq_true rfl))))))) ((jnp 76 eσ222 (of_decide_eq_true rfl)).trans ((f193 76 (of_decide_eq_true rfl)).trans ((jnp 76 eσ178 (of_decide_eq_true rfl)).trans ((jnp 76 eσ164 (of_decide_eq_true rfl)).trans ((jnp 76 eσ152 (of_decide_eq_true rfl)).trans (f143 76 (of_decide_eq_true rfl))))))) ((jnp 77 eσ222 (of_decide_eq_true rfl)).trans ((f193 77 (of_decide_eq_true rfl)).trans ((jnp 77 eσ178 (of_decide_eq_true rfl)).trans ((jnp 77 eσ164 (of_decide_eq_true rfl)).trans ((jnp 77 eσ152 (of_decide_eq_true rfl)).trans (f143 77 (of_decide_eq_true rfl))))))) p125
                                     have p230 : jqSt σ222 := jqSt.fr ((jnp 78 eσ222 (of_decide_eq_true rfl)).trans ((f193 78 (of_decide_eq_true rfl)).trans ((jnp 78 eσ178 (of_decide_eq_true rfl)).trans ((jnp 78 eσ164 (of_decide_eq_true rfl)).trans ((jnp 78 eσ152 (of_decide_eq_true rfl)).trans (f143 78 (of_decide_eq_true rfl))))))) ((jkp 42 eσ222 (of_decide_eq_true rfl)).trans ((f194 42 (of_decide_eq_true rfl)).trans ((congrFun (jnp 55 eσ178 (of_decide_eq_true rfl)) 42).trans ((congrFun (jnp 55 eσ164 (of_decide_eq_true rfl)) 42).trans ((congrFun (jnp 55 eσ152 (of_decide_eq_true rfl)) 42).trans (f144 42 (of_decide_eq_true rfl))))))) p127
                                     have I231 : jI109 σ222 := (show 0 ≤ (σ222 55 50).toInt ∧ (σ222 55 50).toInt ≤ 12 by omega)
                                     have w232 : ∀ k : Nat, k < 4 → 0 ≤ (σ222 68 k).toInt ∧ (σ222 68 k).toInt ≤ 3 := (jrr_fr (jnp 68 eσ222 (of_decide_eq_true rfl)) w195)
                                     have I233 : jI119 σ222 := w232
                                     exact by exact ihlp52 x213 x169 0 σ222 _ _ ls (by have h92 := jz_0; omega) (by have h92 := jz_0; omega) (by have h92 := jz_0; omega) (by have h92 := jz_0; omega) (by have h92 := jz_0; omega) (by have h92 := jz_0; omega) (by have h92 := jz_0; omega) (fun i hi => ((jnp i eσ222 (imp_282 i hi)).trans ((f193 i (imp_284 i hi)).trans ((jnp i eσ178 (imp_289 i hi)).trans ((jnp i eσ164 (imp_290 i hi)).trans ((jnp i eσ152 (imp_291 i hi)).trans ((f143 i (imp_292 i hi)).trans ((f123 i (imp_293 i hi)).trans (f81 i hi))))))))) (fun i hi => ((jkp i eσ222 (imp_294 i hi)).trans ((f194 i (imp_295 i hi)).trans ((congrFun (jnp 55 eσ178 (of_decide_eq_true rfl)) i).trans ((congrFun (jnp 55 eσ164 (of_decide_eq_true rfl)) i).trans ((congrFun (jnp 55 eσ152 (of_decide_eq_true rfl)) i).trans ((f144 i (imp_296 i hi)).trans ((f124 i (imp_297 i hi)).trans (f82 i hi)))))))))  p229 p230 I231 I233 hP hS (lv_sub hl [0, 3, 1, 7, 8, 9] rfl)
                                  · have kc218 := jnle c218 rfl tx216
                                    refine lv_iconst (v := 1) hx hb dX12_game_213 (of_decide_eq_true rfl) ?_
                                    refine lv_goto (tgt := 218) hx hb dX12_game_214 (of_decide_eq_true rfl) ?_
                                    refine lv_istore (lv' := [(5, .int 1), (3, .int x213), (9, .int r192), (4, .int x169), (8, .int r142), (7, .int x135), (6, .int r122), (0, .ref (ad 55)), (1, .int a1), (2, .int a2)]) hx hb dX12_game_218 hl (of_decide_eq_true rfl) rfl (fun ls hl => ?_)
                                    refine lv_aload_n hx hb dX12_game_220 rfl (lv_at hl 7 rfl) ?_
                                    refine lv_dup hx hb dX12_game_221 rfl ?_
                                    refine va_get (D := D) hx hb hts inlX12 hown hK hP 55 (jc_55 cI cL ad σ191 τ) rfl 50 (of_decide_eq_true rfl) (hts _ kw_46_13) (fun _ h9 => h9) rfl dX12_game_222 ?_
                                    have m234 : σ191 55 50 = (σ61 55 50) := ((f194 50 (of_decide_eq_true rfl)).trans m179)
                                    refine jtopr m234 ?_
                                    refine lv_iconst (v := 1) hx hb dX12_game_225 (of_decide_eq_true rfl) ?_
                                    have g235 := jrg (rfl : (σ61 55 50).toInt = (σ61 55 50).toInt)
                                    refine lv_iadd hx hb dX12_game_226 ?_
                                    refine lv_topi (fun x236 ex236 => ?_)
                                    exact by
                                     have tx236 : x236.toInt = (σ61 55 50).toInt + 1 := (jadd ex236 rfl jz_1 (by omega) (by omega)).trans (by omega)
                                     refine jput (ty := .int) hx hb hts inlX12 tyX12 tyX12_ok nmX12 hown hK hP hJ hA hS (jc_55 cI cL ad σ191 τ) rfl (k := 50) (of_decide_eq_true rfl) (Nat.le_of_ble_eq_true rfl) (jp_55_50 cI cL ad σ191 τ x236) (hts _ kw_46_13) (fun _ h9 => h9) rfl (by decide +kernel) rfl rfl dX12_game_227 (fun σ237 H locs eσ237 hP hS => ?_)
                                     refine lv_goto (tgt := 43) hx hb dX12_game_230 (of_decide_eq_true rfl) ?_
                                     have z238 : (σ237 55 12).toInt = (σ 55 12).toInt := (congrArg Int32.toInt (show σ237 55 12 = (σ 55 12) from ((jkp 12 eσ237 (of_decide_eq_true rfl)).trans ((f194 12 (of_decide_eq_true rfl)).trans ((congrFun (jnp 55 eσ178 (of_decide_eq_true rfl)) 12).trans ((congrFun (jnp 55 eσ164 (of_decide_eq_true rfl)) 12).trans ((congrFun (jnp 55 eσ152 (of_decide_eq_true rfl)) 12).trans ((f144 12 (of_decide_eq_true rfl)).trans ((f124 12 (of_decide_eq_true rfl)).trans ((f82 12 (of_decide_eq_true rfl)).trans ((jkp 12 eσ51 (of_decide_eq_true rfl)).trans ((f46 12 (of_decide_eq_true rfl)).trans (f25 12 (of_decide_eq_true rfl))))))))))))))
                                     have z239 : (σ237 55 26).toInt = (σ191 55 26).toInt := (congrArg Int32.toInt (show σ237 55 26 = (σ191 55 26) from (jkp 26 eσ237 (of_decide_eq_true rfl))))
                                     have z240 : (σ237 55 25).toInt = (σ191 55 25).toInt := (congrArg Int32.toInt (show σ237 55 25 = (σ191 55 25) from (jkp 25 eσ237 (of_decide_eq_true rfl))))
                                     have z241 : (σ237 55 10).toInt = (σ 55 10).toInt := (congrArg Int32.toInt (show σ237 55 10 = (σ 55 10) from ((jkp 10 eσ237 (of_decide_eq_true rfl)).trans ((f194 10 (of_decide_eq_true rfl)).trans ((congrFun (jnp 55 eσ178 (of_decide_eq_true rfl)) 10).trans ((congrFun (jnp 55 eσ164 (of_decide_eq_true rfl)) 10).trans ((congrFun (jnp 55 eσ152 (of_decide_eq_true rfl)) 10).trans ((f144 10 (of_decide_eq_true rfl)).trans ((f124 10 (of_decide_eq_true rfl)).trans ((f82 10 (of_decide_eq_true rfl)).trans ((jkp 10 eσ51 (of_decide_eq_true rfl)).trans ((f46 10 (of_decide_eq_true rfl)).trans (f25 10 (of_decide_eq_true rfl))))))))))))))
                                     have z242 : (σ237 55 27).toInt = (σ191 55 27).toInt := (congrArg Int32.toInt (show σ237 55 27 = (σ191 55 27) from (jkp 27 eσ237 (of_decide_eq_true rfl))))
                                     have z243 : (σ237 55 50).toInt = (σ61 55 50).toInt + 1 := ((congrArg Int32.toInt (show σ237 55 50 = x236 from (jsp eσ237))).trans tx236)
                                     have p244 : jKept σ237 := jKept.fr ((jnp 75 eσ237 (of_decide_eq_true rfl)).trans ((f193 75 (of_decide_eq_true rfl)).trans ((jnp 75 eσ178 (of_decide_eq_true rfl)).trans ((jnp 75 eσ164 (of_decide_eq_true rfl)).trans ((jnp 75 eσ152 (of_decide_eq_true rfl)).trans (f143 75 (of_decide_eq_true rfl))))))) ((jnp 76 eσ237 (of_decide_eq_true rfl)).trans ((f193 76 (of_decide_eq_true rfl)).trans ((jnp 76 eσ178 (of_decide_eq_true rfl)).trans ((jnp 76 eσ164 (of_decide_eq_true rfl)).trans ((jnp 76 eσ152 (of_decide_eq_true rfl)).trans (f143 76 (of_decide_eq_true rfl))))))) ((jnp 77 eσ237 (of_decide_eq_true rfl)).trans ((f193 77 (of_decide_eq_true rfl)).trans ((jnp 77 eσ178 (of_decide_eq_true rfl)).trans ((jnp 77 eσ164 (of_decide_eq_true rfl)).trans ((jnp 77 eσ152 (of_decide_eq_true rfl)).trans (f143 77 (of_decide_eq_true rfl))))))) p125
                                     have p245 : jqSt σ237 := jqSt.fr ((jnp 78 eσ237 (of_decide_eq_true rfl)).trans ((f193 78 (of_decide_eq_true rfl)).trans ((jnp 78 eσ178 (of_decide_eq_true rfl)).trans ((jnp 78 eσ164 (of_decide_eq_true rfl)).trans ((jnp 78 eσ152 (of_decide_eq_true rfl)).trans (f143 78 (of_decide_eq_true rfl))))))) ((jkp 42 eσ237 (of_decide_eq_true rfl)).trans ((f194 42 (of_decide_eq_true rfl)).trans ((congrFun (jnp 55 eσ178 (of_decide_eq_true rfl)) 42).trans ((congrFun (jnp 55 eσ164 (of_decide_eq_true rfl)) 42).trans ((congrFun (jnp 55 eσ152 (of_decide_eq_true rfl)) 42).trans (f144 42 (of_decide_eq_true rfl))))))) p127
                                     have I246 : jI109 σ237 := (show 0 ≤ (σ237 55 50).toInt ∧ (σ237 55 50).toInt ≤ 12 by omega)
                                     have w247 : ∀ k : Nat, k < 4 → 0 ≤ (σ237 68 k).toInt ∧ (σ237 68 k).toInt ≤ 3 := (jrr_fr (jnp 68 eσ237 (of_decide_eq_true rfl)) w195)
                                     have I248 : jI119 σ237 := w247
                                     exact by exact ihlp52 x213 x169 1 σ237 _ _ ls (by have h92 := jz_1; omega) (by have h92 := jz_1; omega) (by have h92 := jz_1; omega) (by have h92 := jz_1; omega) (by have h92 := jz_1; omega) (by have h92 := jz_1; omega) (by have h92 := jz_1; omega) (fun i hi => ((jnp i eσ237 (imp_282 i hi)).trans ((f193 i (imp_284 i hi)).trans ((jnp i eσ178 (imp_289 i hi)).trans ((jnp i eσ164 (imp_290 i hi)).trans ((jnp i eσ152 (imp_291 i hi)).trans ((f143 i (imp_292 i hi)).trans ((f123 i (imp_293 i hi)).trans (f81 i hi))))))))) (fun i hi => ((jkp i eσ237 (imp_294 i hi)).trans ((f194 i (imp_295 i hi)).trans ((congrFun (jnp 55 eσ178 (of_decide_eq_true rfl)) i).trans ((congrFun (jnp 55 eσ164 (of_decide_eq_true rfl)) i).trans ((congrFun (jnp 55 eσ152 (of_decide_eq_true rfl)) i).trans ((f144 i (imp_296 i hi)).trans ((f124 i (imp_297 i hi)).trans (f82 i hi)))))))))  p244 p245 I246 I248 hP hS (lv_sub hl [0, 3, 1, 7, 8, 9] rfl)
                             · have kc181 := jeq c181 rfl jz_1
                               refine lv_iconst (v := 1) hx hb dX12_game_178 (of_decide_eq_true rfl) ?_
                               refine lv_goto (tgt := 183) hx hb dX12_game_179 (of_decide_eq_true rfl) ?_
                               have w249 : ∀ k : Nat, k < 4 → 0 ≤ (σ178 68 k).toInt ∧ (σ178 68 k).toInt ≤ 3 := (jrr_fr (jnp 68 eσ178 (of_decide_eq_true rfl)) (jrr_fr (jnp 68 eσ164 (of_decide_eq_true rfl)) w157))
                               have z250 : (σ178 55 6).toInt = (σ 55 6).toInt := (congrArg Int32.toInt (show σ178 55 6 = (σ 55 6) from ((congrFun (jnp 55 eσ178 (of_decide_eq_true rfl)) 6).trans ((congrFun (jnp 55 eσ164 (of_decide_eq_true rfl)) 6).trans ((congrFun (jnp 55 eσ152 (of_decide_eq_true rfl)) 6).trans ((f144 6 (of_decide_eq_true rfl)).trans ((f124 6 (of_decide_eq_true rfl)).trans ((f82 6 (of_decide_eq_true rfl)).trans ((jkp 6 eσ51 (of_decide_eq_true rfl)).trans ((f46 6 (of_decide_eq_true rfl)).trans (f25 6 (of_decide_eq_true rfl))))))))))))
                               have z251 : (σ178 55 27).toInt = (σ61 55 27).toInt := (congrArg Int32.toInt (show σ178 55 27 = (σ61 55 27) from ((congrFun (jnp 55 eσ178 (of_decide_eq_true rfl)) 27).trans ((congrFun (jnp 55 eσ164 (of_decide_eq_true rfl)) 27).trans ((congrFun (jnp 55 eσ152 (of_decide_eq_true rfl)) 27).trans ((f144 27 (of_decide_eq_true rfl)).trans (f124 27 (of_decide_eq_true rfl))))))))
                               have z252 : (σ178 55 25).toInt = (σ61 55 25).toInt := (congrArg Int32.toInt (show σ178 55 25 = (σ61 55 25) from ((congrFun (jnp 55 eσ178 (of_decide_eq_true rfl)) 25).trans ((congrFun (jnp 55 eσ164 (of_decide_eq_true rfl)) 25).trans ((congrFun (jnp 55 eσ152 (of_decide_eq_true rfl)) 25).trans ((f144 25 (of_decide_eq_true rfl)).trans m132))))))
                               have z253 : (σ178 55 26).toInt = (σ61 55 26).toInt := (congrArg Int32.toInt (show σ178 55 26 = (σ61 55 26) from ((congrFun (jnp 55 eσ178 (of_decide_eq_true rfl)) 26).trans ((congrFun (jnp 55 eσ164 (of_decide_eq_true rfl)) 26).trans ((congrFun (jnp 55 eσ152 (of_decide_eq_true rfl)) 26).trans ((f144 26 (of_decide_eq_true rfl)).trans (f124 26 (of_decide_eq_true rfl))))))))
                               have z254 : (σ178 68 0).toInt = (σ61 68 0).toInt := (congrArg Int32.toInt (show σ178 68 0 = (σ61 68 0) from ((congrFun (jnp 68 eσ178 (of_decide_eq_true rfl)) 0).trans ((congrFun (jnp 68 eσ164 (of_decide_eq_true rfl)) 0).trans ((congrFun (jnp 68 eσ152 (of_decide_eq_true rfl)) 0).trans ((congrFun (f143 68 (of_decide_eq_true rfl)) 0).trans (congrFun (f123 68 (of_decide_eq_true rfl)) 0)))))))
                               have z255 : (σ178 68 1).toInt = (σ61 68 1).toInt := (congrArg Int32.toInt (show σ178 68 1 = (σ61 68 1) from ((congrFun (jnp 68 eσ178 (of_decide_eq_true rfl)) 1).trans ((congrFun (jnp 68 eσ164 (of_decide_eq_true rfl)) 1).trans ((congrFun (jnp 68 eσ152 (of_decide_eq_true rfl)) 1).trans ((congrFun (f143 68 (of_decide_eq_true rfl)) 1).trans (congrFun (f123 68 (of_decide_eq_true rfl)) 1)))))))
                               have z256 : (σ178 68 2).toInt = (σ61 68 2).toInt := (congrArg Int32.toInt (show σ178 68 2 = (σ61 68 2) from ((congrFun (jnp 68 eσ178 (of_decide_eq_true rfl)) 2).trans ((congrFun (jnp 68 eσ164 (of_decide_eq_true rfl)) 2).trans ((congrFun (jnp 68 eσ152 (of_decide_eq_true rfl)) 2).trans ((congrFun (f143 68 (of_decide_eq_true rfl)) 2).trans (congrFun (f123 68 (of_decide_eq_true rfl)) 2)))))))
                               have z257 : (σ178 68 3).toInt = (σ61 68 3).toInt := (congrArg Int32.toInt (show σ178 68 3 = (σ61 68 3) from ((congrFun (jnp 68 eσ178 (of_decide_eq_true rfl)) 3).trans ((congrFun (jnp 68 eσ164 (of_decide_eq_true rfl)) 3).trans ((congrFun (jnp 68 eσ152 (of_decide_eq_true rfl)) 3).trans ((congrFun (f143 68 (of_decide_eq_true rfl)) 3).trans (congrFun (f123 68 (of_decide_eq_true rfl)) 3)))))))
                               exact by
                                refine jcallV (As := [.int r122, .int 1]) (rest := []) ⟨hx, hb, hml, hown, hts⟩ hK hP hA hS hZ (c_X12_goes_1 l D cI cL ad zz hJ σ178 τ r122 (r122.toInt) rfl w249 (by omega) (by omega) (by omega) (by omega) (by omega)) cw_RX12_296 (jc_55 cI cL ad σ178 τ) rfl ⟨Nat.le_of_ble_eq_true rfl, Nat.le_of_ble_eq_true rfl⟩ rfl rfl rfl hl.1 rfl (Nat.le_of_ble_eq_true rfl) dX12_game_183 ⟨Nat.zero_le _, Nat.zero_le _⟩ (fun r259 σ258 τ258 H locs h258 hP hS => ?_)
                                obtain ⟨rfl, f260, f261, w262, w263, w264, w265, h258⟩ := h258
                                obtain ⟨k267, k268, k269, h258⟩ := h258
                                have h270 := h258
                                obtain ⟨q276, k271, k272, k273, k274, k275⟩ := h270
                                refine lv_istore (lv' := [(9, .int r259), (3, .int x173), (4, .int x169), (8, .int r142), (7, .int x135), (6, .int r122), (5, .int x56), (0, .ref (ad 55)), (1, .int a1), (2, .int a2)]) hx hb dX12_game_186 hl (of_decide_eq_true rfl) rfl (fun ls hl => ?_)
                                refine lv_iload_n hx hb dX12_game_188 rfl (lv_at hl 1 rfl) ?_
                                refine lv_ldcw (v := 1103515245) hx hb hown (hts _ kw_46_14) dX12_game_189 ?_
                                have g277 := jrg (rfl : x173.toInt = x173.toInt)
                                refine lv_imul hx hb dX12_game_192 ?_
                                refine lv_topi (fun x278 ex278 => ?_)
                                have gx278 := jrg (rfl : x278.toInt = x278.toInt)
                                refine lv_sipush (v := 12345) hx hb dX12_game_193 (of_decide_eq_true rfl) ?_
                                have g279 := jrg (rfl : x278.toInt = x278.toInt)
                                refine lv_iadd hx hb dX12_game_196 ?_
                                refine lv_topi (fun x280 ex280 => ?_)
                                have gx280 := jrg (rfl : x280.toInt = x280.toInt)
                                refine lv_istore_n (lv' := [(3, .int x280), (9, .int r259), (4, .int x169), (8, .int r142), (7, .int x135), (6, .int r122), (5, .int x56), (0, .ref (ad 55)), (1, .int a1), (2, .int a2)]) hx hb dX12_game_197 rfl hl (of_decide_eq_true rfl) rfl (fun ls hl => ?_)
                                refine lv_iload_n hx hb dX12_game_198 rfl (lv_at hl 0 rfl) ?_
                                refine lv_bipush (v := 8) hx hb dX12_game_199 (of_decide_eq_true rfl) ?_
                                refine lv_iushr hx hb dX12_game_201 rfl ?_
                                refine lv_topi (fun x281 ex281 => ?_)
                                have gx281 := jrg (rfl : x281.toInt = x281.toInt)
                                have g282 : 0 ≤ x281.toInt ∧ x281.toInt ≤ 16777215 := jushr8 ex281
                                refine lv_sipush (v := 1000) hx hb dX12_game_202 (of_decide_eq_true rfl) ?_
                                refine lv_irem hx hb dX12_game_205 (of_decide_eq_true rfl) ?_
                                refine lv_topi (fun x283 ex283 => ?_)
                                exact by
                                 have tx283 : x283.toInt = (x281.toInt % 1000) := jrem ex283 rfl jz_1000 (by omega)
                                 refine lv_aload_n hx hb dX12_game_206 rfl (lv_at hl 7 rfl) ?_
                                 refine va_get (D := D) hx hb hts inlX12 hown hK hP 55 (jc_55 cI cL ad σ258 τ) rfl 13 (of_decide_eq_true rfl) (hts _ kw_15_14) (fun _ h9 => h9) rfl dX12_game_207 ?_
                                 have m284 : σ258 55 13 = (σ 55 13) := ((f261 13 (of_decide_eq_true rfl)).trans ((congrFun (jnp 55 eσ178 (of_decide_eq_true rfl)) 13).trans ((congrFun (jnp 55 eσ164 (of_decide_eq_true rfl)) 13).trans ((congrFun (jnp 55 eσ152 (of_decide_eq_true rfl)) 13).trans ((f144 13 (of_decide_eq_true rfl)).trans ((f124 13 (of_decide_eq_true rfl)).trans ((f82 13 (of_decide_eq_true rfl)).trans ((jkp 13 eσ51 (of_decide_eq_true rfl)).trans ((f46 13 (of_decide_eq_true rfl)).trans (f25 13 (of_decide_eq_true rfl)))))))))))
                                 refine jtopr m284 ?_
                                 refine lv_icmp_ge (tgt := 217) hx hb dX12_game_210 (of_decide_eq_true rfl) (fun c285 => ?_) (fun c285 => ?_)
                                 · have kc285 := jle c285 rfl tx283
                                   refine lv_iconst (v := 0) hx hb dX12_game_217 (of_decide_eq_true rfl) ?_
                                   refine lv_istore (lv' := [(5, .int 0), (3, .int x280), (9, .int r259), (4, .int x169), (8, .int r142), (7, .int x135), (6, .int r122), (0, .ref (ad 55)), (1, .int a1), (2, .int a2)]) hx hb dX12_game_218 hl (of_decide_eq_true rfl) rfl (fun ls hl => ?_)
                                   refine lv_aload_n hx hb dX12_game_220 rfl (lv_at hl 7 rfl) ?_
                                   refine lv_dup hx hb dX12_game_221 rfl ?_
                                   refine va_get (D := D) hx hb hts inlX12 hown hK hP 55 (jc_55 cI cL ad σ258 τ) rfl 50 (of_decide_eq_true rfl) (hts _ kw_46_13) (fun _ h9 => h9) rfl dX12_game_222 ?_
                                   have m286 : σ258 55 50 = (σ61 55 50) := ((f261 50 (of_decide_eq_true rfl)).trans m179)
                                   refine jtopr m286 ?_
                                   refine lv_iconst (v := 1) hx hb dX12_game_225 (of_decide_eq_true rfl) ?_
                                   have g287 := jrg (rfl : (σ61 55 50).toInt = (σ61 55 50).toInt)
                                   refine lv_iadd hx hb dX12_game_226 ?_
                                   refine lv_topi (fun x288 ex288 => ?_)
                                   exact by
                                    have tx288 : x288.toInt = (σ61 55 50).toInt + 1 := (jadd ex288 rfl jz_1 (by omega) (by omega)).trans (by omega)
                                    refine jput (ty := .int) hx hb hts inlX12 tyX12 tyX12_ok nmX12 hown hK hP hJ hA hS (jc_55 cI cL ad σ258 τ) rfl (k := 50) (of_decide_eq_true rfl) (Nat.le_of_ble_eq_true rfl) (jp_55_50 cI cL ad σ258 τ x288) (hts _ kw_46_13) (fun _ h9 => h9) rfl (by decide +kernel) rfl rfl dX12_game_227 (fun σ289 H locs eσ289 hP hS => ?_)
                                    refine lv_goto (tgt := 43) hx hb dX12_game_230 (of_decide_eq_true rfl) ?_
                                    have z290 : (σ289 55 12).toInt = (σ 55 12).toInt := (congrArg Int32.toInt (show σ289 55 12 = (σ 55 12) from ((jkp 12 eσ289 (of_decide_eq_true rfl)).trans ((f261 12 (of_decide_eq_true rfl)).trans ((congrFun (jnp 55 eσ178 (of_decide_eq_true rfl)) 12).trans ((congrFun (jnp 55 eσ164 (of_decide_eq_true rfl)) 12).trans ((congrFun (jnp 55 eσ152 (of_decide_eq_true rfl)) 12).trans ((f144 12 (of_decide_eq_true rfl)).trans ((f124 12 (of_decide_eq_true rfl)).trans ((f82 12 (of_decide_eq_true rfl)).trans ((jkp 12 eσ51 (of_decide_eq_true rfl)).trans ((f46 12 (of_decide_eq_true rfl)).trans (f25 12 (of_decide_eq_true rfl))))))))))))))
                                    have z291 : (σ289 55 26).toInt = (σ258 55 26).toInt := (congrArg Int32.toInt (show σ289 55 26 = (σ258 55 26) from (jkp 26 eσ289 (of_decide_eq_true rfl))))
                                    have z292 : (σ289 55 25).toInt = (σ258 55 25).toInt := (congrArg Int32.toInt (show σ289 55 25 = (σ258 55 25) from (jkp 25 eσ289 (of_decide_eq_true rfl))))
                                    have z293 : (σ289 55 10).toInt = (σ 55 10).toInt := (congrArg Int32.toInt (show σ289 55 10 = (σ 55 10) from ((jkp 10 eσ289 (of_decide_eq_true rfl)).trans ((f261 10 (of_decide_eq_true rfl)).trans ((congrFun (jnp 55 eσ178 (of_decide_eq_true rfl)) 10).trans ((congrFun (jnp 55 eσ164 (of_decide_eq_true rfl)) 10).trans ((congrFun (jnp 55 eσ152 (of_decide_eq_true rfl)) 10).trans ((f144 10 (of_decide_eq_true rfl)).trans ((f124 10 (of_decide_eq_true rfl)).trans ((f82 10 (of_decide_eq_true rfl)).trans ((jkp 10 eσ51 (of_decide_eq_true rfl)).trans ((f46 10 (of_decide_eq_true rfl)).trans (f25 10 (of_decide_eq_true rfl))))))))))))))
                                    have z294 : (σ289 55 27).toInt = (σ258 55 27).toInt := (congrArg Int32.toInt (show σ289 55 27 = (σ258 55 27) from (jkp 27 eσ289 (of_decide_eq_true rfl))))
                                    have z295 : (σ289 55 50).toInt = (σ61 55 50).toInt + 1 := ((congrArg Int32.toInt (show σ289 55 50 = x288 from (jsp eσ289))).trans tx288)
                                    have p296 : jKept σ289 := jKept.fr ((jnp 75 eσ289 (of_decide_eq_true rfl)).trans ((f260 75 (of_decide_eq_true rfl)).trans ((jnp 75 eσ178 (of_decide_eq_true rfl)).trans ((jnp 75 eσ164 (of_decide_eq_true rfl)).trans ((jnp 75 eσ152 (of_decide_eq_true rfl)).trans (f143 75 (of_decide_eq_true rfl))))))) ((jnp 76 eσ289 (of_decide_eq_true rfl)).trans ((f260 76 (of_decide_eq_true rfl)).trans ((jnp 76 eσ178 (of_decide_eq_true rfl)).trans ((jnp 76 eσ164 (of_decide_eq_true rfl)).trans ((jnp 76 eσ152 (of_decide_eq_true rfl)).trans (f143 76 (of_decide_eq_true rfl))))))) ((jnp 77 eσ289 (of_decide_eq_true rfl)).trans ((f260 77 (of_decide_eq_true rfl)).trans ((jnp 77 eσ178 (of_decide_eq_true rfl)).trans ((jnp 77 eσ164 (of_decide_eq_true rfl)).trans ((jnp 77 eσ152 (of_decide_eq_true rfl)).trans (f143 77 (of_decide_eq_true rfl))))))) p125
                                    have p297 : jqSt σ289 := jqSt.fr ((jnp 78 eσ289 (of_decide_eq_true rfl)).trans ((f260 78 (of_decide_eq_true rfl)).trans ((jnp 78 eσ178 (of_decide_eq_true rfl)).trans ((jnp 78 eσ164 (of_decide_eq_true rfl)).trans ((jnp 78 eσ152 (of_decide_eq_true rfl)).trans (f143 78 (of_decide_eq_true rfl))))))) ((jkp 42 eσ289 (of_decide_eq_true rfl)).trans ((f261 42 (of_decide_eq_true rfl)).trans ((congrFun (jnp 55 eσ178 (of_decide_eq_true rfl)) 42).trans ((congrFun (jnp 55 eσ164 (of_decide_eq_true rfl)) 42).trans ((congrFun (jnp 55 eσ152 (of_decide_eq_true rfl)) 42).trans (f144 42 (of_decide_eq_true rfl))))))) p127
                                    have I298 : jI109 σ289 := (show 0 ≤ (σ289 55 50).toInt ∧ (σ289 55 50).toInt ≤ 12 by omega)
                                    have w299 : ∀ k : Nat, k < 4 → 0 ≤ (σ289 68 k).toInt ∧ (σ289 68 k).toInt ≤ 3 := (jrr_fr (jnp 68 eσ289 (of_decide_eq_true rfl)) w262)
                                    have I300 : jI119 σ289 := w299
                                    exact by exact ihlp52 x280 x169 0 σ289 _ _ ls (by have h92 := jz_0; omega) (by have h92 := jz_0; omega) (by have h92 := jz_0; omega) (by have h92 := jz_0; omega) (by have h92 := jz_0; omega) (by have h92 := jz_0; omega) (by have h92 := jz_0; omega) (fun i hi => ((jnp i eσ289 (imp_282 i hi)).trans ((f260 i (imp_284 i hi)).trans ((jnp i eσ178 (imp_289 i hi)).trans ((jnp i eσ164 (imp_290 i hi)).trans ((jnp i eσ152 (imp_291 i hi)).trans ((f143 i (imp_292 i hi)).trans ((f123 i (imp_293 i hi)).trans (f81 i hi))))))))) (fun i hi => ((jkp i eσ289 (imp_294 i hi)).trans ((f261 i (imp_295 i hi)).trans ((congrFun (jnp 55 eσ178 (of_decide_eq_true rfl)) i).trans ((congrFun (jnp 55 eσ164 (of_decide_eq_true rfl)) i).trans ((congrFun (jnp 55 eσ152 (of_decide_eq_true rfl)) i).trans ((f144 i (imp_296 i hi)).trans ((f124 i (imp_297 i hi)).trans (f82 i hi)))))))))  p296 p297 I298 I300 hP hS (lv_sub hl [0, 3, 1, 7, 8, 9] rfl)
                                 · have kc285 := jnle c285 rfl tx283
                                   refine lv_iconst (v := 1) hx hb dX12_game_213 (of_decide_eq_true rfl) ?_
                                   refine lv_goto (tgt := 218) hx hb dX12_game_214 (of_decide_eq_true rfl) ?_
                                   refine lv_istore (lv' := [(5, .int 1), (3, .int x280), (9, .int r259), (4, .int x169), (8, .int r142), (7, .int x135), (6, .int r122), (0, .ref (ad 55)), (1, .int a1), (2, .int a2)]) hx hb dX12_game_218 hl (of_decide_eq_true rfl) rfl (fun ls hl => ?_)
                                   refine lv_aload_n hx hb dX12_game_220 rfl (lv_at hl 7 rfl) ?_
                                   refine lv_dup hx hb dX12_game_221 rfl ?_
                                   refine va_get (D := D) hx hb hts inlX12 hown hK hP 55 (jc_55 cI cL ad σ258 τ) rfl 50 (of_decide_eq_true rfl) (hts _ kw_46_13) (fun _ h9 => h9) rfl dX12_game_222 ?_
                                   have m301 : σ258 55 50 = (σ61 55 50) := ((f261 50 (of_decide_eq_true rfl)).trans m179)
                                   refine jtopr m301 ?_
                                   refine lv_iconst (v := 1) hx hb dX12_game_225 (of_decide_eq_true rfl) ?_
                                   have g302 := jrg (rfl : (σ61 55 50).toInt = (σ61 55 50).toInt)
                                   refine lv_iadd hx hb dX12_game_226 ?_
                                   refine lv_topi (fun x303 ex303 => ?_)
                                   exact by
                                    have tx303 : x303.toInt = (σ61 55 50).toInt + 1 := (jadd ex303 rfl jz_1 (by omega) (by omega)).trans (by omega)
                                    refine jput (ty := .int) hx hb hts inlX12 tyX12 tyX12_ok nmX12 hown hK hP hJ hA hS (jc_55 cI cL ad σ258 τ) rfl (k := 50) (of_decide_eq_true rfl) (Nat.le_of_ble_eq_true rfl) (jp_55_50 cI cL ad σ258 τ x303) (hts _ kw_46_13) (fun _ h9 => h9) rfl (by decide +kernel) rfl rfl dX12_game_227 (fun σ304 H locs eσ304 hP hS => ?_)
                                    refine lv_goto (tgt := 43) hx hb dX12_game_230 (of_decide_eq_true rfl) ?_
                                    have z305 : (σ304 55 12).toInt = (σ 55 12).toInt := (congrArg Int32.toInt (show σ304 55 12 = (σ 55 12) from ((jkp 12 eσ304 (of_decide_eq_true rfl)).trans ((f261 12 (of_decide_eq_true rfl)).trans ((congrFun (jnp 55 eσ178 (of_decide_eq_true rfl)) 12).trans ((congrFun (jnp 55 eσ164 (of_decide_eq_true rfl)) 12).trans ((congrFun (jnp 55 eσ152 (of_decide_eq_true rfl)) 12).trans ((f144 12 (of_decide_eq_true rfl)).trans ((f124 12 (of_decide_eq_true rfl)).trans ((f82 12 (of_decide_eq_true rfl)).trans ((jkp 12 eσ51 (of_decide_eq_true rfl)).trans ((f46 12 (of_decide_eq_true rfl)).trans (f25 12 (of_decide_eq_true rfl))))))))))))))
                                    have z306 : (σ304 55 26).toInt = (σ258 55 26).toInt := (congrArg Int32.toInt (show σ304 55 26 = (σ258 55 26) from (jkp 26 eσ304 (of_decide_eq_true rfl))))
                                    have z307 : (σ304 55 25).toInt = (σ258 55 25).toInt := (congrArg Int32.toInt (show σ304 55 25 = (σ258 55 25) from (jkp 25 eσ304 (of_decide_eq_true rfl))))
                                    have z308 : (σ304 55 10).toInt = (σ 55 10).toInt := (congrArg Int32.toInt (show σ304 55 10 = (σ 55 10) from ((jkp 10 eσ304 (of_decide_eq_true rfl)).trans ((f261 10 (of_decide_eq_true rfl)).trans ((congrFun (jnp 55 eσ178 (of_decide_eq_true rfl)) 10).trans ((congrFun (jnp 55 eσ164 (of_decide_eq_true rfl)) 10).trans ((congrFun (jnp 55 eσ152 (of_decide_eq_true rfl)) 10).trans ((f144 10 (of_decide_eq_true rfl)).trans ((f124 10 (of_decide_eq_true rfl)).trans ((f82 10 (of_decide_eq_true rfl)).trans ((jkp 10 eσ51 (of_decide_eq_true rfl)).trans ((f46 10 (of_decide_eq_true rfl)).trans (f25 10 (of_decide_eq_true rfl))))))))))))))
                                    have z309 : (σ304 55 27).toInt = (σ258 55 27).toInt := (congrArg Int32.toInt (show σ304 55 27 = (σ258 55 27) from (jkp 27 eσ304 (of_decide_eq_true rfl))))
                                    have z310 : (σ304 55 50).toInt = (σ61 55 50).toInt + 1 := ((congrArg Int32.toInt (show σ304 55 50 = x303 from (jsp eσ304))).trans tx303)
                                    have p311 : jKept σ304 := jKept.fr ((jnp 75 eσ304 (of_decide_eq_true rfl)).trans ((f260 75 (of_decide_eq_true rfl)).trans ((jnp 75 eσ178 (of_decide_eq_true rfl)).trans ((jnp 75 eσ164 (of_decide_eq_true rfl)).trans ((jnp 75 eσ152 (of_decide_eq_true rfl)).trans (f143 75 (of_decide_eq_true rfl))))))) ((jnp 76 eσ304 (of_decide_eq_true rfl)).trans ((f260 76 (of_decide_eq_true rfl)).trans ((jnp 76 eσ178 (of_decide_eq_true rfl)).trans ((jnp 76 eσ164 (of_decide_eq_true rfl)).trans ((jnp 76 eσ152 (of_decide_eq_true rfl)).trans (f143 76 (of_decide_eq_true rfl))))))) ((jnp 77 eσ304 (of_decide_eq_true rfl)).trans ((f260 77 (of_decide_eq_true rfl)).trans ((jnp 77 eσ178 (of_decide_eq_true rfl)).trans ((jnp 77 eσ164 (of_decide_eq_true rfl)).trans ((jnp 77 eσ152 (of_decide_eq_true rfl)).trans (f143 77 (of_decide_eq_true rfl))))))) p125
                                    have p312 : jqSt σ304 := jqSt.fr ((jnp 78 eσ304 (of_decide_eq_true rfl)).trans ((f260 78 (of_decide_eq_true rfl)).trans ((jnp 78 eσ178 (of_decide_eq_true rfl)).trans ((jnp 78 eσ164 (of_decide_eq_true rfl)).trans ((jnp 78 eσ152 (of_decide_eq_true rfl)).trans (f143 78 (of_decide_eq_true rfl))))))) ((jkp 42 eσ304 (of_decide_eq_true rfl)).trans ((f261 42 (of_decide_eq_true rfl)).trans ((congrFun (jnp 55 eσ178 (of_decide_eq_true rfl)) 42).trans ((congrFun (jnp 55 eσ164 (of_decide_eq_true rfl)) 42).trans ((congrFun (jnp 55 eσ152 (of_decide_eq_true rfl)) 42).trans (f144 42 (of_decide_eq_true rfl))))))) p127
                                    have I313 : jI109 σ304 := (show 0 ≤ (σ304 55 50).toInt ∧ (σ304 55 50).toInt ≤ 12 by omega)
                                    have w314 : ∀ k : Nat, k < 4 → 0 ≤ (σ304 68 k).toInt ∧ (σ304 68 k).toInt ≤ 3 := (jrr_fr (jnp 68 eσ304 (of_decide_eq_true rfl)) w262)
                                    have I315 : jI119 σ304 := w314
                                    exact by exact ihlp52 x280 x169 1 σ304 _ _ ls (by have h92 := jz_1; omega) (by have h92 := jz_1; omega) (by have h92 := jz_1; omega) (by have h92 := jz_1; omega) (by have h92 := jz_1; omega) (by have h92 := jz_1; omega) (by have h92 := jz_1; omega) (fun i hi => ((jnp i eσ304 (imp_282 i hi)).trans ((f260 i (imp_284 i hi)).trans ((jnp i eσ178 (imp_289 i hi)).trans ((jnp i eσ164 (imp_290 i hi)).trans ((jnp i eσ152 (imp_291 i hi)).trans ((f143 i (imp_292 i hi)).trans ((f123 i (imp_293 i hi)).trans (f81 i hi))))))))) (fun i hi => ((jkp i eσ304 (imp_294 i hi)).trans ((f261 i (imp_295 i hi)).trans ((congrFun (jnp 55 eσ178 (of_decide_eq_true rfl)) i).trans ((congrFun (jnp 55 eσ164 (of_decide_eq_true rfl)) i).trans ((congrFun (jnp 55 eσ152 (of_decide_eq_true rfl)) i).trans ((f144 i (imp_296 i hi)).trans ((f124 i (imp_297 i hi)).trans (f82 i hi)))))))))  p311 p312 I313 I315 hP hS (lv_sub hl [0, 3, 1, 7, 8, 9] rfl)
                          · have kc177 := jnle c177 rfl tx176
                            refine lv_iconst (v := 1) hx hb dX12_game_156 (of_decide_eq_true rfl) ?_
                            refine lv_goto (tgt := 161) hx hb dX12_game_157 (of_decide_eq_true rfl) ?_
                            exact by
                             refine jast hx hb hK hP hJ hA hS (jc_84 cI cL ad σ164 τ) (ja_84 cI cL ad σ164 τ _ _) (jin rfl (by omega) (by omega)) dX12_game_161 (fun σ316 H locs eσ316 hP hS => ?_)
                             refine lv_aload_n hx hb dX12_game_162 rfl (lv_at hl 6 rfl) ?_
                             refine lv_iload hx hb dX12_game_163 (lv_at hl 4 rfl) ?_
                             refine lv_aload_n hx hb dX12_game_165 rfl (lv_at hl 6 rfl) ?_
                             refine va_get (D := D) hx hb hts inlX12 hown hK hP 55 (jc_55 cI cL ad σ316 τ) rfl 53 (of_decide_eq_true rfl) (hts _ kw_8_9) (fun _ h9 => h9) rfl dX12_game_166 ?_
                             refine lv_aload_n hx hb dX12_game_169 rfl (lv_at hl 6 rfl) ?_
                             refine va_get (D := D) hx hb hts inlX12 hown hK hP 55 (jc_55 cI cL ad σ316 τ) rfl 50 (of_decide_eq_true rfl) (hts _ kw_46_13) (fun _ h9 => h9) rfl dX12_game_170 ?_
                             have m317 : σ316 55 50 = (σ61 55 50) := ((congrFun (jnp 55 eσ316 (of_decide_eq_true rfl)) 50).trans m165)
                             refine jtopr m317 ?_
                             exact by
                              refine jald hx hb hK hP (jc_84 cI cL ad σ316 τ) (jin rfl (by omega) (by omega)) dX12_game_173 ?_
                              refine lv_topi (fun x318 ex318 => ?_)
                              refine lv_iconst (v := 1) hx hb dX12_game_174 (of_decide_eq_true rfl) ?_
                              refine lv_icmp_ne (tgt := 182) hx hb dX12_game_175 (of_decide_eq_true rfl) (fun c319 => ?_) (fun c319 => ?_)
                              · have kc319 := jne c319 rfl jz_1
                                refine lv_iconst (v := 0) hx hb dX12_game_182 (of_decide_eq_true rfl) ?_
                                have w320 : ∀ k : Nat, k < 4 → 0 ≤ (σ316 68 k).toInt ∧ (σ316 68 k).toInt ≤ 3 := (jrr_fr (jnp 68 eσ316 (of_decide_eq_true rfl)) (jrr_fr (jnp 68 eσ164 (of_decide_eq_true rfl)) w157))
                                have z321 : (σ316 55 6).toInt = (σ 55 6).toInt := (congrArg Int32.toInt (show σ316 55 6 = (σ 55 6) from ((congrFun (jnp 55 eσ316 (of_decide_eq_true rfl)) 6).trans ((congrFun (jnp 55 eσ164 (of_decide_eq_true rfl)) 6).trans ((congrFun (jnp 55 eσ152 (of_decide_eq_true rfl)) 6).trans ((f144 6 (of_decide_eq_true rfl)).trans ((f124 6 (of_decide_eq_true rfl)).trans ((f82 6 (of_decide_eq_true rfl)).trans ((jkp 6 eσ51 (of_decide_eq_true rfl)).trans ((f46 6 (of_decide_eq_true rfl)).trans (f25 6 (of_decide_eq_true rfl))))))))))))
                                have z322 : (σ316 55 27).toInt = (σ61 55 27).toInt := (congrArg Int32.toInt (show σ316 55 27 = (σ61 55 27) from ((congrFun (jnp 55 eσ316 (of_decide_eq_true rfl)) 27).trans ((congrFun (jnp 55 eσ164 (of_decide_eq_true rfl)) 27).trans ((congrFun (jnp 55 eσ152 (of_decide_eq_true rfl)) 27).trans ((f144 27 (of_decide_eq_true rfl)).trans (f124 27 (of_decide_eq_true rfl))))))))
                                have z323 : (σ316 55 25).toInt = (σ61 55 25).toInt := (congrArg Int32.toInt (show σ316 55 25 = (σ61 55 25) from ((congrFun (jnp 55 eσ316 (of_decide_eq_true rfl)) 25).trans ((congrFun (jnp 55 eσ164 (of_decide_eq_true rfl)) 25).trans ((congrFun (jnp 55 eσ152 (of_decide_eq_true rfl)) 25).trans ((f144 25 (of_decide_eq_true rfl)).trans m132))))))
                                have z324 : (σ316 55 26).toInt = (σ61 55 26).toInt := (congrArg Int32.toInt (show σ316 55 26 = (σ61 55 26) from ((congrFun (jnp 55 eσ316 (of_decide_eq_true rfl)) 26).trans ((congrFun (jnp 55 eσ164 (of_decide_eq_true rfl)) 26).trans ((congrFun (jnp 55 eσ152 (of_decide_eq_true rfl)) 26).trans ((f144 26 (of_decide_eq_true rfl)).trans (f124 26 (of_decide_eq_true rfl))))))))
                                have z325 : (σ316 68 0).toInt = (σ61 68 0).toInt := (congrArg Int32.toInt (show σ316 68 0 = (σ61 68 0) from ((congrFun (jnp 68 eσ316 (of_decide_eq_true rfl)) 0).trans ((congrFun (jnp 68 eσ164 (of_decide_eq_true rfl)) 0).trans ((congrFun (jnp 68 eσ152 (of_decide_eq_true rfl)) 0).trans ((congrFun (f143 68 (of_decide_eq_true rfl)) 0).trans (congrFun (f123 68 (of_decide_eq_true rfl)) 0)))))))
                                have z326 : (σ316 68 1).toInt = (σ61 68 1).toInt := (congrArg Int32.toInt (show σ316 68 1 = (σ61 68 1) from ((congrFun (jnp 68 eσ316 (of_decide_eq_true rfl)) 1).trans ((congrFun (jnp 68 eσ164 (of_decide_eq_true rfl)) 1).trans ((congrFun (jnp 68 eσ152 (of_decide_eq_true rfl)) 1).trans ((congrFun (f143 68 (of_decide_eq_true rfl)) 1).trans (congrFun (f123 68 (of_decide_eq_true rfl)) 1)))))))
                                have z327 : (σ316 68 2).toInt = (σ61 68 2).toInt := (congrArg Int32.toInt (show σ316 68 2 = (σ61 68 2) from ((congrFun (jnp 68 eσ316 (of_decide_eq_true rfl)) 2).trans ((congrFun (jnp 68 eσ164 (of_decide_eq_true rfl)) 2).trans ((congrFun (jnp 68 eσ152 (of_decide_eq_true rfl)) 2).trans ((congrFun (f143 68 (of_decide_eq_true rfl)) 2).trans (congrFun (f123 68 (of_decide_eq_true rfl)) 2)))))))
                                have z328 : (σ316 68 3).toInt = (σ61 68 3).toInt := (congrArg Int32.toInt (show σ316 68 3 = (σ61 68 3) from ((congrFun (jnp 68 eσ316 (of_decide_eq_true rfl)) 3).trans ((congrFun (jnp 68 eσ164 (of_decide_eq_true rfl)) 3).trans ((congrFun (jnp 68 eσ152 (of_decide_eq_true rfl)) 3).trans ((congrFun (f143 68 (of_decide_eq_true rfl)) 3).trans (congrFun (f123 68 (of_decide_eq_true rfl)) 3)))))))
                                exact by
                                 refine jcallV (As := [.int r122, .int 0]) (rest := []) ⟨hx, hb, hml, hown, hts⟩ hK hP hA hS hZ (c_X12_goes_0 l D cI cL ad zz hJ σ316 τ r122 (r122.toInt) rfl w320 (by omega) (by omega) (by omega) (by omega) (by omega)) cw_RX12_296 (jc_55 cI cL ad σ316 τ) rfl ⟨Nat.le_of_ble_eq_true rfl, Nat.le_of_ble_eq_true rfl⟩ rfl rfl rfl hl.1 rfl (Nat.le_of_ble_eq_true rfl) dX12_game_183 ⟨Nat.zero_le _, Nat.zero_le _⟩ (fun r330 σ329 τ329 H locs h329 hP hS => ?_)
                                 obtain ⟨rfl, f331, f332, w333, w334, w335, w336, h329⟩ := h329
                                 obtain ⟨k338, k339, k340, h329⟩ := h329
                                 have h341 := h329
                                 obtain ⟨q347, k342, k343, k344, k345, k346⟩ := h341
                                 refine lv_istore (lv' := [(9, .int r330), (3, .int x173), (4, .int x169), (8, .int r142), (7, .int x135), (6, .int r122), (5, .int x56), (0, .ref (ad 55)), (1, .int a1), (2, .int a2)]) hx hb dX12_game_186 hl (of_decide_eq_true rfl) rfl (fun ls hl => ?_)
                                 refine lv_iload_n hx hb dX12_game_188 rfl (lv_at hl 1 rfl) ?_
                                 refine lv_ldcw (v := 1103515245) hx hb hown (hts _ kw_46_14) dX12_game_189 ?_
                                 have g348 := jrg (rfl : x173.toInt = x173.toInt)
                                 refine lv_imul hx hb dX12_game_192 ?_
                                 refine lv_topi (fun x349 ex349 => ?_)
                                 have gx349 := jrg (rfl : x349.toInt = x349.toInt)
                                 refine lv_sipush (v := 12345) hx hb dX12_game_193 (of_decide_eq_true rfl) ?_
                                 have g350 := jrg (rfl : x349.toInt = x349.toInt)
                                 refine lv_iadd hx hb dX12_game_196 ?_
                                 refine lv_topi (fun x351 ex351 => ?_)
                                 have gx351 := jrg (rfl : x351.toInt = x351.toInt)
                                 refine lv_istore_n (lv' := [(3, .int x351), (9, .int r330), (4, .int x169), (8, .int r142), (7, .int x135), (6, .int r122), (5, .int x56), (0, .ref (ad 55)), (1, .int a1), (2, .int a2)]) hx hb dX12_game_197 rfl hl (of_decide_eq_true rfl) rfl (fun ls hl => ?_)
                                 refine lv_iload_n hx hb dX12_game_198 rfl (lv_at hl 0 rfl) ?_
                                 refine lv_bipush (v := 8) hx hb dX12_game_199 (of_decide_eq_true rfl) ?_
                                 refine lv_iushr hx hb dX12_game_201 rfl ?_
                                 refine lv_topi (fun x352 ex352 => ?_)
                                 have gx352 := jrg (rfl : x352.toInt = x352.toInt)
                                 have g353 : 0 ≤ x352.toInt ∧ x352.toInt ≤ 16777215 := jushr8 ex352
                                 refine lv_sipush (v := 1000) hx hb dX12_game_202 (of_decide_eq_true rfl) ?_
                                 refine lv_irem hx hb dX12_game_205 (of_decide_eq_true rfl) ?_
                                 refine lv_topi (fun x354 ex354 => ?_)
                                 exact by
                                  have tx354 : x354.toInt = (x352.toInt % 1000) := jrem ex354 rfl jz_1000 (by omega)
                                  refine lv_aload_n hx hb dX12_game_206 rfl (lv_at hl 7 rfl) ?_
                                  refine va_get (D := D) hx hb hts inlX12 hown hK hP 55 (jc_55 cI cL ad σ329 τ) rfl 13 (of_decide_eq_true rfl) (hts _ kw_15_14) (fun _ h9 => h9) rfl dX12_game_207 ?_
                                  have m355 : σ329 55 13 = (σ 55 13) := ((f332 13 (of_decide_eq_true rfl)).trans ((congrFun (jnp 55 eσ316 (of_decide_eq_true rfl)) 13).trans ((congrFun (jnp 55 eσ164 (of_decide_eq_true rfl)) 13).trans ((congrFun (jnp 55 eσ152 (of_decide_eq_true rfl)) 13).trans ((f144 13 (of_decide_eq_true rfl)).trans ((f124 13 (of_decide_eq_true rfl)).trans ((f82 13 (of_decide_eq_true rfl)).trans ((jkp 13 eσ51 (of_decide_eq_true rfl)).trans ((f46 13 (of_decide_eq_true rfl)).trans (f25 13 (of_decide_eq_true rfl)))))))))))
                                  refine jtopr m355 ?_
                                  refine lv_icmp_ge (tgt := 217) hx hb dX12_game_210 (of_decide_eq_true rfl) (fun c356 => ?_) (fun c356 => ?_)
                                  · have kc356 := jle c356 rfl tx354
                                    refine lv_iconst (v := 0) hx hb dX12_game_217 (of_decide_eq_true rfl) ?_
                                    refine lv_istore (lv' := [(5, .int 0), (3, .int x351), (9, .int r330), (4, .int x169), (8, .int r142), (7, .int x135), (6, .int r122), (0, .ref (ad 55)), (1, .int a1), (2, .int a2)]) hx hb dX12_game_218 hl (of_decide_eq_true rfl) rfl (fun ls hl => ?_)
                                    refine lv_aload_n hx hb dX12_game_220 rfl (lv_at hl 7 rfl) ?_
                                    refine lv_dup hx hb dX12_game_221 rfl ?_
                                    refine va_get (D := D) hx hb hts inlX12 hown hK hP 55 (jc_55 cI cL ad σ329 τ) rfl 50 (of_decide_eq_true rfl) (hts _ kw_46_13) (fun _ h9 => h9) rfl dX12_game_222 ?_
                                    have m357 : σ329 55 50 = (σ61 55 50) := ((f332 50 (of_decide_eq_true rfl)).trans m317)
                                    refine jtopr m357 ?_
                                    refine lv_iconst (v := 1) hx hb dX12_game_225 (of_decide_eq_true rfl) ?_
                                    have g358 := jrg (rfl : (σ61 55 50).toInt = (σ61 55 50).toInt)
                                    refine lv_iadd hx hb dX12_game_226 ?_
                                    refine lv_topi (fun x359 ex359 => ?_)
                                    exact by
                                     have tx359 : x359.toInt = (σ61 55 50).toInt + 1 := (jadd ex359 rfl jz_1 (by omega) (by omega)).trans (by omega)
                                     refine jput (ty := .int) hx hb hts inlX12 tyX12 tyX12_ok nmX12 hown hK hP hJ hA hS (jc_55 cI cL ad σ329 τ) rfl (k := 50) (of_decide_eq_true rfl) (Nat.le_of_ble_eq_true rfl) (jp_55_50 cI cL ad σ329 τ x359) (hts _ kw_46_13) (fun _ h9 => h9) rfl (by decide +kernel) rfl rfl dX12_game_227 (fun σ360 H locs eσ360 hP hS => ?_)
                                     refine lv_goto (tgt := 43) hx hb dX12_game_230 (of_decide_eq_true rfl) ?_
                                     have z361 : (σ360 55 12).toInt = (σ 55 12).toInt := (congrArg Int32.toInt (show σ360 55 12 = (σ 55 12) from ((jkp 12 eσ360 (of_decide_eq_true rfl)).trans ((f332 12 (of_decide_eq_true rfl)).trans ((congrFun (jnp 55 eσ316 (of_decide_eq_true rfl)) 12).trans ((congrFun (jnp 55 eσ164 (of_decide_eq_true rfl)) 12).trans ((congrFun (jnp 55 eσ152 (of_decide_eq_true rfl)) 12).trans ((f144 12 (of_decide_eq_true rfl)).trans ((f124 12 (of_decide_eq_true rfl)).trans ((f82 12 (of_decide_eq_true rfl)).trans ((jkp 12 eσ51 (of_decide_eq_true rfl)).trans ((f46 12 (of_decide_eq_true rfl)).trans (f25 12 (of_decide_eq_true rfl))))))))))))))
                                     have z362 : (σ360 55 26).toInt = (σ329 55 26).toInt := (congrArg Int32.toInt (show σ360 55 26 = (σ329 55 26) from (jkp 26 eσ360 (of_decide_eq_true rfl))))
                                     have z363 : (σ360 55 25).toInt = (σ329 55 25).toInt := (congrArg Int32.toInt (show σ360 55 25 = (σ329 55 25) from (jkp 25 eσ360 (of_decide_eq_true rfl))))
                                     have z364 : (σ360 55 10).toInt = (σ 55 10).toInt := (congrArg Int32.toInt (show σ360 55 10 = (σ 55 10) from ((jkp 10 eσ360 (of_decide_eq_true rfl)).trans ((f332 10 (of_decide_eq_true rfl)).trans ((congrFun (jnp 55 eσ316 (of_decide_eq_true rfl)) 10).trans ((congrFun (jnp 55 eσ164 (of_decide_eq_true rfl)) 10).trans ((congrFun (jnp 55 eσ152 (of_decide_eq_true rfl)) 10).trans ((f144 10 (of_decide_eq_true rfl)).trans ((f124 10 (of_decide_eq_true rfl)).trans ((f82 10 (of_decide_eq_true rfl)).trans ((jkp 10 eσ51 (of_decide_eq_true rfl)).trans ((f46 10 (of_decide_eq_true rfl)).trans (f25 10 (of_decide_eq_true rfl))))))))))))))
                                     have z365 : (σ360 55 27).toInt = (σ329 55 27).toInt := (congrArg Int32.toInt (show σ360 55 27 = (σ329 55 27) from (jkp 27 eσ360 (of_decide_eq_true rfl))))
                                     have z366 : (σ360 55 50).toInt = (σ61 55 50).toInt + 1 := ((congrArg Int32.toInt (show σ360 55 50 = x359 from (jsp eσ360))).trans tx359)
                                     have p367 : jKept σ360 := jKept.fr ((jnp 75 eσ360 (of_decide_eq_true rfl)).trans ((f331 75 (of_decide_eq_true rfl)).trans ((jnp 75 eσ316 (of_decide_eq_true rfl)).trans ((jnp 75 eσ164 (of_decide_eq_true rfl)).trans ((jnp 75 eσ152 (of_decide_eq_true rfl)).trans (f143 75 (of_decide_eq_true rfl))))))) ((jnp 76 eσ360 (of_decide_eq_true rfl)).trans ((f331 76 (of_decide_eq_true rfl)).trans ((jnp 76 eσ316 (of_decide_eq_true rfl)).trans ((jnp 76 eσ164 (of_decide_eq_true rfl)).trans ((jnp 76 eσ152 (of_decide_eq_true rfl)).trans (f143 76 (of_decide_eq_true rfl))))))) ((jnp 77 eσ360 (of_decide_eq_true rfl)).trans ((f331 77 (of_decide_eq_true rfl)).trans ((jnp 77 eσ316 (of_decide_eq_true rfl)).trans ((jnp 77 eσ164 (of_decide_eq_true rfl)).trans ((jnp 77 eσ152 (of_decide_eq_true rfl)).trans (f143 77 (of_decide_eq_true rfl))))))) p125
                                     have p368 : jqSt σ360 := jqSt.fr ((jnp 78 eσ360 (of_decide_eq_true rfl)).trans ((f331 78 (of_decide_eq_true rfl)).trans ((jnp 78 eσ316 (of_decide_eq_true rfl)).trans ((jnp 78 eσ164 (of_decide_eq_true rfl)).trans ((jnp 78 eσ152 (of_decide_eq_true rfl)).trans (f143 78 (of_decide_eq_true rfl))))))) ((jkp 42 eσ360 (of_decide_eq_true rfl)).trans ((f332 42 (of_decide_eq_true rfl)).trans ((congrFun (jnp 55 eσ316 (of_decide_eq_true rfl)) 42).trans ((congrFun (jnp 55 eσ164 (of_decide_eq_true rfl)) 42).trans ((congrFun (jnp 55 eσ152 (of_decide_eq_true rfl)) 42).trans (f144 42 (of_decide_eq_true rfl))))))) p127
                                     have I369 : jI109 σ360 := (show 0 ≤ (σ360 55 50).toInt ∧ (σ360 55 50).toInt ≤ 12 by omega)
                                     have w370 : ∀ k : Nat, k < 4 → 0 ≤ (σ360 68 k).toInt ∧ (σ360 68 k).toInt ≤ 3 := (jrr_fr (jnp 68 eσ360 (of_decide_eq_true rfl)) w333)
                                     have I371 : jI119 σ360 := w370
                                     exact by exact ihlp52 x351 x169 0 σ360 _ _ ls (by have h92 := jz_0; omega) (by have h92 := jz_0; omega) (by have h92 := jz_0; omega) (by have h92 := jz_0; omega) (by have h92 := jz_0; omega) (by have h92 := jz_0; omega) (by have h92 := jz_0; omega) (fun i hi => ((jnp i eσ360 (imp_282 i hi)).trans ((f331 i (imp_284 i hi)).trans ((jnp i eσ316 (imp_289 i hi)).trans ((jnp i eσ164 (imp_290 i hi)).trans ((jnp i eσ152 (imp_291 i hi)).trans ((f143 i (imp_292 i hi)).trans ((f123 i (imp_293 i hi)).trans (f81 i hi))))))))) (fun i hi => ((jkp i eσ360 (imp_294 i hi)).trans ((f332 i (imp_295 i hi)).trans ((congrFun (jnp 55 eσ316 (of_decide_eq_true rfl)) i).trans ((congrFun (jnp 55 eσ164 (of_decide_eq_true rfl)) i).trans ((congrFun (jnp 55 eσ152 (of_decide_eq_true rfl)) i).trans ((f144 i (imp_296 i hi)).trans ((f124 i (imp_297 i hi)).trans (f82 i hi)))))))))  p367 p368 I369 I371 hP hS (lv_sub hl [0, 3, 1, 7, 8, 9] rfl)
                                  · have kc356 := jnle c356 rfl tx354
                                    refine lv_iconst (v := 1) hx hb dX12_game_213 (of_decide_eq_true rfl) ?_
                                    refine lv_goto (tgt := 218) hx hb dX12_game_214 (of_decide_eq_true rfl) ?_
                                    refine lv_istore (lv' := [(5, .int 1), (3, .int x351), (9, .int r330), (4, .int x169), (8, .int r142), (7, .int x135), (6, .int r122), (0, .ref (ad 55)), (1, .int a1), (2, .int a2)]) hx hb dX12_game_218 hl (of_decide_eq_true rfl) rfl (fun ls hl => ?_)
                                    refine lv_aload_n hx hb dX12_game_220 rfl (lv_at hl 7 rfl) ?_
                                    refine lv_dup hx hb dX12_game_221 rfl ?_
                                    refine va_get (D := D) hx hb hts inlX12 hown hK hP 55 (jc_55 cI cL ad σ329 τ) rfl 50 (of_decide_eq_true rfl) (hts _ kw_46_13) (fun _ h9 => h9) rfl dX12_game_222 ?_
                                    have m372 : σ329 55 50 = (σ61 55 50) := ((f332 50 (of_decide_eq_true rfl)).trans m317)
                                    refine jtopr m372 ?_
                                    refine lv_iconst (v := 1) hx hb dX12_game_225 (of_decide_eq_true rfl) ?_
                                    have g373 := jrg (rfl : (σ61 55 50).toInt = (σ61 55 50).toInt)
                                    refine lv_iadd hx hb dX12_game_226 ?_
                                    refine lv_topi (fun x374 ex374 => ?_)
                                    exact by
                                     have tx374 : x374.toInt = (σ61 55 50).toInt + 1 := (jadd ex374 rfl jz_1 (by omega) (by omega)).trans (by omega)
                                     refine jput (ty := .int) hx hb hts inlX12 tyX12 tyX12_ok nmX12 hown hK hP hJ hA hS (jc_55 cI cL ad σ329 τ) rfl (k := 50) (of_decide_eq_true rfl) (Nat.le_of_ble_eq_true rfl) (jp_55_50 cI cL ad σ329 τ x374) (hts _ kw_46_13) (fun _ h9 => h9) rfl (by decide +kernel) rfl rfl dX12_game_227 (fun σ375 H locs eσ375 hP hS => ?_)
                                     refine lv_goto (tgt := 43) hx hb dX12_game_230 (of_decide_eq_true rfl) ?_
                                     have z376 : (σ375 55 12).toInt = (σ 55 12).toInt := (congrArg Int32.toInt (show σ375 55 12 = (σ 55 12) from ((jkp 12 eσ375 (of_decide_eq_true rfl)).trans ((f332 12 (of_decide_eq_true rfl)).trans ((congrFun (jnp 55 eσ316 (of_decide_eq_true rfl)) 12).trans ((congrFun (jnp 55 eσ164 (of_decide_eq_true rfl)) 12).trans ((congrFun (jnp 55 eσ152 (of_decide_eq_true rfl)) 12).trans ((f144 12 (of_decide_eq_true rfl)).trans ((f124 12 (of_decide_eq_true rfl)).trans ((f82 12 (of_decide_eq_true rfl)).trans ((jkp 12 eσ51 (of_decide_eq_true rfl)).trans ((f46 12 (of_decide_eq_true rfl)).trans (f25 12 (of_decide_eq_true rfl))))))))))))))
                                     have z377 : (σ375 55 26).toInt = (σ329 55 26).toInt := (congrArg Int32.toInt (show σ375 55 26 = (σ329 55 26) from (jkp 26 eσ375 (of_decide_eq_true rfl))))
                                     have z378 : (σ375 55 25).toInt = (σ329 55 25).toInt := (congrArg Int32.toInt (show σ375 55 25 = (σ329 55 25) from (jkp 25 eσ375 (of_decide_eq_true rfl))))
                                     have z379 : (σ375 55 10).toInt = (σ 55 10).toInt := (congrArg Int32.toInt (show σ375 55 10 = (σ 55 10) from ((jkp 10 eσ375 (of_decide_eq_true rfl)).trans ((f332 10 (of_decide_eq_true rfl)).trans ((congrFun (jnp 55 eσ316 (of_decide_eq_true rfl)) 10).trans ((congrFun (jnp 55 eσ164 (of_decide_eq_true rfl)) 10).trans ((congrFun (jnp 55 eσ152 (of_decide_eq_true rfl)) 10).trans ((f144 10 (of_decide_eq_true rfl)).trans ((f124 10 (of_decide_eq_true rfl)).trans ((f82 10 (of_decide_eq_true rfl)).trans ((jkp 10 eσ51 (of_decide_eq_true rfl)).trans ((f46 10 (of_decide_eq_true rfl)).trans (f25 10 (of_decide_eq_true rfl))))))))))))))
                                     have z380 : (σ375 55 27).toInt = (σ329 55 27).toInt := (congrArg Int32.toInt (show σ375 55 27 = (σ329 55 27) from (jkp 27 eσ375 (of_decide_eq_true rfl))))
                                     have z381 : (σ375 55 50).toInt = (σ61 55 50).toInt + 1 := ((congrArg Int32.toInt (show σ375 55 50 = x374 from (jsp eσ375))).trans tx374)
                                     have p382 : jKept σ375 := jKept.fr ((jnp 75 eσ375 (of_decide_eq_true rfl)).trans ((f331 75 (of_decide_eq_true rfl)).trans ((jnp 75 eσ316 (of_decide_eq_true rfl)).trans ((jnp 75 eσ164 (of_decide_eq_true rfl)).trans ((jnp 75 eσ152 (of_decide_eq_true rfl)).trans (f143 75 (of_decide_eq_true rfl))))))) ((jnp 76 eσ375 (of_decide_eq_true rfl)).trans ((f331 76 (of_decide_eq_true rfl)).trans ((jnp 76 eσ316 (of_decide_eq_true rfl)).trans ((jnp 76 eσ164 (of_decide_eq_true rfl)).trans ((jnp 76 eσ152 (of_decide_eq_true rfl)).trans (f143 76 (of_decide_eq_true rfl))))))) ((jnp 77 eσ375 (of_decide_eq_true rfl)).trans ((f331 77 (of_decide_eq_true rfl)).trans ((jnp 77 eσ316 (of_decide_eq_true rfl)).trans ((jnp 77 eσ164 (of_decide_eq_true rfl)).trans ((jnp 77 eσ152 (of_decide_eq_true rfl)).trans (f143 77 (of_decide_eq_true rfl))))))) p125
                                     have p383 : jqSt σ375 := jqSt.fr ((jnp 78 eσ375 (of_decide_eq_true rfl)).trans ((f331 78 (of_decide_eq_true rfl)).trans ((jnp 78 eσ316 (of_decide_eq_true rfl)).trans ((jnp 78 eσ164 (of_decide_eq_true rfl)).trans ((jnp 78 eσ152 (of_decide_eq_true rfl)).trans (f143 78 (of_decide_eq_true rfl))))))) ((jkp 42 eσ375 (of_decide_eq_true rfl)).trans ((f332 42 (of_decide_eq_true rfl)).trans ((congrFun (jnp 55 eσ316 (of_decide_eq_true rfl)) 42).trans ((congrFun (jnp 55 eσ164 (of_decide_eq_true rfl)) 42).trans ((congrFun (jnp 55 eσ152 (of_decide_eq_true rfl)) 42).trans (f144 42 (of_decide_eq_true rfl))))))) p127
                                     have I384 : jI109 σ375 := (show 0 ≤ (σ375 55 50).toInt ∧ (σ375 55 50).toInt ≤ 12 by omega)
                                     have w385 : ∀ k : Nat, k < 4 → 0 ≤ (σ375 68 k).toInt ∧ (σ375 68 k).toInt ≤ 3 := (jrr_fr (jnp 68 eσ375 (of_decide_eq_true rfl)) w333)
                                     have I386 : jI119 σ375 := w385
                                     exact by exact ihlp52 x351 x169 1 σ375 _ _ ls (by have h92 := jz_1; omega) (by have h92 := jz_1; omega) (by have h92 := jz_1; omega) (by have h92 := jz_1; omega) (by have h92 := jz_1; omega) (by have h92 := jz_1; omega) (by have h92 := jz_1; omega) (fun i hi => ((jnp i eσ375 (imp_282 i hi)).trans ((f331 i (imp_284 i hi)).trans ((jnp i eσ316 (imp_289 i hi)).trans ((jnp i eσ164 (imp_290 i hi)).trans ((jnp i eσ152 (imp_291 i hi)).trans ((f143 i (imp_292 i hi)).trans ((f123 i (imp_293 i hi)).trans (f81 i hi))))))))) (fun i hi => ((jkp i eσ375 (imp_294 i hi)).trans ((f332 i (imp_295 i hi)).trans ((congrFun (jnp 55 eσ316 (of_decide_eq_true rfl)) i).trans ((congrFun (jnp 55 eσ164 (of_decide_eq_true rfl)) i).trans ((congrFun (jnp 55 eσ152 (of_decide_eq_true rfl)) i).trans ((f144 i (imp_296 i hi)).trans ((f124 i (imp_297 i hi)).trans (f82 i hi)))))))))  p382 p383 I384 I386 hP hS (lv_sub hl [0, 3, 1, 7, 8, 9] rfl)
                              · have kc319 := jeq c319 rfl jz_1
                                refine lv_iconst (v := 1) hx hb dX12_game_178 (of_decide_eq_true rfl) ?_
                                refine lv_goto (tgt := 183) hx hb dX12_game_179 (of_decide_eq_true rfl) ?_
                                have w387 : ∀ k : Nat, k < 4 → 0 ≤ (σ316 68 k).toInt ∧ (σ316 68 k).toInt ≤ 3 := (jrr_fr (jnp 68 eσ316 (of_decide_eq_true rfl)) (jrr_fr (jnp 68 eσ164 (of_decide_eq_true rfl)) w157))
                                have z388 : (σ316 55 6).toInt = (σ 55 6).toInt := (congrArg Int32.toInt (show σ316 55 6 = (σ 55 6) from ((congrFun (jnp 55 eσ316 (of_decide_eq_true rfl)) 6).trans ((congrFun (jnp 55 eσ164 (of_decide_eq_true rfl)) 6).trans ((congrFun (jnp 55 eσ152 (of_decide_eq_true rfl)) 6).trans ((f144 6 (of_decide_eq_true rfl)).trans ((f124 6 (of_decide_eq_true rfl)).trans ((f82 6 (of_decide_eq_true rfl)).trans ((jkp 6 eσ51 (of_decide_eq_true rfl)).trans ((f46 6 (of_decide_eq_true rfl)).trans (f25 6 (of_decide_eq_true rfl))))))))))))
                                have z389 : (σ316 55 27).toInt = (σ61 55 27).toInt := (congrArg Int32.toInt (show σ316 55 27 = (σ61 55 27) from ((congrFun (jnp 55 eσ316 (of_decide_eq_true rfl)) 27).trans ((congrFun (jnp 55 eσ164 (of_decide_eq_true rfl)) 27).trans ((congrFun (jnp 55 eσ152 (of_decide_eq_true rfl)) 27).trans ((f144 27 (of_decide_eq_true rfl)).trans (f124 27 (of_decide_eq_true rfl))))))))
                                have z390 : (σ316 55 25).toInt = (σ61 55 25).toInt := (congrArg Int32.toInt (show σ316 55 25 = (σ61 55 25) from ((congrFun (jnp 55 eσ316 (of_decide_eq_true rfl)) 25).trans ((congrFun (jnp 55 eσ164 (of_decide_eq_true rfl)) 25).trans ((congrFun (jnp 55 eσ152 (of_decide_eq_true rfl)) 25).trans ((f144 25 (of_decide_eq_true rfl)).trans m132))))))
                                have z391 : (σ316 55 26).toInt = (σ61 55 26).toInt := (congrArg Int32.toInt (show σ316 55 26 = (σ61 55 26) from ((congrFun (jnp 55 eσ316 (of_decide_eq_true rfl)) 26).trans ((congrFun (jnp 55 eσ164 (of_decide_eq_true rfl)) 26).trans ((congrFun (jnp 55 eσ152 (of_decide_eq_true rfl)) 26).trans ((f144 26 (of_decide_eq_true rfl)).trans (f124 26 (of_decide_eq_true rfl))))))))
                                have z392 : (σ316 68 0).toInt = (σ61 68 0).toInt := (congrArg Int32.toInt (show σ316 68 0 = (σ61 68 0) from ((congrFun (jnp 68 eσ316 (of_decide_eq_true rfl)) 0).trans ((congrFun (jnp 68 eσ164 (of_decide_eq_true rfl)) 0).trans ((congrFun (jnp 68 eσ152 (of_decide_eq_true rfl)) 0).trans ((congrFun (f143 68 (of_decide_eq_true rfl)) 0).trans (congrFun (f123 68 (of_decide_eq_true rfl)) 0)))))))
                                have z393 : (σ316 68 1).toInt = (σ61 68 1).toInt := (congrArg Int32.toInt (show σ316 68 1 = (σ61 68 1) from ((congrFun (jnp 68 eσ316 (of_decide_eq_true rfl)) 1).trans ((congrFun (jnp 68 eσ164 (of_decide_eq_true rfl)) 1).trans ((congrFun (jnp 68 eσ152 (of_decide_eq_true rfl)) 1).trans ((congrFun (f143 68 (of_decide_eq_true rfl)) 1).trans (congrFun (f123 68 (of_decide_eq_true rfl)) 1)))))))
                                have z394 : (σ316 68 2).toInt = (σ61 68 2).toInt := (congrArg Int32.toInt (show σ316 68 2 = (σ61 68 2) from ((congrFun (jnp 68 eσ316 (of_decide_eq_true rfl)) 2).trans ((congrFun (jnp 68 eσ164 (of_decide_eq_true rfl)) 2).trans ((congrFun (jnp 68 eσ152 (of_decide_eq_true rfl)) 2).trans ((congrFun (f143 68 (of_decide_eq_true rfl)) 2).trans (congrFun (f123 68 (of_decide_eq_true rfl)) 2)))))))
                                have z395 : (σ316 68 3).toInt = (σ61 68 3).toInt := (congrArg Int32.toInt (show σ316 68 3 = (σ61 68 3) from ((congrFun (jnp 68 eσ316 (of_decide_eq_true rfl)) 3).trans ((congrFun (jnp 68 eσ164 (of_decide_eq_true rfl)) 3).trans ((congrFun (jnp 68 eσ152 (of_decide_eq_true rfl)) 3).trans ((congrFun (f143 68 (of_decide_eq_true rfl)) 3).trans (congrFun (f123 68 (of_decide_eq_true rfl)) 3)))))))
                                exact by
                                 refine jcallV (As := [.int r122, .int 1]) (rest := []) ⟨hx, hb, hml, hown, hts⟩ hK hP hA hS hZ (c_X12_goes_1 l D cI cL ad zz hJ σ316 τ r122 (r122.toInt) rfl w387 (by omega) (by omega) (by omega) (by omega) (by omega)) cw_RX12_296 (jc_55 cI cL ad σ316 τ) rfl ⟨Nat.le_of_ble_eq_true rfl, Nat.le_of_ble_eq_true rfl⟩ rfl rfl rfl hl.1 rfl (Nat.le_of_ble_eq_true rfl) dX12_game_183 ⟨Nat.zero_le _, Nat.zero_le _⟩ (fun r397 σ396 τ396 H locs h396 hP hS => ?_)
                                 obtain ⟨rfl, f398, f399, w400, w401, w402, w403, h396⟩ := h396
                                 obtain ⟨k405, k406, k407, h396⟩ := h396
                                 have h408 := h396
                                 obtain ⟨q414, k409, k410, k411, k412, k413⟩ := h408
                                 refine lv_istore (lv' := [(9, .int r397), (3, .int x173), (4, .int x169), (8, .int r142), (7, .int x135), (6, .int r122), (5, .int x56), (0, .ref (ad 55)), (1, .int a1), (2, .int a2)]) hx hb dX12_game_186 hl (of_decide_eq_true rfl) rfl (fun ls hl => ?_)
                                 refine lv_iload_n hx hb dX12_game_188 rfl (lv_at hl 1 rfl) ?_
                                 refine lv_ldcw (v := 1103515245) hx hb hown (hts _ kw_46_14) dX12_game_189 ?_
                                 have g415 := jrg (rfl : x173.toInt = x173.toInt)
                                 refine lv_imul hx hb dX12_game_192 ?_
                                 refine lv_topi (fun x416 ex416 => ?_)
                                 have gx416 := jrg (rfl : x416.toInt = x416.toInt)
                                 refine lv_sipush (v := 12345) hx hb dX12_game_193 (of_decide_eq_true rfl) ?_
                                 have g417 := jrg (rfl : x416.toInt = x416.toInt)
                                 refine lv_iadd hx hb dX12_game_196 ?_
                                 refine lv_topi (fun x418 ex418 => ?_)
                                 have gx418 := jrg (rfl : x418.toInt = x418.toInt)
                                 refine lv_istore_n (lv' := [(3, .int x418), (9, .int r397), (4, .int x169), (8, .int r142), (7, .int x135), (6, .int r122), (5, .int x56), (0, .ref (ad 55)), (1, .int a1), (2, .int a2)]) hx hb dX12_game_197 rfl hl (of_decide_eq_true rfl) rfl (fun ls hl => ?_)
                                 refine lv_iload_n hx hb dX12_game_198 rfl (lv_at hl 0 rfl) ?_
                                 refine lv_bipush (v := 8) hx hb dX12_game_199 (of_decide_eq_true rfl) ?_
                                 refine lv_iushr hx hb dX12_game_201 rfl ?_
                                 refine lv_topi (fun x419 ex419 => ?_)
                                 have gx419 := jrg (rfl : x419.toInt = x419.toInt)
                                 have g420 : 0 ≤ x419.toInt ∧ x419.toInt ≤ 16777215 := jushr8 ex419
                                 refine lv_sipush (v := 1000) hx hb dX12_game_202 (of_decide_eq_true rfl) ?_
                                 refine lv_irem hx hb dX12_game_205 (of_decide_eq_true rfl) ?_
                                 refine lv_topi (fun x421 ex421 => ?_)
                                 exact by
                                  have tx421 : x421.toInt = (x419.toInt % 1000) := jrem ex421 rfl jz_1000 (by omega)
                                  refine lv_aload_n hx hb dX12_game_206 rfl (lv_at hl 7 rfl) ?_
                                  refine va_get (D := D) hx hb hts inlX12 hown hK hP 55 (jc_55 cI cL ad σ396 τ) rfl 13 (of_decide_eq_true rfl) (hts _ kw_15_14) (fun _ h9 => h9) rfl dX12_game_207 ?_
                                  have m422 : σ396 55 13 = (σ 55 13) := ((f399 13 (of_decide_eq_true rfl)).trans ((congrFun (jnp 55 eσ316 (of_decide_eq_true rfl)) 13).trans ((congrFun (jnp 55 eσ164 (of_decide_eq_true rfl)) 13).trans ((congrFun (jnp 55 eσ152 (of_decide_eq_true rfl)) 13).trans ((f144 13 (of_decide_eq_true rfl)).trans ((f124 13 (of_decide_eq_true rfl)).trans ((f82 13 (of_decide_eq_true rfl)).trans ((jkp 13 eσ51 (of_decide_eq_true rfl)).trans ((f46 13 (of_decide_eq_true rfl)).trans (f25 13 (of_decide_eq_true rfl)))))))))))
                                  refine jtopr m422 ?_
                                  refine lv_icmp_ge (tgt := 217) hx hb dX12_game_210 (of_decide_eq_true rfl) (fun c423 => ?_) (fun c423 => ?_)
                                  · have kc423 := jle c423 rfl tx421
                                    refine lv_iconst (v := 0) hx hb dX12_game_217 (of_decide_eq_true rfl) ?_
                                    refine lv_istore (lv' := [(5, .int 0), (3, .int x418), (9, .int r397), (4, .int x169), (8, .int r142), (7, .int x135), (6, .int r122), (0, .ref (ad 55)), (1, .int a1), (2, .int a2)]) hx hb dX12_game_218 hl (of_decide_eq_true rfl) rfl (fun ls hl => ?_)
                                    refine lv_aload_n hx hb dX12_game_220 rfl (lv_at hl 7 rfl) ?_
                                    refine lv_dup hx hb dX12_game_221 rfl ?_
                                    refine va_get (D := D) hx hb hts inlX12 hown hK hP 55 (jc_55 cI cL ad σ396 τ) rfl 50 (of_decide_eq_true rfl) (hts _ kw_46_13) (fun _ h9 => h9) rfl dX12_game_222 ?_
                                    have m424 : σ396 55 50 = (σ61 55 50) := ((f399 50 (of_decide_eq_true rfl)).trans m317)
                                    refine jtopr m424 ?_
                                    refine lv_iconst (v := 1) hx hb dX12_game_225 (of_decide_eq_true rfl) ?_
                                    have g425 := jrg (rfl : (σ61 55 50).toInt = (σ61 55 50).toInt)
                                    refine lv_iadd hx hb dX12_game_226 ?_
                                    refine lv_topi (fun x426 ex426 => ?_)
                                    exact by
                                     have tx426 : x426.toInt = (σ61 55 50).toInt + 1 := (jadd ex426 rfl jz_1 (by omega) (by omega)).trans (by omega)
                                     refine jput (ty := .int) hx hb hts inlX12 tyX12 tyX12_ok nmX12 hown hK hP hJ hA hS (jc_55 cI cL ad σ396 τ) rfl (k := 50) (of_decide_eq_true rfl) (Nat.le_of_ble_eq_true rfl) (jp_55_50 cI cL ad σ396 τ x426) (hts _ kw_46_13) (fun _ h9 => h9) rfl (by decide +kernel) rfl rfl dX12_game_227 (fun σ427 H locs eσ427 hP hS => ?_)
                                     refine lv_goto (tgt := 43) hx hb dX12_game_230 (of_decide_eq_true rfl) ?_
                                     have z428 : (σ427 55 12).toInt = (σ 55 12).toInt := (congrArg Int32.toInt (show σ427 55 12 = (σ 55 12) from ((jkp 12 eσ427 (of_decide_eq_true rfl)).trans ((f399 12 (of_decide_eq_true rfl)).trans ((congrFun (jnp 55 eσ316 (of_decide_eq_true rfl)) 12).trans ((congrFun (jnp 55 eσ164 (of_decide_eq_true rfl)) 12).trans ((congrFun (jnp 55 eσ152 (of_decide_eq_true rfl)) 12).trans ((f144 12 (of_decide_eq_true rfl)).trans ((f124 12 (of_decide_eq_true rfl)).trans ((f82 12 (of_decide_eq_true rfl)).trans ((jkp 12 eσ51 (of_decide_eq_true rfl)).trans ((f46 12 (of_decide_eq_true rfl)).trans (f25 12 (of_decide_eq_true rfl))))))))))))))
                                     have z429 : (σ427 55 26).toInt = (σ396 55 26).toInt := (congrArg Int32.toInt (show σ427 55 26 = (σ396 55 26) from (jkp 26 eσ427 (of_decide_eq_true rfl))))
                                     have z430 : (σ427 55 25).toInt = (σ396 55 25).toInt := (congrArg Int32.toInt (show σ427 55 25 = (σ396 55 25) from (jkp 25 eσ427 (of_decide_eq_true rfl))))
                                     have z431 : (σ427 55 10).toInt = (σ 55 10).toInt := (congrArg Int32.toInt (show σ427 55 10 = (σ 55 10) from ((jkp 10 eσ427 (of_decide_eq_true rfl)).trans ((f399 10 (of_decide_eq_true rfl)).trans ((congrFun (jnp 55 eσ316 (of_decide_eq_true rfl)) 10).trans ((congrFun (jnp 55 eσ164 (of_decide_eq_true rfl)) 10).trans ((congrFun (jnp 55 eσ152 (of_decide_eq_true rfl)) 10).trans ((f144 10 (of_decide_eq_true rfl)).trans ((f124 10 (of_decide_eq_true rfl)).trans ((f82 10 (of_decide_eq_true rfl)).trans ((jkp 10 eσ51 (of_decide_eq_true rfl)).trans ((f46 10 (of_decide_eq_true rfl)).trans (f25 10 (of_decide_eq_true rfl))))))))))))))
                                     have z432 : (σ427 55 27).toInt = (σ396 55 27).toInt := (congrArg Int32.toInt (show σ427 55 27 = (σ396 55 27) from (jkp 27 eσ427 (of_decide_eq_true rfl))))
                                     have z433 : (σ427 55 50).toInt = (σ61 55 50).toInt + 1 := ((congrArg Int32.toInt (show σ427 55 50 = x426 from (jsp eσ427))).trans tx426)
                                     have p434 : jKept σ427 := jKept.fr ((jnp 75 eσ427 (of_decide_eq_true rfl)).trans ((f398 75 (of_decide_eq_true rfl)).trans ((jnp 75 eσ316 (of_decide_eq_true rfl)).trans ((jnp 75 eσ164 (of_decide_eq_true rfl)).trans ((jnp 75 eσ152 (of_decide_eq_true rfl)).trans (f143 75 (of_decide_eq_true rfl))))))) ((jnp 76 eσ427 (of_decide_eq_true rfl)).trans ((f398 76 (of_decide_eq_true rfl)).trans ((jnp 76 eσ316 (of_decide_eq_true rfl)).trans ((jnp 76 eσ164 (of_decide_eq_true rfl)).trans ((jnp 76 eσ152 (of_decide_eq_true rfl)).trans (f143 76 (of_decide_eq_true rfl))))))) ((jnp 77 eσ427 (of_decide_eq_true rfl)).trans ((f398 77 (of_decide_eq_true rfl)).trans ((jnp 77 eσ316 (of_decide_eq_true rfl)).trans ((jnp 77 eσ164 (of_decide_eq_true rfl)).trans ((jnp 77 eσ152 (of_decide_eq_true rfl)).trans (f143 77 (of_decide_eq_true rfl))))))) p125
                                     have p435 : jqSt σ427 := jqSt.fr ((jnp 78 eσ427 (of_decide_eq_true rfl)).trans ((f398 78 (of_decide_eq_true rfl)).trans ((jnp 78 eσ316 (of_decide_eq_true rfl)).trans ((jnp 78 eσ164 (of_decide_eq_true rfl)).trans ((jnp 78 eσ152 (of_decide_eq_true rfl)).trans (f143 78 (of_decide_eq_true rfl))))))) ((jkp 42 eσ427 (of_decide_eq_true rfl)).trans ((f399 42 (of_decide_eq_true rfl)).trans ((congrFun (jnp 55 eσ316 (of_decide_eq_true rfl)) 42).trans ((congrFun (jnp 55 eσ164 (of_decide_eq_true rfl)) 42).trans ((congrFun (jnp 55 eσ152 (of_decide_eq_true rfl)) 42).trans (f144 42 (of_decide_eq_true rfl))))))) p127
                                     have I436 : jI109 σ427 := (show 0 ≤ (σ427 55 50).toInt ∧ (σ427 55 50).toInt ≤ 12 by omega)
                                     have w437 : ∀ k : Nat, k < 4 → 0 ≤ (σ427 68 k).toInt ∧ (σ427 68 k).toInt ≤ 3 := (jrr_fr (jnp 68 eσ427 (of_decide_eq_true rfl)) w400)
                                     have I438 : jI119 σ427 := w437
                                     exact by exact ihlp52 x418 x169 0 σ427 _ _ ls (by have h92 := jz_0; omega) (by have h92 := jz_0; omega) (by have h92 := jz_0; omega) (by have h92 := jz_0; omega) (by have h92 := jz_0; omega) (by have h92 := jz_0; omega) (by have h92 := jz_0; omega) (fun i hi => ((jnp i eσ427 (imp_282 i hi)).trans ((f398 i (imp_284 i hi)).trans ((jnp i eσ316 (imp_289 i hi)).trans ((jnp i eσ164 (imp_290 i hi)).trans ((jnp i eσ152 (imp_291 i hi)).trans ((f143 i (imp_292 i hi)).trans ((f123 i (imp_293 i hi)).trans (f81 i hi))))))))) (fun i hi => ((jkp i eσ427 (imp_294 i hi)).trans ((f399 i (imp_295 i hi)).trans ((congrFun (jnp 55 eσ316 (of_decide_eq_true rfl)) i).trans ((congrFun (jnp 55 eσ164 (of_decide_eq_true rfl)) i).trans ((congrFun (jnp 55 eσ152 (of_decide_eq_true rfl)) i).trans ((f144 i (imp_296 i hi)).trans ((f124 i (imp_297 i hi)).trans (f82 i hi)))))))))  p434 p435 I436 I438 hP hS (lv_sub hl [0, 3, 1, 7, 8, 9] rfl)
                                  · have kc423 := jnle c423 rfl tx421
                                    refine lv_iconst (v := 1) hx hb dX12_game_213 (of_decide_eq_true rfl) ?_
                                    refine lv_goto (tgt := 218) hx hb dX12_game_214 (of_decide_eq_true rfl) ?_
                                    refine lv_istore (lv' := [(5, .int 1), (3, .int x418), (9, .int r397), (4, .int x169), (8, .int r142), (7, .int x135), (6, .int r122), (0, .ref (ad 55)), (1, .int a1), (2, .int a2)]) hx hb dX12_game_218 hl (of_decide_eq_true rfl) rfl (fun ls hl => ?_)
                                    refine lv_aload_n hx hb dX12_game_220 rfl (lv_at hl 7 rfl) ?_
                                    refine lv_dup hx hb dX12_game_221 rfl ?_
                                    refine va_get (D := D) hx hb hts inlX12 hown hK hP 55 (jc_55 cI cL ad σ396 τ) rfl 50 (of_decide_eq_true rfl) (hts _ kw_46_13) (fun _ h9 => h9) rfl dX12_game_222 ?_
                                    have m439 : σ396 55 50 = (σ61 55 50) := ((f399 50 (of_decide_eq_true rfl)).trans m317)
                                    refine jtopr m439 ?_
                                    refine lv_iconst (v := 1) hx hb dX12_game_225 (of_decide_eq_true rfl) ?_
                                    have g440 := jrg (rfl : (σ61 55 50).toInt = (σ61 55 50).toInt)
                                    refine lv_iadd hx hb dX12_game_226 ?_
                                    refine lv_topi (fun x441 ex441 => ?_)
                                    exact by
                                     have tx441 : x441.toInt = (σ61 55 50).toInt + 1 := (jadd ex441 rfl jz_1 (by omega) (by omega)).trans (by omega)
                                     refine jput (ty := .int) hx hb hts inlX12 tyX12 tyX12_ok nmX12 hown hK hP hJ hA hS (jc_55 cI cL ad σ396 τ) rfl (k := 50) (of_decide_eq_true rfl) (Nat.le_of_ble_eq_true rfl) (jp_55_50 cI cL ad σ396 τ x441) (hts _ kw_46_13) (fun _ h9 => h9) rfl (by decide +kernel) rfl rfl dX12_game_227 (fun σ442 H locs eσ442 hP hS => ?_)
                                     refine lv_goto (tgt := 43) hx hb dX12_game_230 (of_decide_eq_true rfl) ?_
                                     have z443 : (σ442 55 12).toInt = (σ 55 12).toInt := (congrArg Int32.toInt (show σ442 55 12 = (σ 55 12) from ((jkp 12 eσ442 (of_decide_eq_true rfl)).trans ((f399 12 (of_decide_eq_true rfl)).trans ((congrFun (jnp 55 eσ316 (of_decide_eq_true rfl)) 12).trans ((congrFun (jnp 55 eσ164 (of_decide_eq_true rfl)) 12).trans ((congrFun (jnp 55 eσ152 (of_decide_eq_true rfl)) 12).trans ((f144 12 (of_decide_eq_true rfl)).trans ((f124 12 (of_decide_eq_true rfl)).trans ((f82 12 (of_decide_eq_true rfl)).trans ((jkp 12 eσ51 (of_decide_eq_true rfl)).trans ((f46 12 (of_decide_eq_true rfl)).trans (f25 12 (of_decide_eq_true rfl))))))))))))))
                                     have z444 : (σ442 55 26).toInt = (σ396 55 26).toInt := (congrArg Int32.toInt (show σ442 55 26 = (σ396 55 26) from (jkp 26 eσ442 (of_decide_eq_true rfl))))
                                     have z445 : (σ442 55 25).toInt = (σ396 55 25).toInt := (congrArg Int32.toInt (show σ442 55 25 = (σ396 55 25) from (jkp 25 eσ442 (of_decide_eq_true rfl))))
                                     have z446 : (σ442 55 10).toInt = (σ 55 10).toInt := (congrArg Int32.toInt (show σ442 55 10 = (σ 55 10) from ((jkp 10 eσ442 (of_decide_eq_true rfl)).trans ((f399 10 (of_decide_eq_true rfl)).trans ((congrFun (jnp 55 eσ316 (of_decide_eq_true rfl)) 10).trans ((congrFun (jnp 55 eσ164 (of_decide_eq_true rfl)) 10).trans ((congrFun (jnp 55 eσ152 (of_decide_eq_true rfl)) 10).trans ((f144 10 (of_decide_eq_true rfl)).trans ((f124 10 (of_decide_eq_true rfl)).trans ((f82 10 (of_decide_eq_true rfl)).trans ((jkp 10 eσ51 (of_decide_eq_true rfl)).trans ((f46 10 (of_decide_eq_true rfl)).trans (f25 10 (of_decide_eq_true rfl))))))))))))))
                                     have z447 : (σ442 55 27).toInt = (σ396 55 27).toInt := (congrArg Int32.toInt (show σ442 55 27 = (σ396 55 27) from (jkp 27 eσ442 (of_decide_eq_true rfl))))
                                     have z448 : (σ442 55 50).toInt = (σ61 55 50).toInt + 1 := ((congrArg Int32.toInt (show σ442 55 50 = x441 from (jsp eσ442))).trans tx441)
                                     have p449 : jKept σ442 := jKept.fr ((jnp 75 eσ442 (of_decide_eq_true rfl)).trans ((f398 75 (of_decide_eq_true rfl)).trans ((jnp 75 eσ316 (of_decide_eq_true rfl)).trans ((jnp 75 eσ164 (of_decide_eq_true rfl)).trans ((jnp 75 eσ152 (of_decide_eq_true rfl)).trans (f143 75 (of_decide_eq_true rfl))))))) ((jnp 76 eσ442 (of_decide_eq_true rfl)).trans ((f398 76 (of_decide_eq_true rfl)).trans ((jnp 76 eσ316 (of_decide_eq_true rfl)).trans ((jnp 76 eσ164 (of_decide_eq_true rfl)).trans ((jnp 76 eσ152 (of_decide_eq_true rfl)).trans (f143 76 (of_decide_eq_true rfl))))))) ((jnp 77 eσ442 (of_decide_eq_true rfl)).trans ((f398 77 (of_decide_eq_true rfl)).trans ((jnp 77 eσ316 (of_decide_eq_true rfl)).trans ((jnp 77 eσ164 (of_decide_eq_true rfl)).trans ((jnp 77 eσ152 (of_decide_eq_true rfl)).trans (f143 77 (of_decide_eq_true rfl))))))) p125
                                     have p450 : jqSt σ442 := jqSt.fr ((jnp 78 eσ442 (of_decide_eq_true rfl)).trans ((f398 78 (of_decide_eq_true rfl)).trans ((jnp 78 eσ316 (of_decide_eq_true rfl)).trans ((jnp 78 eσ164 (of_decide_eq_true rfl)).trans ((jnp 78 eσ152 (of_decide_eq_true rfl)).trans (f143 78 (of_decide_eq_true rfl))))))) ((jkp 42 eσ442 (of_decide_eq_true rfl)).trans ((f399 42 (of_decide_eq_true rfl)).trans ((congrFun (jnp 55 eσ316 (of_decide_eq_true rfl)) 42).trans ((congrFun (jnp 55 eσ164 (of_decide_eq_true rfl)) 42).trans ((congrFun (jnp 55 eσ152 (of_decide_eq_true rfl)) 42).trans (f144 42 (of_decide_eq_true rfl))))))) p127
                                     have I451 : jI109 σ442 := (show 0 ≤ (σ442 55 50).toInt ∧ (σ442 55 50).toInt ≤ 12 by omega)
                                     have w452 : ∀ k : Nat, k < 4 → 0 ≤ (σ442 68 k).toInt ∧ (σ442 68 k).toInt ≤ 3 := (jrr_fr (jnp 68 eσ442 (of_decide_eq_true rfl)) w400)
                                     have I453 : jI119 σ442 := w452
                                     exact by exact ihlp52 x418 x169 1 σ442 _ _ ls (by have h92 := jz_1; omega) (by have h92 := jz_1; omega) (by have h92 := jz_1; omega) (by have h92 := jz_1; omega) (by have h92 := jz_1; omega) (by have h92 := jz_1; omega) (by have h92 := jz_1; omega) (fun i hi => ((jnp i eσ442 (imp_282 i hi)).trans ((f398 i (imp_284 i hi)).trans ((jnp i eσ316 (imp_289 i hi)).trans ((jnp i eσ164 (imp_290 i hi)).trans ((jnp i eσ152 (imp_291 i hi)).trans ((f143 i (imp_292 i hi)).trans ((f123 i (imp_293 i hi)).trans (f81 i hi))))))))) (fun i hi => ((jkp i eσ442 (imp_294 i hi)).trans ((f399 i (imp_295 i hi)).trans ((congrFun (jnp 55 eσ316 (of_decide_eq_true rfl)) i).trans ((congrFun (jnp 55 eσ164 (of_decide_eq_true rfl)) i).trans ((congrFun (jnp 55 eσ152 (of_decide_eq_true rfl)) i).trans ((f144 i (imp_296 i hi)).trans ((f124 i (imp_297 i hi)).trans (f82 i hi)))))))))  p449 p450 I451 I453 hP hS (lv_sub hl [0, 3, 1, 7, 8, 9] rfl)
       exact by exact lp52 1000000 a2 0 0 σ51 _ _ ls (by have h90 := t2; have h91 := jz_0; have h92 := jz_0; omega) (by have h90 := t2; have h91 := jz_0; have h92 := jz_0; omega) (by have h90 := t2; have h91 := jz_0; have h92 := jz_0; omega) (by have h90 := t2; have h91 := jz_0; have h92 := jz_0; omega) (by have h90 := t2; have h91 := jz_0; have h92 := jz_0; omega) (by have h90 := t2; have h91 := jz_0; have h92 := jz_0; omega) (by have h90 := t2; have h91 := jz_0; have h92 := jz_0; omega) (fun _ _ => rfl) (fun _ _ => rfl)  p72 p73 I63 I65 hP hS hl
    · have kc20 := jnle c20 rfl jz_8
      refine lv_bipush (v := (-4)) hx hb dX12_game_19 (of_decide_eq_true rfl) ?_
      exact by exact hret (-4) σ τ _ _ _ _ rfl ⟨rfl, (fun _ _ => rfl), (fun _ _ => rfl), hI109, hI119, hs_jKept, hs_jTR, hs_jqSt, (by omega), (by omega), trivial⟩ hP hS dX12_game_21
  · obtain ⟨q455, k454⟩ := h17
    have q455 := q455.symm
    subst q455
    refine lv_if_ne (tgt := 10) hx hb dX12_game_5 (of_decide_eq_true rfl) (fun c => absurd (of_decide_eq_true rfl) c) (fun _ => ?_)
    refine lv_iconst (v := (-1)) hx hb dX12_game_8 (of_decide_eq_true rfl) ?_
    exact by exact hret (-1) σ τ _ _ _ _ rfl ⟨rfl, (fun _ _ => rfl), (fun _ _ => rfl), hI109, hI119, hs_jKept, hs_jTR, hs_jqSt, (by omega), (by omega), trivial⟩ hP hS dX12_game_9
set_option maxHeartbeats 4000000 in
set_option maxRecDepth 100000 in
theorem c_X12_led (l : Launch) (D : va_G) (cI cL : ClassId) (ad zz : Nat → Nat) (hJ : jD ad) (σ : Nat → Nat → Int32) (τ : Nat → Nat → Int64) (a1 : Int32) (A1 : Int) (t1 : a1.toInt = A1) (a2 : Int32) (A2 : Int) (t2 : a2.toInt = A2) (hI109 : jI109 σ) : jM l yX12_led cX12_led 3 (some .int) ({ frames := 1, cells := 0, slots := 0, locals := 25 }) D cI cL ad zz [.ref (ad 55), .int a1, .int a2] σ τ (fun r σ' τ' => (σ = σ' ∧ τ = τ') ∧ True) := by
  refine jM.of hJ (by decide +kernel) (nt := .int) rfl (Nat.le_of_ble_eq_true rfl) ?_
  intro p e s m args below meth c Q ls hC hret hl hP
  obtain ⟨hx, hb, hr, hml, hown, hts, hK, -, hlocks, hZ⟩ := hC
  have hown : s.vm.findClass RX12 = some m.cls := hown
  have hS : va_S (jA ad) s.heap s.heap [] := va_S.rf
  have hA : ∀ q, jA ad q → jA ad q := fun _ h => h
  have hl : lv_has ls 3 [(0, .ref (ad 55)), (1, .int a1), (2, .int a2)] := hl
  have g1 := jrg t1
  have g2 := jrg t2
  have i1 : 0 ≤ (σ 55 50).toInt ∧ (σ 55 50).toInt ≤ 12 := hI109
  refine lv_iload_n hx hb dX12_led_0 rfl (lv_at hl 1 rfl) ?_
  refine lv_iconst (v := (-1)) hx hb dX12_led_1 (of_decide_eq_true rfl) ?_
  refine lv_icmp_ne (tgt := 18) hx hb dX12_led_2 (of_decide_eq_true rfl) (fun c2 => ?_) (fun c2 => ?_)
  · have kc2 := jne c2 t1 jz_m1
    refine lv_iload_n hx hb dX12_led_18 rfl (lv_at hl 1 rfl) ?_
    refine lv_i2l (v := a1.toInt64) hx hb dX12_led_19 rfl ?_
    refine lv_lconst (v := 0) hx hb dX12_led_20 (of_decide_eq_true rfl) ?_
    refine lv_aload_n hx hb dX12_led_21 rfl (lv_at hl 0 rfl) ?_
    refine va_get (D := D) hx hb hts inlX12 hown hK hP 55 (jc_55 cI cL ad σ τ) rfl 50 (of_decide_eq_true rfl) (hts _ kw_46_13) (fun _ h9 => h9) rfl dX12_led_22 ?_
    refine lv_iconst (v := 1) hx hb dX12_led_25 (of_decide_eq_true rfl) ?_
    have g3 := jrg (rfl : (σ 55 50).toInt = (σ 55 50).toInt)
    refine lv_isub hx hb dX12_led_26 ?_
    refine lv_topi (fun x4 ex4 => ?_)
    exact by
     have tx4 : x4.toInt = (σ 55 50).toInt - 1 := (jsub ex4 rfl jz_1 (by omega) (by omega)).trans (by omega)
     refine lv_i2l (v := x4.toInt64) hx hb dX12_led_27 rfl ?_
     refine jcallS (As := [.long a1.toInt64, .long 0, .long x4.toInt64]) (rest := []) ⟨hx, hb, hml, hown, hts⟩ hK hP hA hS hZ (c_X12_within l D cI cL ad zz hJ σ τ a1.toInt64 (A1) (jtoL t1) 0 (0) jzl_0 x4.toInt64 ((σ 55 50).toInt - 1) (jtoL tx4)) cw_RX12_136 ⟨Nat.le_of_ble_eq_true rfl, Nat.le_of_ble_eq_true rfl⟩ rfl rfl rfl hl.1 rfl (Nat.le_of_ble_eq_true rfl) dX12_led_28 ⟨Nat.zero_le _, Nat.zero_le _⟩ (fun r6 σ5 τ5 H locs h5 hP hS => ?_)
     obtain ⟨⟨rfl, rfl⟩, h5⟩ := h5
     rcases h5 with h7 | h8
     · obtain ⟨q10, k9⟩ := h7
       have q10 := q10.symm
       subst q10
       refine lv_if_ne (tgt := 36) hx hb dX12_led_31 (of_decide_eq_true rfl) (fun _ => ?_) (fun c => absurd c (of_decide_eq_true rfl))
       refine lv_iload_n hx hb dX12_led_36 rfl (lv_at hl 2 rfl) ?_
       by_cases c11 : a2 = 0
       · have kc11 := jeq c11 t2 jz_0
         refine jtopr c11 ?_
         refine lv_tableIn (off := 27) (tgt := 64) hx hb dX12_led_37 (of_decide_eq_true rfl) (of_decide_eq_true rfl) (of_decide_eq_true rfl) (of_decide_eq_true rfl) ?_
         refine lv_aload_n hx hb dX12_led_64 rfl (lv_at hl 0 rfl) ?_
         refine va_get (D := D) hx hb hts inlX12 hown hK hP 55 (jc_55 cI cL ad σ τ) rfl 51 (of_decide_eq_true rfl) (hts _ kw_8_7) (fun _ h9 => h9) rfl dX12_led_65 ?_
         refine lv_iload_n hx hb dX12_led_68 rfl (lv_at hl 1 rfl) ?_
         exact by
          refine jald hx hb hK hP (jc_82 cI cL ad σ τ) (jin t1 (by omega) (by omega)) dX12_led_69 ?_
          refine lv_topi (fun x12 ex12 => ?_)
          exact hret x12 σ τ _ _ _ _ rfl ⟨⟨rfl, rfl⟩, trivial⟩ hP hS dX12_led_70
       have kc11 := jne c11 t2 jz_0
       by_cases c13 : a2 = 1
       · have kc13 := jeq c13 t2 jz_1
         refine jtopr c13 ?_
         refine lv_tableIn (off := 34) (tgt := 71) hx hb dX12_led_37 (of_decide_eq_true rfl) (of_decide_eq_true rfl) (of_decide_eq_true rfl) (of_decide_eq_true rfl) ?_
         refine lv_aload_n hx hb dX12_led_71 rfl (lv_at hl 0 rfl) ?_
         refine va_get (D := D) hx hb hts inlX12 hown hK hP 55 (jc_55 cI cL ad σ τ) rfl 52 (of_decide_eq_true rfl) (hts _ kw_8_8) (fun _ h9 => h9) rfl dX12_led_72 ?_
         refine lv_iload_n hx hb dX12_led_75 rfl (lv_at hl 1 rfl) ?_
         exact by
          refine jald hx hb hK hP (jc_83 cI cL ad σ τ) (jin t1 (by omega) (by omega)) dX12_led_76 ?_
          refine lv_topi (fun x14 ex14 => ?_)
          exact hret x14 σ τ _ _ _ _ rfl ⟨⟨rfl, rfl⟩, trivial⟩ hP hS dX12_led_77
       have kc13 := jne c13 t2 jz_1
       by_cases c15 : a2 = 2
       · have kc15 := jeq c15 t2 jz_2
         refine jtopr c15 ?_
         refine lv_tableIn (off := 41) (tgt := 78) hx hb dX12_led_37 (of_decide_eq_true rfl) (of_decide_eq_true rfl) (of_decide_eq_true rfl) (of_decide_eq_true rfl) ?_
         refine lv_aload_n hx hb dX12_led_78 rfl (lv_at hl 0 rfl) ?_
         refine va_get (D := D) hx hb hts inlX12 hown hK hP 55 (jc_55 cI cL ad σ τ) rfl 53 (of_decide_eq_true rfl) (hts _ kw_8_9) (fun _ h9 => h9) rfl dX12_led_79 ?_
         refine lv_iload_n hx hb dX12_led_82 rfl (lv_at hl 1 rfl) ?_
         exact by
          refine jald hx hb hK hP (jc_84 cI cL ad σ τ) (jin t1 (by omega) (by omega)) dX12_led_83 ?_
          refine lv_topi (fun x16 ex16 => ?_)
          exact hret x16 σ τ _ _ _ _ rfl ⟨⟨rfl, rfl⟩, trivial⟩ hP hS dX12_led_84
       have kc15 := jne c15 t2 jz_2
       refine lv_tableOut (tgt := 85) hx hb dX12_led_37 (by rw [t2]; omega) (of_decide_eq_true rfl) ?_
       refine lv_iconst (v := (-1)) hx hb dX12_led_85 (of_decide_eq_true rfl) ?_
       exact hret (-1) σ τ _ _ _ _ rfl ⟨⟨rfl, rfl⟩, trivial⟩ hP hS dX12_led_86
     · obtain ⟨q18, k17⟩ := h8
       have q18 := q18.symm
       exact by
        subst q18
        refine lv_if_ne (tgt := 36) hx hb dX12_led_31 (of_decide_eq_true rfl) (fun c => absurd (of_decide_eq_true rfl) c) (fun _ => ?_)
        refine lv_iconst (v := (-1)) hx hb dX12_led_34 (of_decide_eq_true rfl) ?_
        exact hret (-1) σ τ _ _ _ _ rfl ⟨⟨rfl, rfl⟩, trivial⟩ hP hS dX12_led_35
  · have kc2 := jeq c2 t1 jz_m1
    refine lv_iload_n hx hb dX12_led_5 rfl (lv_at hl 2 rfl) ?_
    refine lv_if_ne (tgt := 16) hx hb dX12_led_6 (of_decide_eq_true rfl) (fun c19 => ?_) (fun c19 => ?_)
    · have kc19 := jne c19 t2 jz_0
      refine lv_iconst (v := (-1)) hx hb dX12_led_16 (of_decide_eq_true rfl) ?_
      exact hret (-1) σ τ _ _ _ _ rfl ⟨⟨rfl, rfl⟩, trivial⟩ hP hS dX12_led_17
    · have kc19 := jeq c19 t2 jz_0
      refine lv_aload_n hx hb dX12_led_9 rfl (lv_at hl 0 rfl) ?_
      refine va_get (D := D) hx hb hts inlX12 hown hK hP 55 (jc_55 cI cL ad σ τ) rfl 50 (of_decide_eq_true rfl) (hts _ kw_46_13) (fun _ h9 => h9) rfl dX12_led_10 ?_
      refine lv_goto (tgt := 17) hx hb dX12_led_13 (of_decide_eq_true rfl) ?_
      exact hret (σ 55 50) σ τ _ _ _ _ rfl ⟨⟨rfl, rfl⟩, trivial⟩ hP hS dX12_led_17
