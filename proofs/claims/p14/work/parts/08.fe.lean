set_option maxHeartbeats 4000000 in
set_option maxRecDepth 100000 in
theorem c_X12_cost (l : Launch) (D : va_G) (cI cL : ClassId) (ad zz : Nat → Nat) (hJ : jD ad) (σ : Nat → Nat → Int32) (τ : Nat → Nat → Int64) (a1 : Int32) (A1 : Int) (t1 : a1.toInt = A1) (hI101 : jI101 σ) (hI102 : jI102 σ) (hI103 : jI103 σ) (hI104 : jI104 σ) (hI105 : jI105 σ) (hI106 : jI106 σ) (hI107 : jI107 σ) (hI119 : jI119 σ) (hs_jKept : jKept σ) (hs_jBook : jBook σ) (hs_jTR : jTR σ) (hs_jqSt : jqSt σ) (hp0 : 0 ≤ (σ 55 42).toInt ∧ (σ 55 42).toInt ≤ 999999998) : jM l yX12_cost cX12_cost 2 (some .int) ({ frames := 104, cells := 0, slots := 0, locals := 5083 }) D cI cL ad zz [.ref (ad 55), .int a1] σ τ (fun r σ' τ' => τ = τ' ∧ (∀ i : Nat, (i < 55 ∨ 55 < i) ∧ (i < 66 ∨ 66 < i) ∧ (i < 68 ∨ 69 < i) ∧ (i < 74 ∨ 78 < i) → σ' i = σ i) ∧ (∀ k : Nat, (k < 18 ∨ 18 < k) ∧ (k < 19 ∨ 19 < k) ∧ (k < 20 ∨ 20 < k) ∧ (k < 21 ∨ 21 < k) ∧ (k < 22 ∨ 22 < k) ∧ (k < 25 ∨ 25 < k) ∧ (k < 26 ∨ 26 < k) ∧ (k < 27 ∨ 27 < k) ∧ (k < 37 ∨ 37 < k) ∧ (k < 42 ∨ 42 < k) → σ' 55 k = σ 55 k) ∧ (jI119 σ') ∧ (jKept σ') ∧ (jBook σ') ∧ (jTR σ') ∧ (jqSt σ') ∧ ((σ 55 42).toInt ≤ (σ' 55 42).toInt) ∧ ((σ' 55 42).toInt ≤ (σ 55 42).toInt + 1) ∧ True) := by
  refine jM.of hJ (by decide +kernel) (nt := .int) rfl (Nat.le_of_ble_eq_true rfl) ?_
  intro p e s m args below meth c Q ls hC hret hl hP
  obtain ⟨hx, hb, hr, hml, hown, hts, hK, -, hlocks, hZ⟩ := hC
  have hown : s.vm.findClass RX12 = some m.cls := hown
  have hS : va_S (jA ad) s.heap s.heap [] := va_S.rf
  have hA : ∀ q, jA ad q → jA ad q := fun _ h => h
  have hl : lv_has ls 2 [(0, .ref (ad 55)), (1, .int a1)] := hl
  have g1 := jrg t1
  obtain ⟨i1, i2, i3, w4, w5⟩ : (1 ≤ (σ 55 10).toInt ∧ (σ 55 10).toInt ≤ 8) ∧ (1 ≤ (σ 55 12).toInt ∧ (σ 55 12).toInt ≤ 12) ∧ (0 ≤ (σ 55 13).toInt ∧ (σ 55 13).toInt ≤ 999) ∧ (∀ k : Nat, k < 8 → 0 ≤ (σ 62 k).toInt ∧ (σ 62 k).toInt ≤ 3) ∧ (∀ k : Nat, k < 8 → 0 ≤ (σ 67 k).toInt ∧ (σ 67 k).toInt ≤ 3) := id hI104
  obtain ⟨i6, i7, w8⟩ : (0 ≤ (σ 55 47).toInt ∧ (σ 55 47).toInt ≤ 12) ∧ ((σ 55 47).toInt ≤ (σ 55 12).toInt) ∧ (∀ k : Nat, k < 12 → 0 ≤ (σ 80 k).toInt ∧ (σ 80 k).toInt ≤ 3) := id hI107
  refine lv_iload_n hx hb dX12_cost_0 rfl (lv_at hl 1 rfl) ?_
  refine lv_i2l (v := a1.toInt64) hx hb dX12_cost_1 rfl ?_
  refine lv_lconst (v := 0) hx hb dX12_cost_2 (of_decide_eq_true rfl) ?_
  refine lv_aload_n hx hb dX12_cost_3 rfl (lv_at hl 0 rfl) ?_
  refine va_get (D := D) hx hb hts inlX12 hown hK hP 55 (jc_55 cI cL ad σ τ) rfl 47 (of_decide_eq_true rfl) (hts _ kw_15_15) (fun _ h9 => h9) rfl dX12_cost_4 ?_
  refine lv_iconst (v := 1) hx hb dX12_cost_7 (of_decide_eq_true rfl) ?_
  have g9 := jrg (rfl : (σ 55 47).toInt = (σ 55 47).toInt)
  refine lv_isub hx hb dX12_cost_8 ?_
  refine lv_topi (fun x10 ex10 => ?_)
  exact by
   have tx10 : x10.toInt = (σ 55 47).toInt - 1 := (jsub ex10 rfl jz_1 (by omega) (by omega)).trans (by omega)
   refine lv_i2l (v := x10.toInt64) hx hb dX12_cost_9 rfl ?_
   refine jcallS (As := [.long a1.toInt64, .long 0, .long x10.toInt64]) (rest := []) ⟨hx, hb, hml, hown, hts⟩ hK hP hA hS hZ (c_X12_within l D cI cL ad zz hJ σ τ a1.toInt64 (A1) (jtoL t1) 0 (0) jzl_0 x10.toInt64 ((σ 55 47).toInt - 1) (jtoL tx10)) cw_RX12_136 ⟨Nat.le_of_ble_eq_true rfl, Nat.le_of_ble_eq_true rfl⟩ rfl rfl rfl hl.1 rfl (Nat.le_of_ble_eq_true rfl) dX12_cost_10 ⟨Nat.zero_le _, Nat.zero_le _⟩ (fun r12 σ11 τ11 H locs h11 hP hS => ?_)
   obtain ⟨⟨rfl, rfl⟩, h11⟩ := h11
   rcases h11 with h13 | h14
   · obtain ⟨q16, k15⟩ := h13
     have q16 := q16.symm
     subst q16
     refine lv_if_eq (tgt := 27) hx hb dX12_cost_13 (of_decide_eq_true rfl) (fun c => absurd c (of_decide_eq_true rfl)) (fun _ => ?_)
     refine lv_aload_n hx hb dX12_cost_16 rfl (lv_at hl 0 rfl) ?_
     refine va_get (D := D) hx hb hts inlX12 hown hK hP 55 (jc_55 cI cL ad σ τ) rfl 12 (of_decide_eq_true rfl) (hts _ kw_8_16) (fun _ h9 => h9) rfl dX12_cost_17 ?_
     refine lv_iload_n hx hb dX12_cost_20 rfl (lv_at hl 1 rfl) ?_
     have g17 := jrg (rfl : (σ 55 12).toInt = (σ 55 12).toInt)
     refine lv_isub hx hb dX12_cost_21 ?_
     refine lv_topi (fun x18 ex18 => ?_)
     exact by
      have tx18 : x18.toInt = (σ 55 12).toInt - A1 := (jsub ex18 rfl t1 (by omega) (by omega)).trans (by omega)
      refine lv_bipush (v := 8) hx hb dX12_cost_22 (of_decide_eq_true rfl) ?_
      refine lv_icmp_le (tgt := 32) hx hb dX12_cost_24 (of_decide_eq_true rfl) (fun c19 => ?_) (fun c19 => ?_)
      · have kc19 := jle c19 tx18 jz_8
        refine lv_aload_n hx hb dX12_cost_32 rfl (lv_at hl 0 rfl) ?_
        refine lv_iload_n hx hb dX12_cost_33 rfl (lv_at hl 1 rfl) ?_
        refine jcallV (As := [.int a1]) (rest := []) ⟨hx, hb, hml, hown, hts⟩ hK hP hA hS hZ (c_X12_costOf l D cI cL ad zz hJ σ τ a1 (A1) t1 hI101 hI102 hI103 hI104 hI105 hI106 hI107 hI119 hs_jKept hs_jBook hs_jTR hs_jqSt (by omega) (by omega) (by omega) (by omega)) cw_RX12_369 (jc_55 cI cL ad σ τ) rfl ⟨Nat.le_of_ble_eq_true rfl, Nat.le_of_ble_eq_true rfl⟩ rfl rfl rfl hl.1 rfl (Nat.le_of_ble_eq_true rfl) dX12_cost_34 ⟨Nat.zero_le _, Nat.zero_le _⟩ (fun r21 σ20 τ20 H locs h20 hP hS => ?_)
        obtain ⟨rfl, f22, f23, I24, p25, p26, p27, p28, h20⟩ := h20
        obtain ⟨k30, k31, h20⟩ := h20
        exact by exact hret r21 σ20 τ _ _ _ _ rfl ⟨rfl, (fun i hi => (f22 i hi)), (fun i hi => (f23 i hi)), I24, p25, p26, p27, p28, (by omega), (by omega), trivial⟩ hP hS dX12_cost_37
      · exact by
         have kc19 := jnle c19 tx18 jz_8
         refine lv_ldc (v := (-2000000000)) hx hb hown (hts _ kw_11_4) dX12_cost_27 ?_
         refine lv_goto (tgt := 37) hx hb dX12_cost_29 (of_decide_eq_true rfl) ?_
         exact by exact hret (-2000000000) σ τ _ _ _ _ rfl ⟨rfl, (fun _ _ => rfl), (fun _ _ => rfl), hI119, hs_jKept, hs_jBook, hs_jTR, hs_jqSt, (by omega), (by omega), trivial⟩ hP hS dX12_cost_37
   · obtain ⟨q33, k32⟩ := h14
     have q33 := q33.symm
     subst q33
     refine lv_if_eq (tgt := 27) hx hb dX12_cost_13 (of_decide_eq_true rfl) (fun _ => ?_) (fun c => absurd (of_decide_eq_true rfl) c)
     refine lv_ldc (v := (-2000000000)) hx hb hown (hts _ kw_11_4) dX12_cost_27 ?_
     refine lv_goto (tgt := 37) hx hb dX12_cost_29 (of_decide_eq_true rfl) ?_
     exact by exact hret (-2000000000) σ τ _ _ _ _ rfl ⟨rfl, (fun _ _ => rfl), (fun _ _ => rfl), hI119, hs_jKept, hs_jBook, hs_jTR, hs_jqSt, (by omega), (by omega), trivial⟩ hP hS dX12_cost_37
set_option maxHeartbeats 4000000 in
set_option maxRecDepth 100000 in
theorem c_X12_lost (l : Launch) (D : va_G) (cI cL : ClassId) (ad zz : Nat → Nat) (hJ : jD ad) (σ : Nat → Nat → Int32) (τ : Nat → Nat → Int64) (a1 : Int32) (A1 : Int) (t1 : a1.toInt = A1) (hI101 : jI101 σ) (hI102 : jI102 σ) (hI103 : jI103 σ) (hI104 : jI104 σ) (hI105 : jI105 σ) (hI106 : jI106 σ) (hI107 : jI107 σ) (hI119 : jI119 σ) (hs_jKept : jKept σ) (hs_jBook : jBook σ) (hs_jTR : jTR σ) (hs_jqSt : jqSt σ) (hp0 : 0 ≤ (σ 55 42).toInt ∧ (σ 55 42).toInt ≤ 999999976) : jM l yX12_lost cX12_lost 7 (some .int) ({ frames := 104, cells := 0, slots := 0, locals := 5083 }) D cI cL ad zz [.ref (ad 55), .int a1] σ τ (fun r σ' τ' => τ = τ' ∧ (∀ i : Nat, (i < 55 ∨ 55 < i) ∧ (i < 66 ∨ 66 < i) ∧ (i < 68 ∨ 69 < i) ∧ (i < 74 ∨ 78 < i) → σ' i = σ i) ∧ (∀ k : Nat, (k < 18 ∨ 18 < k) ∧ (k < 19 ∨ 19 < k) ∧ (k < 20 ∨ 20 < k) ∧ (k < 21 ∨ 21 < k) ∧ (k < 22 ∨ 22 < k) ∧ (k < 25 ∨ 25 < k) ∧ (k < 26 ∨ 26 < k) ∧ (k < 27 ∨ 27 < k) ∧ (k < 37 ∨ 37 < k) ∧ (k < 42 ∨ 42 < k) → σ' 55 k = σ 55 k) ∧ (jI119 σ') ∧ (jKept σ') ∧ (jBook σ') ∧ (jTR σ') ∧ (jqSt σ') ∧ ((σ 55 42).toInt ≤ (σ' 55 42).toInt) ∧ ((σ' 55 42).toInt ≤ (σ 55 42).toInt + 12) ∧ True) := by
  refine jM.of hJ (by decide +kernel) (nt := .int) rfl (Nat.le_of_ble_eq_true rfl) ?_
  intro p e s m args below meth c Q ls hC hret hl hP
  obtain ⟨hx, hb, hr, hml, hown, hts, hK, -, hlocks, hZ⟩ := hC
  have hown : s.vm.findClass RX12 = some m.cls := hown
  have hS : va_S (jA ad) s.heap s.heap [] := va_S.rf
  have hA : ∀ q, jA ad q → jA ad q := fun _ h => h
  have hl : lv_has ls 7 [(0, .ref (ad 55)), (1, .int a1)] := hl
  have g1 := jrg t1
  obtain ⟨i1, i2, i3, w4, w5⟩ : (1 ≤ (σ 55 10).toInt ∧ (σ 55 10).toInt ≤ 8) ∧ (1 ≤ (σ 55 12).toInt ∧ (σ 55 12).toInt ≤ 12) ∧ (0 ≤ (σ 55 13).toInt ∧ (σ 55 13).toInt ≤ 999) ∧ (∀ k : Nat, k < 8 → 0 ≤ (σ 62 k).toInt ∧ (σ 62 k).toInt ≤ 3) ∧ (∀ k : Nat, k < 8 → 0 ≤ (σ 67 k).toInt ∧ (σ 67 k).toInt ≤ 3) := id hI104
  obtain ⟨i6, i7, w8⟩ : (0 ≤ (σ 55 47).toInt ∧ (σ 55 47).toInt ≤ 12) ∧ ((σ 55 47).toInt ≤ (σ 55 12).toInt) ∧ (∀ k : Nat, k < 12 → 0 ≤ (σ 80 k).toInt ∧ (σ 80 k).toInt ≤ 3) := id hI107
  refine lv_iload_n hx hb dX12_lost_0 rfl (lv_at hl 1 rfl) ?_
  refine lv_i2l (v := a1.toInt64) hx hb dX12_lost_1 rfl ?_
  refine lv_lconst (v := 0) hx hb dX12_lost_2 (of_decide_eq_true rfl) ?_
  refine lv_ldc2 (v := 2) hx hb hown (hts _ kw_11_3) dX12_lost_3 ?_
  refine jcallS (As := [.long a1.toInt64, .long 0, .long 2]) (rest := []) ⟨hx, hb, hml, hown, hts⟩ hK hP hA hS hZ (c_X12_within l D cI cL ad zz hJ σ τ a1.toInt64 (A1) (jtoL t1) 0 (0) jzl_0 2 (2) jzl_2) cw_RX12_136 ⟨Nat.le_of_ble_eq_true rfl, Nat.le_of_ble_eq_true rfl⟩ rfl rfl rfl hl.1 rfl (Nat.le_of_ble_eq_true rfl) dX12_lost_6 ⟨Nat.zero_le _, Nat.zero_le _⟩ (fun r10 σ9 τ9 H locs h9 hP hS => ?_)
  obtain ⟨⟨rfl, rfl⟩, h9⟩ := h9
  rcases h9 with h11 | h12
  · obtain ⟨q14, k13⟩ := h11
    have q14 := q14.symm
    subst q14
    refine lv_if_eq (tgt := 19) hx hb dX12_lost_9 (of_decide_eq_true rfl) (fun c => absurd c (of_decide_eq_true rfl)) (fun _ => ?_)
    refine lv_aload_n hx hb dX12_lost_12 rfl (lv_at hl 0 rfl) ?_
    refine va_get (D := D) hx hb hts inlX12 hown hK hP 55 (jc_55 cI cL ad σ τ) rfl 47 (of_decide_eq_true rfl) (hts _ kw_15_15) (fun _ h9 => h9) rfl dX12_lost_13 ?_
    refine lv_if_ne (tgt := 21) hx hb dX12_lost_16 (of_decide_eq_true rfl) (fun c15 => ?_) (fun c15 => ?_)
    · have kc15 := jne c15 rfl jz_0
      refine lv_aload_n hx hb dX12_lost_21 rfl (lv_at hl 0 rfl) ?_
      refine va_get (D := D) hx hb hts inlX12 hown hK hP 55 (jc_55 cI cL ad σ τ) rfl 12 (of_decide_eq_true rfl) (hts _ kw_8_16) (fun _ h9 => h9) rfl dX12_lost_22 ?_
      refine lv_bipush (v := 8) hx hb dX12_lost_25 (of_decide_eq_true rfl) ?_
      refine lv_icmp_le (tgt := 33) hx hb dX12_lost_27 (of_decide_eq_true rfl) (fun c16 => ?_) (fun c16 => ?_)
      · have kc16 := jle c16 rfl jz_8
        refine lv_iconst (v := 0) hx hb dX12_lost_33 (of_decide_eq_true rfl) ?_
        refine lv_istore_n (lv' := [(2, .int 0), (0, .ref (ad 55)), (1, .int a1)]) hx hb dX12_lost_34 rfl hl (of_decide_eq_true rfl) rfl (fun ls hl => ?_)
        refine lv_ldc (v := (-2000000000)) hx hb hown (hts _ kw_11_4) dX12_lost_35 ?_
        refine lv_istore_n (lv' := [(3, .int (-2000000000)), (2, .int 0), (0, .ref (ad 55)), (1, .int a1)]) hx hb dX12_lost_37 rfl hl (of_decide_eq_true rfl) rfl (fun ls hl => ?_)
        refine lv_iconst (v := 0) hx hb dX12_lost_38 (of_decide_eq_true rfl) ?_
        refine lv_istore (lv' := [(4, .int 0), (3, .int (-2000000000)), (2, .int 0), (0, .ref (ad 55)), (1, .int a1)]) hx hb dX12_lost_39 hl (of_decide_eq_true rfl) rfl (fun ls hl => ?_)
        refine lv_iconst (v := 0) hx hb dX12_lost_41 (of_decide_eq_true rfl) ?_
        refine lv_istore (lv' := [(5, .int 0), (4, .int 0), (3, .int (-2000000000)), (2, .int 0), (0, .ref (ad 55)), (1, .int a1)]) hx hb dX12_lost_42 hl (of_decide_eq_true rfl) rfl (fun ls hl => ?_)
        have lp17 : ∀ (n18 : Nat) (x19 : Int32) (x20 : Int32) (x21 : Int32) (x22 : Int32) (σ24 : Nat → Nat → Int32) (H : Heap) (locs : List Loc) (ls : Array Slot), ((σ24 55 47).toInt - x22.toInt : Int) < n18 → 0 ≤ x22.toInt → x22.toInt ≤ 12 → x22.toInt ≤ (σ24 55 47).toInt → (σ 55 42).toInt ≤ (σ24 55 42).toInt → (σ24 55 42).toInt ≤ (σ 55 42).toInt + x22.toInt → (∀ i : Nat, (i < 55 ∨ 55 < i) ∧ (i < 66 ∨ 66 < i) ∧ (i < 68 ∨ 69 < i) ∧ (i < 74 ∨ 78 < i) → σ24 i = σ i) → (∀ k : Nat, (k < 18 ∨ 18 < k) ∧ (k < 19 ∨ 19 < k) ∧ (k < 20 ∨ 20 < k) ∧ (k < 21 ∨ 21 < k) ∧ (k < 22 ∨ 22 < k) ∧ (k < 25 ∨ 25 < k) ∧ (k < 26 ∨ 26 < k) ∧ (k < 27 ∨ 27 < k) ∧ (k < 37 ∨ 37 < k) ∧ (k < 42 ∨ 42 < k) → σ24 55 k = σ 55 k) → jKept σ24 → jqSt σ24 → jI119 σ24 → jH D cI cL ad σ24 τ H → va_S (jA ad) s.heap H locs → lv_has ls 7 [(5, .int x22), (4, .int x21), (3, .int x20), (2, .int x19), (0, .ref (ad 55)), (1, .int a1)] → W p l e ({ frames := 104, cells := 0, slots := 0, locals := 5083 }) s m args below meth c H locs 0 0 Q (F0 m 44 ls []) := by
          intro n18
          induction n18 with
          | zero => intro x19 x20 x21 x22 σ24 H locs ls h26 h27 h28 h29 h30 h31; have gx19 := jrg (rfl : x19.toInt = x19.toInt); have gx20 := jrg (rfl : x20.toInt = x20.toInt); have gx21 := jrg (rfl : x21.toInt = x21.toInt); exact absurd h26 (by omega)
          | succ n18 ihlp17 =>
            intro x19 x20 x21 x22 σ24 H locs ls h26 h27 h28 h29 h30 h31 f32 f33 p34 p35 p36 hP hS hl
            exact by
             have gx19 := jrg (rfl : x19.toInt = x19.toInt); have gx20 := jrg (rfl : x20.toInt = x20.toInt); have gx21 := jrg (rfl : x21.toInt = x21.toInt)
             have z37 : (σ24 55 47).toInt = (σ 55 47).toInt := (congrArg Int32.toInt (show σ24 55 47 = (σ 55 47) from (f33 47 (of_decide_eq_true rfl))))
             refine lv_iload hx hb dX12_lost_44 (lv_at hl 0 rfl) ?_
             refine lv_aload_n hx hb dX12_lost_46 rfl (lv_at hl 4 rfl) ?_
             refine va_get (D := D) hx hb hts inlX12 hown hK hP 55 (jc_55 cI cL ad σ24 τ) rfl 47 (of_decide_eq_true rfl) (hts _ kw_15_15) (fun _ h9 => h9) rfl dX12_lost_47 ?_
             have m38 : σ24 55 47 = (σ 55 47) := (f33 47 (of_decide_eq_true rfl))
             refine jtopr m38 ?_
             refine lv_icmp_ge (tgt := 86) hx hb dX12_lost_50 (of_decide_eq_true rfl) (fun c39 => ?_) (fun c39 => ?_)
             · have kc39 := jle c39 rfl rfl
               refine lv_iload_n hx hb dX12_lost_86 rfl (lv_at hl 5 rfl) ?_
               refine lv_if_ne (tgt := 94) hx hb dX12_lost_87 (of_decide_eq_true rfl) (fun c40 => ?_) (fun c40 => ?_)
               · have kc40 := jne c40 t1 jz_0
                 refine lv_iload_n hx hb dX12_lost_94 rfl (lv_at hl 5 rfl) ?_
                 refine lv_iconst (v := 1) hx hb dX12_lost_95 (of_decide_eq_true rfl) ?_
                 refine lv_icmp_ne (tgt := 103) hx hb dX12_lost_96 (of_decide_eq_true rfl) (fun c41 => ?_) (fun c41 => ?_)
                 · have kc41 := jne c41 t1 jz_1
                   refine lv_iload hx hb dX12_lost_103 (lv_at hl 1 rfl) ?_
                   have p42 : jBook σ24 := jBook.fr (f33 47 (of_decide_eq_true rfl)) (f33 10 (of_decide_eq_true rfl)) (f32 81 (of_decide_eq_true rfl)) hs_jBook
                   have p43 : jTR σ24 := jTR.fr (f32 64 (of_decide_eq_true rfl)) (f32 65 (of_decide_eq_true rfl)) hs_jTR
                   exact by exact hret x21 σ24 τ _ _ _ _ rfl ⟨rfl, (fun i hi => (f32 i hi)), (fun i hi => (f33 i hi)), p36, p34, p42, p43, p35, (by omega), (by omega), trivial⟩ hP hS dX12_lost_105
                 · have kc41 := jeq c41 t1 jz_1
                   refine lv_iload_n hx hb dX12_lost_99 rfl (lv_at hl 2 rfl) ?_
                   refine lv_goto (tgt := 105) hx hb dX12_lost_100 (of_decide_eq_true rfl) ?_
                   have p44 : jBook σ24 := jBook.fr (f33 47 (of_decide_eq_true rfl)) (f33 10 (of_decide_eq_true rfl)) (f32 81 (of_decide_eq_true rfl)) hs_jBook
                   have p45 : jTR σ24 := jTR.fr (f32 64 (of_decide_eq_true rfl)) (f32 65 (of_decide_eq_true rfl)) hs_jTR
                   exact by exact hret x20 σ24 τ _ _ _ _ rfl ⟨rfl, (fun i hi => (f32 i hi)), (fun i hi => (f33 i hi)), p36, p34, p44, p45, p35, (by omega), (by omega), trivial⟩ hP hS dX12_lost_105
               · have kc40 := jeq c40 t1 jz_0
                 refine lv_iload_n hx hb dX12_lost_90 rfl (lv_at hl 3 rfl) ?_
                 refine lv_goto (tgt := 105) hx hb dX12_lost_91 (of_decide_eq_true rfl) ?_
                 have p46 : jBook σ24 := jBook.fr (f33 47 (of_decide_eq_true rfl)) (f33 10 (of_decide_eq_true rfl)) (f32 81 (of_decide_eq_true rfl)) hs_jBook
                 have p47 : jTR σ24 := jTR.fr (f32 64 (of_decide_eq_true rfl)) (f32 65 (of_decide_eq_true rfl)) hs_jTR
                 exact by exact hret x19 σ24 τ _ _ _ _ rfl ⟨rfl, (fun i hi => (f32 i hi)), (fun i hi => (f33 i hi)), p36, p34, p46, p47, p35, (by omega), (by omega), trivial⟩ hP hS dX12_lost_105
             · have kc39 := jnle c39 rfl rfl
               refine lv_aload_n hx hb dX12_lost_53 rfl (lv_at hl 4 rfl) ?_
               refine lv_iload hx hb dX12_lost_54 (lv_at hl 0 rfl) ?_
               have I48 : jI101 σ24 := jI101_fr (f33 4 (of_decide_eq_true rfl)) (f33 5 (of_decide_eq_true rfl)) (f32 56 (of_decide_eq_true rfl)) (f32 57 (of_decide_eq_true rfl)) (f32 58 (of_decide_eq_true rfl)) (f32 59 (of_decide_eq_true rfl)) hI101
               have I49 : jI102 σ24 := jI102_fr (f33 6 (of_decide_eq_true rfl)) (f32 60 (of_decide_eq_true rfl)) (f32 61 (of_decide_eq_true rfl)) hI102
               have I50 : jI103 σ24 := jI103_fr (f33 9 (of_decide_eq_true rfl)) hI103
               have I51 : jI104 σ24 := jI104_fr (f33 10 (of_decide_eq_true rfl)) (f33 12 (of_decide_eq_true rfl)) (f33 13 (of_decide_eq_true rfl)) (f32 62 (of_decide_eq_true rfl)) (f32 67 (of_decide_eq_true rfl)) hI104
               have I52 : jI105 σ24 := jI105_fr (f33 15 (of_decide_eq_true rfl)) (f32 65 (of_decide_eq_true rfl)) hI105
               have I53 : jI106 σ24 := jI106_fr (f33 32 (of_decide_eq_true rfl)) (f32 70 (of_decide_eq_true rfl)) (f32 71 (of_decide_eq_true rfl)) (f32 72 (of_decide_eq_true rfl)) hI106
               have I54 : jI107 σ24 := jI107_fr (f33 12 (of_decide_eq_true rfl)) (f33 47 (of_decide_eq_true rfl)) (f32 80 (of_decide_eq_true rfl)) hI107
               have p55 : jBook σ24 := jBook.fr (f33 47 (of_decide_eq_true rfl)) (f33 10 (of_decide_eq_true rfl)) (f32 81 (of_decide_eq_true rfl)) hs_jBook
               have p56 : jTR σ24 := jTR.fr (f32 64 (of_decide_eq_true rfl)) (f32 65 (of_decide_eq_true rfl)) hs_jTR
               have z57 : (σ24 55 12).toInt = (σ 55 12).toInt := (congrArg Int32.toInt (show σ24 55 12 = (σ 55 12) from (f33 12 (of_decide_eq_true rfl))))
               exact by
                refine jcallV (As := [.int x22]) (rest := []) ⟨hx, hb, hml, hown, hts⟩ hK hP hA hS hZ (c_X12_costOf l D cI cL ad zz hJ σ24 τ x22 (x22.toInt) rfl I48 I49 I50 I51 I52 I53 I54 p36 p34 p55 p56 p35 (by omega) (by omega) (by omega) (by omega)) cw_RX12_369 (jc_55 cI cL ad σ24 τ) rfl ⟨Nat.le_of_ble_eq_true rfl, Nat.le_of_ble_eq_true rfl⟩ rfl rfl rfl hl.1 rfl (Nat.le_of_ble_eq_true rfl) dX12_lost_56 ⟨Nat.zero_le _, Nat.zero_le _⟩ (fun r59 σ58 τ58 H locs h58 hP hS => ?_)
                obtain ⟨rfl, f60, f61, I62, p63, p64, p65, p66, h58⟩ := h58
                obtain ⟨k68, k69, h58⟩ := h58
                refine lv_istore (lv' := [(6, .int r59), (5, .int x22), (4, .int x21), (3, .int x20), (2, .int x19), (0, .ref (ad 55)), (1, .int a1)]) hx hb dX12_lost_59 hl (of_decide_eq_true rfl) rfl (fun ls hl => ?_)
                refine lv_iload hx hb dX12_lost_61 (lv_at hl 2 rfl) ?_
                refine lv_iload hx hb dX12_lost_63 (lv_at hl 0 rfl) ?_
                have g70 := jrg (rfl : x21.toInt = x21.toInt)
                have g71 := jrg (rfl : r59.toInt = r59.toInt)
                refine lv_iadd hx hb dX12_lost_65 ?_
                refine lv_topi (fun x72 ex72 => ?_)
                have gx72 := jrg (rfl : x72.toInt = x72.toInt)
                refine lv_istore (lv' := [(4, .int x72), (6, .int r59), (5, .int x22), (3, .int x20), (2, .int x19), (0, .ref (ad 55)), (1, .int a1)]) hx hb dX12_lost_66 hl (of_decide_eq_true rfl) rfl (fun ls hl => ?_)
                refine lv_iload hx hb dX12_lost_68 (lv_at hl 1 rfl) ?_
                refine lv_iload_n hx hb dX12_lost_70 rfl (lv_at hl 3 rfl) ?_
                refine lv_icmp_le (tgt := 80) hx hb dX12_lost_71 (of_decide_eq_true rfl) (fun c73 => ?_) (fun c73 => ?_)
                · have kc73 := jle c73 rfl rfl
                  obtain ⟨x74, ex74⟩ : ∃ y : Int32, y = x22 + 1 := ⟨_, rfl⟩
                  exact by
                   have tx74 : x74.toInt = x22.toInt + 1 := (jadd ex74 rfl jz_1 (by omega) (by omega)).trans (by omega)
                   refine lv_iinc (v := x74) (lv' := [(5, .int x74), (4, .int x72), (6, .int r59), (3, .int x20), (2, .int x19), (0, .ref (ad 55)), (1, .int a1)]) hx hb dX12_lost_80 hl (k := 2) rfl (by rw [ex74]; rfl) (of_decide_eq_true rfl) rfl (fun ls hl => ?_)
                   refine lv_goto (tgt := 44) hx hb dX12_lost_83 (of_decide_eq_true rfl) ?_
                   have z75 : (σ58 55 47).toInt = (σ 55 47).toInt := (congrArg Int32.toInt (show σ58 55 47 = (σ 55 47) from ((f61 47 (of_decide_eq_true rfl)).trans m38)))
                   exact by exact ihlp17 x19 x20 x72 x74 σ58 _ _ ls (by have h93 := tx74; omega) (by have h93 := tx74; omega) (by have h93 := tx74; omega) (by have h93 := tx74; omega) (by have h93 := tx74; omega) (by have h93 := tx74; omega) (fun i hi => ((f60 i hi).trans (f32 i hi))) (fun i hi => ((f61 i hi).trans (f33 i hi)))  p63 p66 I62 hP hS (lv_sub hl [0, 1, 3, 4, 5, 6] rfl)
                · have kc73 := jnle c73 rfl rfl
                  refine lv_iload hx hb dX12_lost_74 (lv_at hl 2 rfl) ?_
                  refine lv_istore_n (lv' := [(2, .int x22), (4, .int x72), (6, .int r59), (5, .int x22), (3, .int x20), (0, .ref (ad 55)), (1, .int a1)]) hx hb dX12_lost_76 rfl hl (of_decide_eq_true rfl) rfl (fun ls hl => ?_)
                  refine lv_iload hx hb dX12_lost_77 (lv_at hl 2 rfl) ?_
                  exact by
                   refine lv_istore_n (lv' := [(3, .int r59), (2, .int x22), (4, .int x72), (6, .int r59), (5, .int x22), (0, .ref (ad 55)), (1, .int a1)]) hx hb dX12_lost_79 rfl hl (of_decide_eq_true rfl) rfl (fun ls hl => ?_)
                   obtain ⟨x76, ex76⟩ : ∃ y : Int32, y = x22 + 1 := ⟨_, rfl⟩
                   have tx76 : x76.toInt = x22.toInt + 1 := (jadd ex76 rfl jz_1 (by omega) (by omega)).trans (by omega)
                   refine lv_iinc (v := x76) (lv' := [(5, .int x76), (3, .int r59), (2, .int x22), (4, .int x72), (6, .int r59), (0, .ref (ad 55)), (1, .int a1)]) hx hb dX12_lost_80 hl (k := 4) rfl (by rw [ex76]; rfl) (of_decide_eq_true rfl) rfl (fun ls hl => ?_)
                   refine lv_goto (tgt := 44) hx hb dX12_lost_83 (of_decide_eq_true rfl) ?_
                   have z77 : (σ58 55 47).toInt = (σ 55 47).toInt := (congrArg Int32.toInt (show σ58 55 47 = (σ 55 47) from ((f61 47 (of_decide_eq_true rfl)).trans m38)))
                   exact by exact ihlp17 x22 r59 x72 x76 σ58 _ _ ls (by have h93 := tx76; omega) (by have h93 := tx76; omega) (by have h93 := tx76; omega) (by have h93 := tx76; omega) (by have h93 := tx76; omega) (by have h93 := tx76; omega) (fun i hi => ((f60 i hi).trans (f32 i hi))) (fun i hi => ((f61 i hi).trans (f33 i hi)))  p63 p66 I62 hP hS (lv_sub hl [0, 3, 1, 2, 5, 6] rfl)
        exact by exact lp17 1000000 0 (-2000000000) 0 0 σ _ _ ls (by have h90 := jz_0; have h91 := jz_m2000000000; have h92 := jz_0; have h93 := jz_0; omega) (by have h90 := jz_0; have h91 := jz_m2000000000; have h92 := jz_0; have h93 := jz_0; omega) (by have h90 := jz_0; have h91 := jz_m2000000000; have h92 := jz_0; have h93 := jz_0; omega) (by have h90 := jz_0; have h91 := jz_m2000000000; have h92 := jz_0; have h93 := jz_0; omega) (by have h90 := jz_0; have h91 := jz_m2000000000; have h92 := jz_0; have h93 := jz_0; omega) (by have h90 := jz_0; have h91 := jz_m2000000000; have h92 := jz_0; have h93 := jz_0; omega) (fun _ _ => rfl) (fun _ _ => rfl)  hs_jKept hs_jqSt hI119 hP hS hl
      · have kc16 := jnle c16 rfl jz_8
        exact by
         refine lv_bipush (v := (-4)) hx hb dX12_lost_30 (of_decide_eq_true rfl) ?_
         exact by exact hret (-4) σ τ _ _ _ _ rfl ⟨rfl, (fun _ _ => rfl), (fun _ _ => rfl), hI119, hs_jKept, hs_jBook, hs_jTR, hs_jqSt, (by omega), (by omega), trivial⟩ hP hS dX12_lost_32
    · have kc15 := jeq c15 rfl jz_0
      refine lv_iconst (v := (-1)) hx hb dX12_lost_19 (of_decide_eq_true rfl) ?_
      exact by exact hret (-1) σ τ _ _ _ _ rfl ⟨rfl, (fun _ _ => rfl), (fun _ _ => rfl), hI119, hs_jKept, hs_jBook, hs_jTR, hs_jqSt, (by omega), (by omega), trivial⟩ hP hS dX12_lost_20
  · obtain ⟨q79, k78⟩ := h12
    have q79 := q79.symm
    subst q79
    refine lv_if_eq (tgt := 19) hx hb dX12_lost_9 (of_decide_eq_true rfl) (fun _ => ?_) (fun c => absurd (of_decide_eq_true rfl) c)
    refine lv_iconst (v := (-1)) hx hb dX12_lost_19 (of_decide_eq_true rfl) ?_
    exact by exact hret (-1) σ τ _ _ _ _ rfl ⟨rfl, (fun _ _ => rfl), (fun _ _ => rfl), hI119, hs_jKept, hs_jBook, hs_jTR, hs_jqSt, (by omega), (by omega), trivial⟩ hP hS dX12_lost_20
set_option maxHeartbeats 4000000 in
set_option maxRecDepth 100000 in
theorem c_X12_game (l : Launch) (D : va_G) (cI cL : ClassId) (ad zz : Nat → Nat) (hJ : jD ad) (σ : Nat → Nat → Int32) (τ : Nat → Nat → Int64) (a1 : Int32) (A1 : Int) (t1 : a1.toInt = A1) (a2 : Int32) (A2 : Int) (t2 : a2.toInt = A2) (hI101 : jI101 σ) (hI102 : jI102 σ) (hI103 : jI103 σ) (hI104 : jI104 σ) (hI105 : jI105 σ) (hI106 : jI106 σ) (hI119 : jI119 σ) (hI109 : jI109 σ) (hs_jKept : jKept σ) (hs_jTR : jTR σ) (hs_jqSt : jqSt σ) (hp0 : 0 ≤ (σ 55 42).toInt ∧ (σ 55 42).toInt ≤ 999999998) : jM l yX12_game cX12_game 10 (some .int) ({ frames := 104, cells := 0, slots := 0, locals := 5087 }) D cI cL ad zz [.ref (ad 55), .int a1, .int a2] σ τ (fun r σ' τ' => τ = τ' ∧ (∀ i : Nat, (i < 55 ∨ 55 < i) ∧ (i < 66 ∨ 66 < i) ∧ (i < 68 ∨ 69 < i) ∧ (i < 74 ∨ 78 < i) ∧ (i < 82 ∨ 84 < i) → σ' i = σ i) ∧ (∀ k : Nat, (k < 18 ∨ 18 < k) ∧ (k < 19 ∨ 19 < k) ∧ (k < 20 ∨ 20 < k) ∧ (k < 21 ∨ 21 < k) ∧ (k < 22 ∨ 22 < k) ∧ (k < 25 ∨ 25 < k) ∧ (k < 26 ∨ 26 < k) ∧ (k < 27 ∨ 27 < k) ∧ (k < 37 ∨ 37 < k) ∧ (k < 42 ∨ 42 < k) ∧ (k < 50 ∨ 50 < k) → σ' 55 k = σ 55 k) ∧ (jI109 σ') ∧ (jI119 σ') ∧ (jKept σ') ∧ (jTR σ') ∧ (jqSt σ') ∧ ((σ 55 42).toInt ≤ (σ' 55 42).toInt) ∧ ((σ' 55 42).toInt ≤ (σ 55 42).toInt + 1) ∧ True) := by
  refine jM.of hJ (by decide +kernel) (nt := .int) rfl (Nat.le_of_ble_eq_true rfl) ?_
  intro p e s m args below meth c Q ls hC hret hl hP
  obtain ⟨hx, hb, hr, hml, hown, hts, hK, -, hlocks, hZ⟩ := hC
  have hown : s.vm.findClass RX12 = some m.cls := hown
  have hS : va_S (jA ad) s.heap s.heap [] := va_S.rf
  have hA : ∀ q, jA ad q → jA ad q := fun _ h => h
  have hl : lv_has ls 10 [(0, .ref (ad 55)), (1, .int a1), (2, .int a2)] := hl
  have g1 := jrg t1
  have g2 := jrg t2
  obtain ⟨i1, w2, w3⟩ : (0 ≤ (σ 55 6).toInt ∧ (σ 55 6).toInt ≤ 4) ∧ (∀ k : Nat, k < 4 → 0 ≤ (σ 60 k).toInt ∧ (σ 60 k).toInt ≤ 50) ∧ (∀ k : Nat, k < 4 → 0 ≤ (σ 61 k).toInt ∧ (σ 61 k).toInt ≤ 20) := id hI102
  obtain ⟨i4, i5, i6, w7, w8⟩ : (1 ≤ (σ 55 10).toInt ∧ (σ 55 10).toInt ≤ 8) ∧ (1 ≤ (σ 55 12).toInt ∧ (σ 55 12).toInt ≤ 12) ∧ (0 ≤ (σ 55 13).toInt ∧ (σ 55 13).toInt ≤ 999) ∧ (∀ k : Nat, k < 8 → 0 ≤ (σ 62 k).toInt ∧ (σ 62 k).toInt ≤ 3) ∧ (∀ k : Nat, k < 8 → 0 ≤ (σ 67 k).toInt ∧ (σ 67 k).toInt ≤ 3) := id hI104
  obtain ⟨i9, w10, w11, w12⟩ : (0 ≤ (σ 55 32).toInt ∧ (σ 55 32).toInt ≤ 20) ∧ (∀ k : Nat, k < 20 → 0 ≤ (σ 70 k).toInt ∧ (σ 70 k).toInt ≤ 6) ∧ (∀ k : Nat, k < 20 → 0 ≤ (σ 71 k).toInt ∧ (σ 71 k).toInt ≤ 8) ∧ (∀ k : Nat, k < 160 → 0 ≤ (σ 72 k).toInt ∧ (σ 72 k).toInt ≤ 3) := id hI106
  have i13 : 0 ≤ (σ 55 50).toInt ∧ (σ 55 50).toInt ≤ 12 := hI109
  refine lv_aload_n hx hb dX12_game_0 rfl (lv_at hl 0 rfl) ?_
  refine lv_iload_n hx hb dX12_game_1 rfl (lv_at hl 1 rfl) ?_
  refine jcallV (As := [.int a1]) (rest := []) ⟨hx, hb, hml, hown, hts⟩ hK hP hA hS hZ (c_X12_isRule l D cI cL ad zz hJ σ τ a1 (A1) t1 hI106) cw_RX12_331 (jc_55 cI cL ad σ τ) rfl ⟨Nat.le_of_ble_eq_true rfl, Nat.le_of_ble_eq_true rfl⟩ rfl rfl rfl hl.1 rfl (Nat.le_of_ble_eq_true rfl) dX12_game_2 ⟨Nat.zero_le _, Nat.zero_le _⟩ (fun r15 σ14 τ14 H locs h14 hP hS => ?_)
  obtain ⟨⟨rfl, rfl⟩, h14⟩ := h14
  rcases h14 with h16 | h17
  · obtain ⟨q19, k18⟩ := h16
    have q19 := q19.symm
    subst q19
    refine lv_if_ne (tgt := 10) hx hb dX12_game_5 (of_decide_eq_true rfl) (fun _ => ?_) (fun c => absurd c (of_decide_eq_true rfl))
    refine lv_aload_n hx hb dX12_game_10 rfl (lv_at hl 0 rfl) ?_
    refine va_get (D := D) hx hb hts inlX12 hown hK hP 55 (jc_55 cI cL ad σ τ) rfl 12 (of_decide_eq_true rfl) (hts _ kw_8_16) (fun _ h9 => h9) rfl dX12_game_11 ?_
    refine lv_bipush (v := 8) hx hb dX12_game_14 (of_decide_eq_true rfl) ?_
    refine lv_icmp_le (tgt := 22) hx hb dX12_game_16 (of_decide_eq_true rfl) (fun c20 => ?_) (fun c20 => ?_)
    · have kc20 := jle c20 rfl jz_8
      refine lv_aload_n hx hb dX12_game_22 rfl (lv_at hl 0 rfl) ?_
      have w21 : ∀ k : Nat, k < 4 → 0 ≤ (σ 68 k).toInt ∧ (σ 68 k).toInt ≤ 3 := hI119
      refine jcallVv (As := []) (rest := []) ⟨hx, hb, hml, hown, hts⟩ hK hP hA hS hZ (c_X12_begin l D cI cL ad zz hJ σ τ hI104 w21) cw_RX12_256 (jc_55 cI cL ad σ τ) rfl ⟨Nat.le_of_ble_eq_true rfl, Nat.le_of_ble_eq_true rfl⟩ rfl rfl rfl hl.1 rfl (Nat.le_of_ble_eq_true rfl) dX12_game_23 ⟨Nat.zero_le _, Nat.zero_le _⟩ (fun σ22 τ22 H locs h22 hP hS => ?_)
      obtain ⟨rfl, f24, f25, I26, w27, w28, h22⟩ := h22
      obtain ⟨i30, i31, i32, i33, i34, w35⟩ : (0 ≤ (σ22 55 25).toInt) ∧ ((σ22 55 25).toInt ≤ (σ22 55 10).toInt) ∧ (0 ≤ (σ22 55 26).toInt) ∧ ((σ22 55 26).toInt ≤ (σ22 55 12).toInt) ∧ ((-1) ≤ (σ22 55 27).toInt ∧ (σ22 55 27).toInt ≤ 3) ∧ (∀ k : Nat, k < 4 → 0 ≤ (σ22 68 k).toInt ∧ (σ22 68 k).toInt ≤ 3) := id I26
      have z36 : (σ22 55 10).toInt = (σ 55 10).toInt := (congrArg Int32.toInt (show σ22 55 10 = (σ 55 10) from (f25 10 (of_decide_eq_true rfl))))
      have z37 : (σ22 55 12).toInt = (σ 55 12).toInt := (congrArg Int32.toInt (show σ22 55 12 = (σ 55 12) from (f25 12 (of_decide_eq_true rfl))))
      obtain ⟨k38, k39, k40, h22⟩ := h22
      refine lv_aload_n hx hb dX12_game_26 rfl (lv_at hl 0 rfl) ?_
      have p41 : jqSt σ22 := jqSt.fr (f24 78 (of_decide_eq_true rfl)) (f25 42 (of_decide_eq_true rfl)) hs_jqSt
      have z42 : (σ22 55 42).toInt = (σ 55 42).toInt := (congrArg Int32.toInt (show σ22 55 42 = (σ 55 42) from (f25 42 (of_decide_eq_true rfl))))
      exact by
       refine jcallVv (As := []) (rest := []) ⟨hx, hb, hml, hown, hts⟩ hK hP hA hS hZ (c_X12_forgets l D cI cL ad zz hJ σ22 τ p41 (by omega)) cw_RX12_341 (jc_55 cI cL ad σ22 τ) rfl ⟨Nat.le_of_ble_eq_true rfl, Nat.le_of_ble_eq_true rfl⟩ rfl rfl rfl hl.1 rfl (Nat.le_of_ble_eq_true rfl) dX12_game_27 ⟨Nat.zero_le _, Nat.zero_le _⟩ (fun σ43 τ43 H locs h43 hP hS => ?_)
       obtain ⟨rfl, f45, f46, p47, w48, h43⟩ := h43
       obtain ⟨k50, h43⟩ := h43
       refine lv_aload_n hx hb dX12_game_30 rfl (lv_at hl 0 rfl) ?_
       refine lv_iconst (v := 0) hx hb dX12_game_31 (of_decide_eq_true rfl) ?_
       refine jput (ty := .int) hx hb hts inlX12 tyX12 tyX12_ok nmX12 hown hK hP hJ hA hS (jc_55 cI cL ad σ43 τ) rfl (k := 50) (of_decide_eq_true rfl) (Nat.le_of_ble_eq_true rfl) (jp_55_50 cI cL ad σ43 τ 0) (hts _ kw_46_13) (fun _ h9 => h9) rfl (by decide +kernel) rfl rfl dX12_game_32 (fun σ51 H locs eσ51 hP hS => ?_)
       refine lv_iload_n hx hb dX12_game_35 rfl (lv_at hl 2 rfl) ?_
       refine lv_istore_n (lv' := [(3, .int a2), (0, .ref (ad 55)), (1, .int a1), (2, .int a2)]) hx hb dX12_game_36 rfl hl (of_decide_eq_true rfl) rfl (fun ls hl => ?_)
       refine lv_iconst (v := 0) hx hb dX12_game_37 (of_decide_eq_true rfl) ?_
       refine lv_istore (lv' := [(4, .int 0), (3, .int a2), (0, .ref (ad 55)), (1, .int a1), (2, .int a2)]) hx hb dX12_game_38 hl (of_decide_eq_true rfl) rfl (fun ls hl => ?_)
       refine lv_iconst (v := 0) hx hb dX12_game_40 (of_decide_eq_true rfl) ?_
       refine lv_istore (lv' := [(5, .int 0), (4, .int 0), (3, .int a2), (0, .ref (ad 55)), (1, .int a1), (2, .int a2)]) hx hb dX12_game_41 hl (of_decide_eq_true rfl) rfl (fun ls hl => ?_)
       have z62 : (σ51 55 50).toInt = 0 := ((congrArg Int32.toInt (show σ51 55 50 = 0 from (jsp eσ51))).trans jz_0)
       have I63 : jI109 σ51 := (show 0 ≤ (σ51 55 50).toInt ∧ (σ51 55 50).toInt ≤ 12 by omega)
       have w64 : ∀ k : Nat, k < 4 → 0 ≤ (σ51 68 k).toInt ∧ (σ51 68 k).toInt ≤ 3 := (jrr_fr (jnp 68 eσ51 (of_decide_eq_true rfl)) (jrr_fr (f45 68 (of_decide_eq_true rfl)) w35))
       have I65 : jI119 σ51 := w64
       have z66 : (σ51 55 12).toInt = (σ 55 12).toInt := (congrArg Int32.toInt (show σ51 55 12 = (σ 55 12) from ((jkp 12 eσ51 (of_decide_eq_true rfl)).trans ((f46 12 (of_decide_eq_true rfl)).trans (f25 12 (of_decide_eq_true rfl))))))
       have z67 : (σ51 55 26).toInt = (σ22 55 26).toInt := (congrArg Int32.toInt (show σ51 55 26 = (σ22 55 26) from ((jkp 26 eσ51 (of_decide_eq_true rfl)).trans (f46 26 (of_decide_eq_true rfl)))))
       have z68 : (σ51 55 25).toInt = (σ22 55 25).toInt := (congrArg Int32.toInt (show σ51 55 25 = (σ22 55 25) from ((jkp 25 eσ51 (of_decide_eq_true rfl)).trans (f46 25 (of_decide_eq_true rfl)))))
       have z69 : (σ51 55 10).toInt = (σ 55 10).toInt := (congrArg Int32.toInt (show σ51 55 10 = (σ 55 10) from ((jkp 10 eσ51 (of_decide_eq_true rfl)).trans ((f46 10 (of_decide_eq_true rfl)).trans (f25 10 (of_decide_eq_true rfl))))))
       have z70 : (σ51 55 27).toInt = (σ22 55 27).toInt := (congrArg Int32.toInt (show σ51 55 27 = (σ22 55 27) from ((jkp 27 eσ51 (of_decide_eq_true rfl)).trans (f46 27 (of_decide_eq_true rfl)))))
       have p72 : jKept σ51 := jKept.fr ((jnp 75 eσ51 (of_decide_eq_true rfl)).trans ((f45 75 (of_decide_eq_true rfl)).trans (f24 75 (of_decide_eq_true rfl)))) ((jnp 76 eσ51 (of_decide_eq_true rfl)).trans ((f45 76 (of_decide_eq_true rfl)).trans (f24 76 (of_decide_eq_true rfl)))) ((jnp 77 eσ51 (of_decide_eq_true rfl)).trans ((f45 77 (of_decide_eq_true rfl)).trans (f24 77 (of_decide_eq_true rfl)))) hs_jKept
       have p73 : jqSt σ51 := jqSt.fr (jnp 78 eσ51 (of_decide_eq_true rfl)) (jkp 42 eσ51 (of_decide_eq_true rfl)) p47
       have lp52 : ∀ (n53 : Nat) (x54 : Int32) (x55 : Int32) (x56 : Int32) (σ61 : Nat → Nat → Int32) (H : Heap) (locs : List Loc) (ls : Array Slot), ((σ61 55 12).toInt - (σ61 55 26).toInt : Int) < n53 → 0 ≤ (σ61 55 25).toInt → (σ61 55 25).toInt ≤ (σ61 55 10).toInt → 0 ≤ (σ61 55 26).toInt → (σ61 55 26).toInt ≤ (σ61 55 12).toInt → (-1) ≤ (σ61 55 27).toInt ∧ (σ61 55 27).toInt ≤ 3 → (σ61 55 50).toInt = (σ61 55 26).toInt → (∀ i : Nat, (i < 55 ∨ 55 < i) ∧ (i < 66 ∨ 66 < i) ∧ (i < 68 ∨ 69 < i) ∧ (i < 74 ∨ 78 < i) ∧ (i < 82 ∨ 84 < i) → σ61 i = σ51 i) → (∀ k : Nat, (k < 18 ∨ 18 < k) ∧ (k < 19 ∨ 19 < k) ∧ (k < 20 ∨ 20 < k) ∧ (k < 21 ∨ 21 < k) ∧ (k < 22 ∨ 22 < k) ∧ (k < 25 ∨ 25 < k) ∧ (k < 26 ∨ 26 < k) ∧ (k < 27 ∨ 27 < k) ∧ (k < 37 ∨ 37 < k) ∧ (k < 50 ∨ 50 < k) → σ61 55 k = σ51 55 k) → jKept σ61 → jqSt σ61 → jI109 σ61 → jI119 σ61 → jH D cI cL ad σ61 τ H → va_S (jA ad) s.heap H locs → lv_has ls 10 [(5, .int x56), (4, .int x55), (3, .int x54), (0, .ref (ad 55)), (1, .int a1), (2, .int a2)] → W p l e ({ frames := 104, cells := 0, slots := 0, locals := 5087 }) s m args below meth c H locs 0 0 Q (F0 m 43 ls []) := by
         intro n53
         induction n53 with
         | zero => intro x54 x55 x56 σ61 H locs ls h74 h75 h76 h77 h78 h79 h80; have gx54 := jrg (rfl : x54.toInt = x54.toInt); have gx55 := jrg (rfl : x55.toInt = x55.toInt); have gx56 := jrg (rfl : x56.toInt = x56.toInt); exact absurd h74 (by omega)
         | succ n53 ihlp52 =>
           intro x54 x55 x56 σ61 H locs ls h74 h75 h76 h77 h78 h79 h80 f81 f82 p83 p84 p85 p86 hP hS hl
           exact by
            have gx54 := jrg (rfl : x54.toInt = x54.toInt); have gx55 := jrg (rfl : x55.toInt = x55.toInt); have gx56 := jrg (rfl : x56.toInt = x56.toInt)
            have i87 : 0 ≤ (σ61 55 50).toInt ∧ (σ61 55 50).toInt ≤ 12 := p85
            have z88 : (σ61 55 12).toInt = (σ 55 12).toInt := (congrArg Int32.toInt (show σ61 55 12 = (σ 55 12) from ((f82 12 (of_decide_eq_true rfl)).trans ((jkp 12 eσ51 (of_decide_eq_true rfl)).trans ((f46 12 (of_decide_eq_true rfl)).trans (f25 12 (of_decide_eq_true rfl)))))))
            have z89 : (σ61 55 10).toInt = (σ 55 10).toInt := (congrArg Int32.toInt (show σ61 55 10 = (σ 55 10) from ((f82 10 (of_decide_eq_true rfl)).trans ((jkp 10 eσ51 (of_decide_eq_true rfl)).trans ((f46 10 (of_decide_eq_true rfl)).trans (f25 10 (of_decide_eq_true rfl)))))))
            refine lv_iload hx hb dX12_game_43 (lv_at hl 0 rfl) ?_
            refine lv_if_ne (tgt := 233) hx hb dX12_game_45 (of_decide_eq_true rfl) (fun c90 => ?_) (fun c90 => ?_)
            · have kc90 := jne c90 rfl jz_0
              refine lv_iload hx hb dX12_game_233 (lv_at hl 1 rfl) ?_
              have p91 : jTR σ61 := jTR.fr ((f81 64 (of_decide_eq_true rfl)).trans ((jnp 64 eσ51 (of_decide_eq_true rfl)).trans ((f45 64 (of_decide_eq_true rfl)).trans (f24 64 (of_decide_eq_true rfl))))) ((f81 65 (of_decide_eq_true rfl)).trans ((jnp 65 eσ51 (of_decide_eq_true rfl)).trans ((f45 65 (of_decide_eq_true rfl)).trans (f24 65 (of_decide_eq_true rfl))))) hs_jTR
              have z92 : (σ61 55 42).toInt = (σ43 55 42).toInt := (congrArg Int32.toInt (show σ61 55 42 = (σ43 55 42) from ((f82 42 (of_decide_eq_true rfl)).trans (jkp 42 eσ51 (of_decide_eq_true rfl)))))
              exact by exact hret x55 σ61 τ _ _ _ _ rfl ⟨rfl, (fun i hi => ((f81 i hi).trans ((jnp i eσ51 (imp_282 i hi)).trans ((f45 i (imp_283 i hi)).trans (f24 i (imp_284 i hi)))))), (fun i hi => ((f82 i (imp_285 i hi)).trans ((jkp i eσ51 (imp_286 i hi)).trans ((f46 i (imp_287 i hi)).trans (f25 i (imp_288 i hi)))))), p85, p86, p83, p91, p84, (by omega), (by omega), trivial⟩ hP hS dX12_game_235
            · have kc90 := jeq c90 rfl jz_0
              refine lv_aload_n hx hb dX12_game_48 rfl (lv_at hl 3 rfl) ?_
              have I93 : jI102 σ61 := jI102_fr ((f82 6 (of_decide_eq_true rfl)).trans ((jkp 6 eσ51 (of_decide_eq_true rfl)).trans ((f46 6 (of_decide_eq_true rfl)).trans (f25 6 (of_decide_eq_true rfl))))) ((f81 60 (of_decide_eq_true rfl)).trans ((jnp 60 eσ51 (of_decide_eq_true rfl)).trans ((f45 60 (of_decide_eq_true rfl)).trans (f24 60 (of_decide_eq_true rfl))))) ((f81 61 (of_decide_eq_true rfl)).trans ((jnp 61 eσ51 (of_decide_eq_true rfl)).trans ((f45 61 (of_decide_eq_true rfl)).trans (f24 61 (of_decide_eq_true rfl))))) hI102
              have I94 : jI104 σ61 := jI104_fr ((f82 10 (of_decide_eq_true rfl)).trans ((jkp 10 eσ51 (of_decide_eq_true rfl)).trans ((f46 10 (of_decide_eq_true rfl)).trans (f25 10 (of_decide_eq_true rfl))))) ((f82 12 (of_decide_eq_true rfl)).trans ((jkp 12 eσ51 (of_decide_eq_true rfl)).trans ((f46 12 (of_decide_eq_true rfl)).trans (f25 12 (of_decide_eq_true rfl))))) ((f82 13 (of_decide_eq_true rfl)).trans ((jkp 13 eσ51 (of_decide_eq_true rfl)).trans ((f46 13 (of_decide_eq_true rfl)).trans (f25 13 (of_decide_eq_true rfl))))) ((f81 62 (of_decide_eq_true rfl)).trans ((jnp 62 eσ51 (of_decide_eq_true rfl)).trans ((f45 62 (of_decide_eq_true rfl)).trans (f24 62 (of_decide_eq_true rfl))))) ((f81 67 (of_decide_eq_true rfl)).trans ((jnp 67 eσ51 (of_decide_eq_true rfl)).trans ((f45 67 (of_decide_eq_true rfl)).trans (f24 67 (of_decide_eq_true rfl))))) hI104
              have w95 : ∀ k : Nat, k < 4 → 0 ≤ (σ61 68 k).toInt ∧ (σ61 68 k).toInt ≤ 3 := p86
              exact by
               have I96 : jI120 σ61 := ⟨(by omega), (by omega), (by omega), (by omega), (by omega), w95⟩
               refine jcallV (As := []) (rest := []) ⟨hx, hb, hml, hown, hts⟩ hK hP hA hS hZ (c_X12_isEnded l D cI cL ad zz hJ σ61 τ I93 I94 I96) cw_RX12_307 (jc_55 cI cL ad σ61 τ) rfl ⟨Nat.le_of_ble_eq_true rfl, Nat.le_of_ble_eq_true rfl⟩ rfl rfl rfl hl.1 rfl (Nat.le_of_ble_eq_true rfl) dX12_game_49 ⟨Nat.zero_le _, Nat.zero_le _⟩ (fun r98 σ97 τ97 H locs h97 hP hS => ?_)
               obtain ⟨⟨rfl, rfl⟩, h97⟩ := h97
               rcases h97 with h99 | h100
               · obtain ⟨q102, k101⟩ := h99
                 have q102 := q102.symm
                 subst q102
                 refine lv_if_ne (tgt := 233) hx hb dX12_game_52 (of_decide_eq_true rfl) (fun _ => ?_) (fun c => absurd c (of_decide_eq_true rfl))
                 refine lv_iload hx hb dX12_game_233 (lv_at hl 1 rfl) ?_
                 have p103 : jTR σ61 := jTR.fr ((f81 64 (of_decide_eq_true rfl)).trans ((jnp 64 eσ51 (of_decide_eq_true rfl)).trans ((f45 64 (of_decide_eq_true rfl)).trans (f24 64 (of_decide_eq_true rfl))))) ((f81 65 (of_decide_eq_true rfl)).trans ((jnp 65 eσ51 (of_decide_eq_true rfl)).trans ((f45 65 (of_decide_eq_true rfl)).trans (f24 65 (of_decide_eq_true rfl))))) hs_jTR
                 have z104 : (σ61 55 42).toInt = (σ43 55 42).toInt := (congrArg Int32.toInt (show σ61 55 42 = (σ43 55 42) from ((f82 42 (of_decide_eq_true rfl)).trans (jkp 42 eσ51 (of_decide_eq_true rfl)))))
                 exact by exact hret x55 σ61 τ _ _ _ _ rfl ⟨rfl, (fun i hi => ((f81 i hi).trans ((jnp i eσ51 (imp_282 i hi)).trans ((f45 i (imp_283 i hi)).trans (f24 i (imp_284 i hi)))))), (fun i hi => ((f82 i (imp_285 i hi)).trans ((jkp i eσ51 (imp_286 i hi)).trans ((f46 i (imp_287 i hi)).trans (f25 i (imp_288 i hi)))))), p85, p86, p83, p103, p84, (by omega), (by omega), trivial⟩ hP hS dX12_game_235
               · obtain ⟨q108, k105, k106, k107⟩ := h100
                 have q108 := q108.symm
                 subst q108
                 obtain ⟨B109, k110, k111, w112⟩ := k107
                 have z113 : (σ61 55 6).toInt = (σ 55 6).toInt := (congrArg Int32.toInt (show σ61 55 6 = (σ 55 6) from ((f82 6 (of_decide_eq_true rfl)).trans ((jkp 6 eσ51 (of_decide_eq_true rfl)).trans ((f46 6 (of_decide_eq_true rfl)).trans (f25 6 (of_decide_eq_true rfl)))))))
                 refine lv_if_ne (tgt := 233) hx hb dX12_game_52 (of_decide_eq_true rfl) (fun c => absurd (of_decide_eq_true rfl) c) (fun _ => ?_)
                 refine lv_aload_n hx hb dX12_game_55 rfl (lv_at hl 3 rfl) ?_
                 refine lv_iload_n hx hb dX12_game_56 rfl (lv_at hl 4 rfl) ?_
                 have p114 : jmb σ61 B109 = 1 := (jmb_fr rfl rfl rfl rfl rfl B109).trans w112
                 have I115 : jI101 σ61 := jI101_fr ((f82 4 (of_decide_eq_true rfl)).trans ((jkp 4 eσ51 (of_decide_eq_true rfl)).trans ((f46 4 (of_decide_eq_true rfl)).trans (f25 4 (of_decide_eq_true rfl))))) ((f82 5 (of_decide_eq_true rfl)).trans ((jkp 5 eσ51 (of_decide_eq_true rfl)).trans ((f46 5 (of_decide_eq_true rfl)).trans (f25 5 (of_decide_eq_true rfl))))) ((f81 56 (of_decide_eq_true rfl)).trans ((jnp 56 eσ51 (of_decide_eq_true rfl)).trans ((f45 56 (of_decide_eq_true rfl)).trans (f24 56 (of_decide_eq_true rfl))))) ((f81 57 (of_decide_eq_true rfl)).trans ((jnp 57 eσ51 (of_decide_eq_true rfl)).trans ((f45 57 (of_decide_eq_true rfl)).trans (f24 57 (of_decide_eq_true rfl))))) ((f81 58 (of_decide_eq_true rfl)).trans ((jnp 58 eσ51 (of_decide_eq_true rfl)).trans ((f45 58 (of_decide_eq_true rfl)).trans (f24 58 (of_decide_eq_true rfl))))) ((f81 59 (of_decide_eq_true rfl)).trans ((jnp 59 eσ51 (of_decide_eq_true rfl)).trans ((f45 59 (of_decide_eq_true rfl)).trans (f24 59 (of_decide_eq_true rfl))))) hI101
                 have I116 : jI103 σ61 := jI103_fr ((f82 9 (of_decide_eq_true rfl)).trans ((jkp 9 eσ51 (of_decide_eq_true rfl)).trans ((f46 9 (of_decide_eq_true rfl)).trans (f25 9 (of_decide_eq_true rfl))))) hI103
                 have I117 : jI105 σ61 := jI105_fr ((f82 15 (of_decide_eq_true rfl)).trans ((jkp 15 eσ51 (of_decide_eq_true rfl)).trans ((f46 15 (of_decide_eq_true rfl)).trans (f25 15 (of_decide_eq_true rfl))))) ((f81 65 (of_decide_eq_true rfl)).trans ((jnp 65 eσ51 (of_decide_eq_true rfl)).trans ((f45 65 (of_decide_eq_true rfl)).trans (f24 65 (of_decide_eq_true rfl))))) hI105
                 have I118 : jI106 σ61 := jI106_fr ((f82 32 (of_decide_eq_true rfl)).trans ((jkp 32 eσ51 (of_decide_eq_true rfl)).trans ((f46 32 (of_decide_eq_true rfl)).trans (f25 32 (of_decide_eq_true rfl))))) ((f81 70 (of_decide_eq_true rfl)).trans ((jnp 70 eσ51 (of_decide_eq_true rfl)).trans ((f45 70 (of_decide_eq_true rfl)).trans (f24 70 (of_decide_eq_true rfl))))) ((f81 71 (of_decide_eq_true rfl)).trans ((jnp 71 eσ51 (of_decide_eq_true rfl)).trans ((f45 71 (of_decide_eq_true rfl)).trans (f24 71 (of_decide_eq_true rfl))))) ((f81 72 (of_decide_eq_true rfl)).trans ((jnp 72 eσ51 (of_decide_eq_true rfl)).trans ((f45 72 (of_decide_eq_true rfl)).trans (f24 72 (of_decide_eq_true rfl))))) hI106
                 have p119 : jTR σ61 := jTR.fr ((f81 64 (of_decide_eq_true rfl)).trans ((jnp 64 eσ51 (of_decide_eq_true rfl)).trans ((f45 64 (of_decide_eq_true rfl)).trans (f24 64 (of_decide_eq_true rfl))))) ((f81 65 (of_decide_eq_true rfl)).trans ((jnp 65 eσ51 (of_decide_eq_true rfl)).trans ((f45 65 (of_decide_eq_true rfl)).trans (f24 65 (of_decide_eq_true rfl))))) hs_jTR
                 have z120 : (σ61 70 a1.toNatClampNeg).toInt = (σ 70 a1.toNatClampNeg).toInt := by rw [f81 70 (of_decide_eq_true rfl), jnp 70 eσ51 (of_decide_eq_true rfl), f45 70 (of_decide_eq_true rfl), f24 70 (of_decide_eq_true rfl)]
                 exact by
                  refine jcallV (As := [.int a1]) (rest := []) ⟨hx, hb, hml, hown, hts⟩ hK hP hA hS hZ (c_X12_putsOn l D cI cL ad zz hJ σ61 τ B109 p114 a1 (A1) t1 I115 I93 I116 I94 I117 I118 I96 p83 p119 p84 (by omega) (by omega) (by omega) (by omega) (by omega)) cw_RX12_321 (jc_55 cI cL ad σ61 τ) rfl ⟨Nat.le_of_ble_eq_true rfl, Nat.le_of_ble_eq_true rfl⟩ rfl rfl rfl hl.1 rfl (Nat.le_of_ble_eq_true rfl) dX12_game_57 ⟨Nat.zero_le _, Nat.zero_le _⟩ (fun r122 σ121 τ121 H locs h121 hP hS => ?_)
                  obtain ⟨rfl, f123, f124, p125, p126, p127, w128, h121⟩ := h121
                  have h130 := h121
                  obtain ⟨q132, k131⟩ := h130
                  refine lv_istore (lv' := [(6, .int r122), (5, .int x56), (4, .int x55), (3, .int x54), (0, .ref (ad 55)), (1, .int a1), (2, .int a2)]) hx hb dX12_game_60 hl (of_decide_eq_true rfl) rfl (fun ls hl => ?_)
                  refine lv_aload_n hx hb dX12_game_62 rfl (lv_at hl 4 rfl) ?_
                  refine va_get (D := D) hx hb hts inlX12 hown hK hP 55 (jc_55 cI cL ad σ121 τ) rfl 11 (of_decide_eq_true rfl) (hts _ kw_7_8) (fun _ h9 => h9) rfl dX12_game_63 ?_
                  refine lv_aload_n hx hb dX12_game_66 rfl (lv_at hl 4 rfl) ?_
                  refine va_get (D := D) hx hb hts inlX12 hown hK hP 55 (jc_55 cI cL ad σ121 τ) rfl 25 (of_decide_eq_true rfl) (hts _ kw_23_6) (fun _ h9 => h9) rfl dX12_game_67 ?_
                  have m133 : σ121 55 25 = (σ61 55 25) := (f124 25 (of_decide_eq_true rfl))
                  refine jtopr m133 ?_
                  exact by
                   refine jald hx hb hK hP (jc_62 cI cL ad σ121 τ) (jin rfl (by omega) (by omega)) dX12_game_70 ?_
                   have w134 : ∀ k : Nat, k < 8 → 0 ≤ (σ121 62 k).toInt ∧ (σ121 62 k).toInt ≤ 3 := (jrr_fr (f123 62 (of_decide_eq_true rfl)) (jrr_fr (f81 62 (of_decide_eq_true rfl)) (jrr_fr (jnp 62 eσ51 (of_decide_eq_true rfl)) (jrr_fr (f45 62 (of_decide_eq_true rfl)) (jrr_fr (f24 62 (of_decide_eq_true rfl)) w7)))))
                   have g135 := w134 _ (jnat (x := (σ61 55 25)) rfl (n := 8) (by omega) (of_decide_eq_true rfl))
                   refine lv_topi (fun x136 ex136 => ?_)
                   rw [← ex136] at g135
                   refine lv_istore (lv' := [(7, .int x136), (6, .int r122), (5, .int x56), (4, .int x55), (3, .int x54), (0, .ref (ad 55)), (1, .int a1), (2, .int a2)]) hx hb dX12_game_71 hl (of_decide_eq_true rfl) rfl (fun ls hl => ?_)
                   refine lv_aload_n hx hb dX12_game_73 rfl (lv_at hl 5 rfl) ?_
                   refine lv_iload hx hb dX12_game_74 (lv_at hl 1 rfl) ?_
                   refine lv_iload hx hb dX12_game_76 (lv_at hl 0 rfl) ?_
                   exact by
                    have I137 : jI101 σ121 := jI101_fr (f124 4 (of_decide_eq_true rfl)) (f124 5 (of_decide_eq_true rfl)) (f123 56 (of_decide_eq_true rfl)) (f123 57 (of_decide_eq_true rfl)) (f123 58 (of_decide_eq_true rfl)) (f123 59 (of_decide_eq_true rfl)) I115
                    have I138 : jI102 σ121 := jI102_fr (f124 6 (of_decide_eq_true rfl)) (f123 60 (of_decide_eq_true rfl)) (f123 61 (of_decide_eq_true rfl)) I93
                    have I139 : jI103 σ121 := jI103_fr (f124 9 (of_decide_eq_true rfl)) I116
                    have I140 : jI105 σ121 := jI105_fr (f124 15 (of_decide_eq_true rfl)) (f123 65 (of_decide_eq_true rfl)) I117
                    have w141 : ∀ k : Nat, k < 4 → 0 ≤ (σ121 68 k).toInt ∧ (σ121 68 k).toInt ≤ 3 := (jrr_fr (f123 68 (of_decide_eq_true rfl)) w95)
                    refine jcallV (As := [.int r122, .int x136]) (rest := []) ⟨hx, hb, hml, hown, hts⟩ hK hP hA hS hZ (c_X12_outBy l D cI cL ad zz hJ σ121 τ r122 (r122.toInt) rfl x136 (x136.toInt) rfl I137 I138 I139 I140 w141 p126 (by omega) (by omega)) cw_RX12_259 (jc_55 cI cL ad σ121 τ) rfl ⟨Nat.le_of_ble_eq_true rfl, Nat.le_of_ble_eq_true rfl⟩ rfl rfl rfl hl.1 rfl (Nat.le_of_ble_eq_true rfl) dX12_game_78 ⟨Nat.zero_le _, Nat.zero_le _⟩ (fun r143 σ142 τ142 H locs h142 hP hS => ?_)
                    obtain ⟨rfl, f144, f145, p146, w147, h142⟩ := h142
                    have h149 := h142
                    obtain ⟨q151, k150⟩ := h149
                    exact by
                     refine lv_istore (lv' := [(8, .int r143), (7, .int x136), (6, .int r122), (5, .int x56), (4, .int x55), (3, .int x54), (0, .ref (ad 55)), (1, .int a1), (2, .int a2)]) hx hb dX12_game_81 hl (of_decide_eq_true rfl) rfl (fun ls hl => ?_)
                     refine lv_aload_n hx hb dX12_game_83 rfl (lv_at hl 6 rfl) ?_
                     refine va_get (D := D) hx hb hts inlX12 hown hK hP 55 (jc_55 cI cL ad σ142 τ) rfl 51 (of_decide_eq_true rfl) (hts _ kw_8_7) (fun _ h9 => h9) rfl dX12_game_84 ?_
                     refine lv_aload_n hx hb dX12_game_87 rfl (lv_at hl 6 rfl) ?_
                     refine va_get (D := D) hx hb hts inlX12 hown hK hP 55 (jc_55 cI cL ad σ142 τ) rfl 50 (of_decide_eq_true rfl) (hts _ kw_46_13) (fun _ h9 => h9) rfl dX12_game_88 ?_
                     have m152 : σ142 55 50 = (σ61 55 50) := ((f145 50 (of_decide_eq_true rfl)).trans (f124 50 (of_decide_eq_true rfl)))
                     refine jtopr m152 ?_
                     refine lv_iload hx hb dX12_game_91 (lv_at hl 2 rfl) ?_
                     refine jast hx hb hK hP hJ hA hS (jc_82 cI cL ad σ142 τ) (ja_82 cI cL ad σ142 τ _ _) (jin rfl (by omega) (by omega)) dX12_game_93 (fun σ153 H locs eσ153 hP hS => ?_)
                     exact by
                      refine lv_aload_n hx hb dX12_game_94 rfl (lv_at hl 6 rfl) ?_
                      refine va_get (D := D) hx hb hts inlX12 hown hK hP 55 (jc_55 cI cL ad σ153 τ) rfl 52 (of_decide_eq_true rfl) (hts _ kw_8_8) (fun _ h9 => h9) rfl dX12_game_95 ?_
                      refine lv_aload_n hx hb dX12_game_98 rfl (lv_at hl 6 rfl) ?_
                      refine va_get (D := D) hx hb hts inlX12 hown hK hP 55 (jc_55 cI cL ad σ153 τ) rfl 50 (of_decide_eq_true rfl) (hts _ kw_46_13) (fun _ h9 => h9) rfl dX12_game_99 ?_
                      have m154 : σ153 55 50 = (σ61 55 50) := ((congrFun (jnp 55 eσ153 (of_decide_eq_true rfl)) 50).trans m152)
                      refine jtopr m154 ?_
                      refine lv_aload_n hx hb dX12_game_102 rfl (lv_at hl 6 rfl) ?_
                      refine lv_iload hx hb dX12_game_103 (lv_at hl 2 rfl) ?_
                      refine lv_iload hx hb dX12_game_105 (lv_at hl 1 rfl) ?_
                      have I155 : jI101 σ153 := jI101_fr ((congrFun (jnp 55 eσ153 (of_decide_eq_true rfl)) 4).trans (f145 4 (of_decide_eq_true rfl))) ((congrFun (jnp 55 eσ153 (of_decide_eq_true rfl)) 5).trans (f145 5 (of_decide_eq_true rfl))) ((jnp 56 eσ153 (of_decide_eq_true rfl)).trans (f144 56 (of_decide_eq_true rfl))) ((jnp 57 eσ153 (of_decide_eq_true rfl)).trans (f144 57 (of_decide_eq_true rfl))) ((jnp 58 eσ153 (of_decide_eq_true rfl)).trans (f144 58 (of_decide_eq_true rfl))) ((jnp 59 eσ153 (of_decide_eq_true rfl)).trans (f144 59 (of_decide_eq_true rfl))) I137
                      have I156 : jI102 σ153 := jI102_fr ((congrFun (jnp 55 eσ153 (of_decide_eq_true rfl)) 6).trans (f145 6 (of_decide_eq_true rfl))) ((jnp 60 eσ153 (of_decide_eq_true rfl)).trans (f144 60 (of_decide_eq_true rfl))) ((jnp 61 eσ153 (of_decide_eq_true rfl)).trans (f144 61 (of_decide_eq_true rfl))) I138
                      have I157 : jI103 σ153 := jI103_fr ((congrFun (jnp 55 eσ153 (of_decide_eq_true rfl)) 9).trans (f145 9 (of_decide_eq_true rfl))) I139
                      have w158 : ∀ k : Nat, k < 4 → 0 ≤ (σ153 68 k).toInt ∧ (σ153 68 k).toInt ≤ 3 := (jrr_fr (jnp 68 eσ153 (of_decide_eq_true rfl)) (jrr_fr (f144 68 (of_decide_eq_true rfl)) w141))
                      exact by
                       refine jcallV (As := [.int r122, .int x136]) (rest := [.int (σ61 55 50), .ref (ad 83)]) ⟨hx, hb, hml, hown, hts⟩ hK hP hA hS hZ (c_X12_runsBy l D cI cL ad zz hJ σ153 τ r122 (r122.toInt) rfl x136 (x136.toInt) rfl I155 I156 I157 w158 (by omega) (by omega)) cw_RX12_262 (jc_55 cI cL ad σ153 τ) rfl ⟨Nat.le_of_ble_eq_true rfl, Nat.le_of_ble_eq_true rfl⟩ rfl rfl rfl hl.1 rfl (Nat.le_of_ble_eq_true rfl) dX12_game_107 ⟨Nat.zero_le _, Nat.zero_le _⟩ (fun r160 σ159 τ159 H locs h159 hP hS => ?_)
                       obtain ⟨⟨rfl, rfl⟩, w161, h159⟩ := h159
                       have h162 := h159
                       obtain ⟨q164, k163⟩ := h162
                       refine jast hx hb hK hP hJ hA hS (jc_83 cI cL ad σ153 τ) (ja_83 cI cL ad σ153 τ _ _) (jin rfl (by omega) (by omega)) dX12_game_110 (fun σ165 H locs eσ165 hP hS => ?_)
                       refine lv_iload hx hb dX12_game_111 (lv_at hl 4 rfl) ?_
                       refine lv_aload_n hx hb dX12_game_113 rfl (lv_at hl 6 rfl) ?_
                       refine va_get (D := D) hx hb hts inlX12 hown hK hP 55 (jc_55 cI cL ad σ165 τ) rfl 52 (of_decide_eq_true rfl) (hts _ kw_8_8) (fun _ h9 => h9) rfl dX12_game_114 ?_
                       refine lv_aload_n hx hb dX12_game_117 rfl (lv_at hl 6 rfl) ?_
                       exact by
                        refine va_get (D := D) hx hb hts inlX12 hown hK hP 55 (jc_55 cI cL ad σ165 τ) rfl 50 (of_decide_eq_true rfl) (hts _ kw_46_13) (fun _ h9 => h9) rfl dX12_game_118 ?_
                        have m166 : σ165 55 50 = (σ61 55 50) := ((congrFun (jnp 55 eσ165 (of_decide_eq_true rfl)) 50).trans m154)
                        refine jtopr m166 ?_
                        refine jald hx hb hK hP (jc_83 cI cL ad σ165 τ) (jin rfl (by omega) (by omega)) dX12_game_121 ?_
                        refine lv_topi (fun x167 ex167 => ?_)
                        have g168 := jrg (rfl : x55.toInt = x55.toInt)
                        have g169 := jrg (rfl : x167.toInt = x167.toInt)
                        refine lv_iadd hx hb dX12_game_122 ?_
                        refine lv_topi (fun x170 ex170 => ?_)
                        exact by
                         have gx170 := jrg (rfl : x170.toInt = x170.toInt)
                         refine lv_istore (lv' := [(4, .int x170), (8, .int r143), (7, .int x136), (6, .int r122), (5, .int x56), (3, .int x54), (0, .ref (ad 55)), (1, .int a1), (2, .int a2)]) hx hb dX12_game_123 hl (of_decide_eq_true rfl) rfl (fun ls hl => ?_)
                         refine lv_iload_n hx hb dX12_game_125 rfl (lv_at hl 5 rfl) ?_
                         refine lv_ldcw (v := 1103515245) hx hb hown (hts _ kw_46_14) dX12_game_126 ?_
                         have g171 := jrg (rfl : x54.toInt = x54.toInt)
                         refine lv_imul hx hb dX12_game_129 ?_
                         refine lv_topi (fun x172 ex172 => ?_)
                         have gx172 := jrg (rfl : x172.toInt = x172.toInt)
                         refine lv_sipush (v := 12345) hx hb dX12_game_130 (of_decide_eq_true rfl) ?_
                         have g173 := jrg (rfl : x172.toInt = x172.toInt)
                         refine lv_iadd hx hb dX12_game_133 ?_
                         refine lv_topi (fun x174 ex174 => ?_)
                         have gx174 := jrg (rfl : x174.toInt = x174.toInt)
                         refine lv_istore_n (lv' := [(3, .int x174), (4, .int x170), (8, .int r143), (7, .int x136), (6, .int r122), (5, .int x56), (0, .ref (ad 55)), (1, .int a1), (2, .int a2)]) hx hb dX12_game_134 rfl hl (of_decide_eq_true rfl) rfl (fun ls hl => ?_)
                         refine lv_aload_n hx hb dX12_game_135 rfl (lv_at hl 6 rfl) ?_
                         refine va_get (D := D) hx hb hts inlX12 hown hK hP 55 (jc_55 cI cL ad σ165 τ) rfl 53 (of_decide_eq_true rfl) (hts _ kw_8_9) (fun _ h9 => h9) rfl dX12_game_136 ?_
                         refine lv_aload_n hx hb dX12_game_139 rfl (lv_at hl 6 rfl) ?_
                         refine va_get (D := D) hx hb hts inlX12 hown hK hP 55 (jc_55 cI cL ad σ165 τ) rfl 50 (of_decide_eq_true rfl) (hts _ kw_46_13) (fun _ h9 => h9) rfl dX12_game_140 ?_
                         refine jtopr m166 ?_
                         refine lv_iload_n hx hb dX12_game_143 rfl (lv_at hl 0 rfl) ?_
                         refine lv_bipush (v := 8) hx hb dX12_game_144 (of_decide_eq_true rfl) ?_
                         refine lv_iushr hx hb dX12_game_146 rfl ?_
                         refine lv_topi (fun x175 ex175 => ?_)
                         have gx175 := jrg (rfl : x175.toInt = x175.toInt)
                         have g176 : 0 ≤ x175.toInt ∧ x175.toInt ≤ 16777215 := jushr8 ex175
                         refine lv_sipush (v := 1000) hx hb dX12_game_147 (of_decide_eq_true rfl) ?_
                         refine lv_irem hx hb dX12_game_150 (of_decide_eq_true rfl) ?_
                         refine lv_topi (fun x177 ex177 => ?_)
                         exact by
                          have tx177 : x177.toInt = (x175.toInt % 1000) := jrem ex177 rfl jz_1000 (by omega)
                          refine lv_iload hx hb dX12_game_151 (lv_at hl 2 rfl) ?_
                          refine lv_icmp_ge (tgt := 160) hx hb dX12_game_153 (of_decide_eq_true rfl) (fun c178 => ?_) (fun c178 => ?_)
                          · have kc178 := jle c178 rfl tx177
                            refine lv_iconst (v := 0) hx hb dX12_game_160 (of_decide_eq_true rfl) ?_
                            refine jast hx hb hK hP hJ hA hS (jc_84 cI cL ad σ165 τ) (ja_84 cI cL ad σ165 τ _ _) (jin rfl (by omega) (by omega)) dX12_game_161 (fun σ179 H locs eσ179 hP hS => ?_)
                            refine lv_aload_n hx hb dX12_game_162 rfl (lv_at hl 6 rfl) ?_
                            refine lv_iload hx hb dX12_game_163 (lv_at hl 4 rfl) ?_
                            refine lv_aload_n hx hb dX12_game_165 rfl (lv_at hl 6 rfl) ?_
                            exact by
                             refine va_get (D := D) hx hb hts inlX12 hown hK hP 55 (jc_55 cI cL ad σ179 τ) rfl 53 (of_decide_eq_true rfl) (hts _ kw_8_9) (fun _ h9 => h9) rfl dX12_game_166 ?_
                             refine lv_aload_n hx hb dX12_game_169 rfl (lv_at hl 6 rfl) ?_
                             refine va_get (D := D) hx hb hts inlX12 hown hK hP 55 (jc_55 cI cL ad σ179 τ) rfl 50 (of_decide_eq_true rfl) (hts _ kw_46_13) (fun _ h9 => h9) rfl dX12_game_170 ?_
                             have m180 : σ179 55 50 = (σ61 55 50) := ((congrFun (jnp 55 eσ179 (of_decide_eq_true rfl)) 50).trans m166)
                             refine jtopr m180 ?_
                             refine jald hx hb hK hP (jc_84 cI cL ad σ179 τ) (jin rfl (by omega) (by omega)) dX12_game_173 ?_
                             refine lv_topi (fun x181 ex181 => ?_)
                             refine lv_iconst (v := 1) hx hb dX12_game_174 (of_decide_eq_true rfl) ?_
                             refine lv_icmp_ne (tgt := 182) hx hb dX12_game_175 (of_decide_eq_true rfl) (fun c182 => ?_) (fun c182 => ?_)
                             · exact by
                                have kc182 := jne c182 rfl jz_1
                                refine lv_iconst (v := 0) hx hb dX12_game_182 (of_decide_eq_true rfl) ?_
                                have w183 : ∀ k : Nat, k < 4 → 0 ≤ (σ179 68 k).toInt ∧ (σ179 68 k).toInt ≤ 3 := (jrr_fr (jnp 68 eσ179 (of_decide_eq_true rfl)) (jrr_fr (jnp 68 eσ165 (of_decide_eq_true rfl)) w158))
                                have z184 : (σ179 55 6).toInt = (σ 55 6).toInt := (congrArg Int32.toInt (show σ179 55 6 = (σ 55 6) from ((congrFun (jnp 55 eσ179 (of_decide_eq_true rfl)) 6).trans ((congrFun (jnp 55 eσ165 (of_decide_eq_true rfl)) 6).trans ((congrFun (jnp 55 eσ153 (of_decide_eq_true rfl)) 6).trans ((f145 6 (of_decide_eq_true rfl)).trans ((f124 6 (of_decide_eq_true rfl)).trans ((f82 6 (of_decide_eq_true rfl)).trans ((jkp 6 eσ51 (of_decide_eq_true rfl)).trans ((f46 6 (of_decide_eq_true rfl)).trans (f25 6 (of_decide_eq_true rfl))))))))))))
                                have z185 : (σ179 55 27).toInt = (σ61 55 27).toInt := (congrArg Int32.toInt (show σ179 55 27 = (σ61 55 27) from ((congrFun (jnp 55 eσ179 (of_decide_eq_true rfl)) 27).trans ((congrFun (jnp 55 eσ165 (of_decide_eq_true rfl)) 27).trans ((congrFun (jnp 55 eσ153 (of_decide_eq_true rfl)) 27).trans ((f145 27 (of_decide_eq_true rfl)).trans (f124 27 (of_decide_eq_true rfl))))))))
                                have z186 : (σ179 55 25).toInt = (σ61 55 25).toInt := (congrArg Int32.toInt (show σ179 55 25 = (σ61 55 25) from ((congrFun (jnp 55 eσ179 (of_decide_eq_true rfl)) 25).trans ((congrFun (jnp 55 eσ165 (of_decide_eq_true rfl)) 25).trans ((congrFun (jnp 55 eσ153 (of_decide_eq_true rfl)) 25).trans ((f145 25 (of_decide_eq_true rfl)).trans m133))))))
                                have z187 : (σ179 55 26).toInt = (σ61 55 26).toInt := (congrArg Int32.toInt (show σ179 55 26 = (σ61 55 26) from ((congrFun (jnp 55 eσ179 (of_decide_eq_true rfl)) 26).trans ((congrFun (jnp 55 eσ165 (of_decide_eq_true rfl)) 26).trans ((congrFun (jnp 55 eσ153 (of_decide_eq_true rfl)) 26).trans ((f145 26 (of_decide_eq_true rfl)).trans (f124 26 (of_decide_eq_true rfl))))))))
                                have z188 : (σ179 68 0).toInt = (σ61 68 0).toInt := (congrArg Int32.toInt (show σ179 68 0 = (σ61 68 0) from ((congrFun (jnp 68 eσ179 (of_decide_eq_true rfl)) 0).trans ((congrFun (jnp 68 eσ165 (of_decide_eq_true rfl)) 0).trans ((congrFun (jnp 68 eσ153 (of_decide_eq_true rfl)) 0).trans ((congrFun (f144 68 (of_decide_eq_true rfl)) 0).trans (congrFun (f123 68 (of_decide_eq_true rfl)) 0)))))))
                                have z189 : (σ179 68 1).toInt = (σ61 68 1).toInt := (congrArg Int32.toInt (show σ179 68 1 = (σ61 68 1) from ((congrFun (jnp 68 eσ179 (of_decide_eq_true rfl)) 1).trans ((congrFun (jnp 68 eσ165 (of_decide_eq_true rfl)) 1).trans ((congrFun (jnp 68 eσ153 (of_decide_eq_true rfl)) 1).trans ((congrFun (f144 68 (of_decide_eq_true rfl)) 1).trans (congrFun (f123 68 (of_decide_eq_true rfl)) 1)))))))
                                have z190 : (σ179 68 2).toInt = (σ61 68 2).toInt := (congrArg Int32.toInt (show σ179 68 2 = (σ61 68 2) from ((congrFun (jnp 68 eσ179 (of_decide_eq_true rfl)) 2).trans ((congrFun (jnp 68 eσ165 (of_decide_eq_true rfl)) 2).trans ((congrFun (jnp 68 eσ153 (of_decide_eq_true rfl)) 2).trans ((congrFun (f144 68 (of_decide_eq_true rfl)) 2).trans (congrFun (f123 68 (of_decide_eq_true rfl)) 2)))))))
                                have z191 : (σ179 68 3).toInt = (σ61 68 3).toInt := (congrArg Int32.toInt (show σ179 68 3 = (σ61 68 3) from ((congrFun (jnp 68 eσ179 (of_decide_eq_true rfl)) 3).trans ((congrFun (jnp 68 eσ165 (of_decide_eq_true rfl)) 3).trans ((congrFun (jnp 68 eσ153 (of_decide_eq_true rfl)) 3).trans ((congrFun (f144 68 (of_decide_eq_true rfl)) 3).trans (congrFun (f123 68 (of_decide_eq_true rfl)) 3)))))))
                                exact by
                                 refine jcallV (As := [.int r122, .int 0]) (rest := []) ⟨hx, hb, hml, hown, hts⟩ hK hP hA hS hZ (c_X12_goes_0 l D cI cL ad zz hJ σ179 τ r122 (r122.toInt) rfl w183 (by omega) (by omega) (by omega) (by omega) (by omega)) cw_RX12_296 (jc_55 cI cL ad σ179 τ) rfl ⟨Nat.le_of_ble_eq_true rfl, Nat.le_of_ble_eq_true rfl⟩ rfl rfl rfl hl.1 rfl (Nat.le_of_ble_eq_true rfl) dX12_game_183 ⟨Nat.zero_le _, Nat.zero_le _⟩ (fun r193 σ192 τ192 H locs h192 hP hS => ?_)
                                 obtain ⟨rfl, f194, f195, w196, w197, w198, w199, h192⟩ := h192
                                 obtain ⟨k201, k202, k203, h192⟩ := h192
                                 have h204 := h192
                                 obtain ⟨q210, k205, k206, k207, k208, k209⟩ := h204
                                 refine lv_istore (lv' := [(9, .int r193), (3, .int x174), (4, .int x170), (8, .int r143), (7, .int x136), (6, .int r122), (5, .int x56), (0, .ref (ad 55)), (1, .int a1), (2, .int a2)]) hx hb dX12_game_186 hl (of_decide_eq_true rfl) rfl (fun ls hl => ?_)
                                 refine lv_iload_n hx hb dX12_game_188 rfl (lv_at hl 1 rfl) ?_
                                 refine lv_ldcw (v := 1103515245) hx hb hown (hts _ kw_46_14) dX12_game_189 ?_
                                 have g211 := jrg (rfl : x174.toInt = x174.toInt)
                                 refine lv_imul hx hb dX12_game_192 ?_
                                 refine lv_topi (fun x212 ex212 => ?_)
                                 have gx212 := jrg (rfl : x212.toInt = x212.toInt)
                                 refine lv_sipush (v := 12345) hx hb dX12_game_193 (of_decide_eq_true rfl) ?_
                                 have g213 := jrg (rfl : x212.toInt = x212.toInt)
                                 refine lv_iadd hx hb dX12_game_196 ?_
                                 refine lv_topi (fun x214 ex214 => ?_)
                                 have gx214 := jrg (rfl : x214.toInt = x214.toInt)
                                 refine lv_istore_n (lv' := [(3, .int x214), (9, .int r193), (4, .int x170), (8, .int r143), (7, .int x136), (6, .int r122), (5, .int x56), (0, .ref (ad 55)), (1, .int a1), (2, .int a2)]) hx hb dX12_game_197 rfl hl (of_decide_eq_true rfl) rfl (fun ls hl => ?_)
                                 refine lv_iload_n hx hb dX12_game_198 rfl (lv_at hl 0 rfl) ?_
                                 refine lv_bipush (v := 8) hx hb dX12_game_199 (of_decide_eq_true rfl) ?_
                                 refine lv_iushr hx hb dX12_game_201 rfl ?_
                                 refine lv_topi (fun x215 ex215 => ?_)
                                 have gx215 := jrg (rfl : x215.toInt = x215.toInt)
                                 have g216 : 0 ≤ x215.toInt ∧ x215.toInt ≤ 16777215 := jushr8 ex215
                                 refine lv_sipush (v := 1000) hx hb dX12_game_202 (of_decide_eq_true rfl) ?_
                                 refine lv_irem hx hb dX12_game_205 (of_decide_eq_true rfl) ?_
                                 refine lv_topi (fun x217 ex217 => ?_)
                                 exact by
                                  have tx217 : x217.toInt = (x215.toInt % 1000) := jrem ex217 rfl jz_1000 (by omega)
                                  refine lv_aload_n hx hb dX12_game_206 rfl (lv_at hl 7 rfl) ?_
                                  refine va_get (D := D) hx hb hts inlX12 hown hK hP 55 (jc_55 cI cL ad σ192 τ) rfl 13 (of_decide_eq_true rfl) (hts _ kw_15_14) (fun _ h9 => h9) rfl dX12_game_207 ?_
                                  have m218 : σ192 55 13 = (σ 55 13) := ((f195 13 (of_decide_eq_true rfl)).trans ((congrFun (jnp 55 eσ179 (of_decide_eq_true rfl)) 13).trans ((congrFun (jnp 55 eσ165 (of_decide_eq_true rfl)) 13).trans ((congrFun (jnp 55 eσ153 (of_decide_eq_true rfl)) 13).trans ((f145 13 (of_decide_eq_true rfl)).trans ((f124 13 (of_decide_eq_true rfl)).trans ((f82 13 (of_decide_eq_true rfl)).trans ((jkp 13 eσ51 (of_decide_eq_true rfl)).trans ((f46 13 (of_decide_eq_true rfl)).trans (f25 13 (of_decide_eq_true rfl)))))))))))
                                  refine jtopr m218 ?_
                                  refine lv_icmp_ge (tgt := 217) hx hb dX12_game_210 (of_decide_eq_true rfl) (fun c219 => ?_) (fun c219 => ?_)
                                  · have kc219 := jle c219 rfl tx217
                                    refine lv_iconst (v := 0) hx hb dX12_game_217 (of_decide_eq_true rfl) ?_
                                    refine lv_istore (lv' := [(5, .int 0), (3, .int x214), (9, .int r193), (4, .int x170), (8, .int r143), (7, .int x136), (6, .int r122), (0, .ref (ad 55)), (1, .int a1), (2, .int a2)]) hx hb dX12_game_218 hl (of_decide_eq_true rfl) rfl (fun ls hl => ?_)
                                    refine lv_aload_n hx hb dX12_game_220 rfl (lv_at hl 7 rfl) ?_
                                    refine lv_dup hx hb dX12_game_221 rfl ?_
                                    refine va_get (D := D) hx hb hts inlX12 hown hK hP 55 (jc_55 cI cL ad σ192 τ) rfl 50 (of_decide_eq_true rfl) (hts _ kw_46_13) (fun _ h9 => h9) rfl dX12_game_222 ?_
                                    have m220 : σ192 55 50 = (σ61 55 50) := ((f195 50 (of_decide_eq_true rfl)).trans m180)
                                    refine jtopr m220 ?_
                                    refine lv_iconst (v := 1) hx hb dX12_game_225 (of_decide_eq_true rfl) ?_
                                    have g221 := jrg (rfl : (σ61 55 50).toInt = (σ61 55 50).toInt)
                                    refine lv_iadd hx hb dX12_game_226 ?_
                                    refine lv_topi (fun x222 ex222 => ?_)
                                    exact by
                                     have tx222 : x222.toInt = (σ61 55 50).toInt + 1 := (jadd ex222 rfl jz_1 (by omega) (by omega)).trans (by omega)
                                     refine jput (ty := .int) hx hb hts inlX12 tyX12 tyX12_ok nmX12 hown hK hP hJ hA hS (jc_55 cI cL ad σ192 τ) rfl (k := 50) (of_decide_eq_true rfl) (Nat.le_of_ble_eq_true rfl) (jp_55_50 cI cL ad σ192 τ x222) (hts _ kw_46_13) (fun _ h9 => h9) rfl (by decide +kernel) rfl rfl dX12_game_227 (fun σ223 H locs eσ223 hP hS => ?_)
                                     refine lv_goto (tgt := 43) hx hb dX12_game_230 (of_decide_eq_true rfl) ?_
                                     have z224 : (σ223 55 12).toInt = (σ 55 12).toInt := (congrArg Int32.toInt (show σ223 55 12 = (σ 55 12) from ((jkp 12 eσ223 (of_decide_eq_true rfl)).trans ((f195 12 (of_decide_eq_true rfl)).trans ((congrFun (jnp 55 eσ179 (of_decide_eq_true rfl)) 12).trans ((congrFun (jnp 55 eσ165 (of_decide_eq_true rfl)) 12).trans ((congrFun (jnp 55 eσ153 (of_decide_eq_true rfl)) 12).trans ((f145 12 (of_decide_eq_true rfl)).trans ((f124 12 (of_decide_eq_true rfl)).trans ((f82 12 (of_decide_eq_true rfl)).trans ((jkp 12 eσ51 (of_decide_eq_true rfl)).trans ((f46 12 (of_decide_eq_true rfl)).trans (f25 12 (of_decide_eq_true rfl))))))))))))))
                                     have z225 : (σ223 55 26).toInt = (σ192 55 26).toInt := (congrArg Int32.toInt (show σ223 55 26 = (σ192 55 26) from (jkp 26 eσ223 (of_decide_eq_true rfl))))
                                     have z226 : (σ223 55 25).toInt = (σ192 55 25).toInt := (congrArg Int32.toInt (show σ223 55 25 = (σ192 55 25) from (jkp 25 eσ223 (of_decide_eq_true rfl))))
                                     have z227 : (σ223 55 10).toInt = (σ 55 10).toInt := (congrArg Int32.toInt (show σ223 55 10 = (σ 55 10) from ((jkp 10 eσ223 (of_decide_eq_true rfl)).trans ((f195 10 (of_decide_eq_true rfl)).trans ((congrFun (jnp 55 eσ179 (of_decide_eq_true rfl)) 10).trans ((congrFun (jnp 55 eσ165 (of_decide_eq_true rfl)) 10).trans ((congrFun (jnp 55 eσ153 (of_decide_eq_true rfl)) 10).trans ((f145 10 (of_decide_eq_true rfl)).trans ((f124 10 (of_decide_eq_true rfl)).trans ((f82 10 (of_decide_eq_true rfl)).trans ((jkp 10 eσ51 (of_decide_eq_true rfl)).trans ((f46 10 (of_decide_eq_true rfl)).trans (f25 10 (of_decide_eq_true rfl))))))))))))))
                                     have z228 : (σ223 55 27).toInt = (σ192 55 27).toInt := (congrArg Int32.toInt (show σ223 55 27 = (σ192 55 27) from (jkp 27 eσ223 (of_decide_eq_true rfl))))
                                     have z229 : (σ223 55 50).toInt = (σ61 55 50).toInt + 1 := ((congrArg Int32.toInt (show σ223 55 50 = x222 from (jsp eσ223))).trans tx222)
                                     have p230 : jKept σ223 := jKept.fr ((jnp 75 eσ223 (of_decide_eq_true rfl)).trans ((f194 75 (of_decide_eq_true rfl)).trans ((jnp 75 eσ179 (of_decide_eq_true rfl)).trans ((jnp 75 eσ165 (of_decide_eq_true rfl)).trans ((jnp 75 eσ153 (of_decide_eq_true rfl)).trans (f144 75 (of_decide_eq_true rfl))))))) ((jnp 76 eσ223 (of_decide_eq_true rfl)).trans ((f194 76 (of_decide_eq_true rfl)).trans ((jnp 76 eσ179 (of_decide_eq_true rfl)).trans ((jnp 76 eσ165 (of_decide_eq_true rfl)).trans ((jnp 76 eσ153 (of_decide_eq_true rfl)).trans (f144 76 (of_decide_eq_true rfl))))))) ((jnp 77 eσ223 (of_decide_eq_true rfl)).trans ((f194 77 (of_decide_eq_true rfl)).trans ((jnp 77 eσ179 (of_decide_eq_true rfl)).trans ((jnp 77 eσ165 (of_decide_eq_true rfl)).trans ((jnp 77 eσ153 (of_decide_eq_true rfl)).trans (f144 77 (of_decide_eq_true rfl))))))) p125
                                     have p231 : jqSt σ223 := jqSt.fr ((jnp 78 eσ223 (of_decide_eq_true rfl)).trans ((f194 78 (of_decide_eq_true rfl)).trans ((jnp 78 eσ179 (of_decide_eq_true rfl)).trans ((jnp 78 eσ165 (of_decide_eq_true rfl)).trans ((jnp 78 eσ153 (of_decide_eq_true rfl)).trans (f144 78 (of_decide_eq_true rfl))))))) ((jkp 42 eσ223 (of_decide_eq_true rfl)).trans ((f195 42 (of_decide_eq_true rfl)).trans ((congrFun (jnp 55 eσ179 (of_decide_eq_true rfl)) 42).trans ((congrFun (jnp 55 eσ165 (of_decide_eq_true rfl)) 42).trans ((congrFun (jnp 55 eσ153 (of_decide_eq_true rfl)) 42).trans (f145 42 (of_decide_eq_true rfl))))))) p127
                                     have I232 : jI109 σ223 := (show 0 ≤ (σ223 55 50).toInt ∧ (σ223 55 50).toInt ≤ 12 by omega)
                                     have w233 : ∀ k : Nat, k < 4 → 0 ≤ (σ223 68 k).toInt ∧ (σ223 68 k).toInt ≤ 3 := (jrr_fr (jnp 68 eσ223 (of_decide_eq_true rfl)) w196)
                                     have I234 : jI119 σ223 := w233
                                     exact by exact ihlp52 x214 x170 0 σ223 _ _ ls (by have h92 := jz_0; omega) (by have h92 := jz_0; omega) (by have h92 := jz_0; omega) (by have h92 := jz_0; omega) (by have h92 := jz_0; omega) (by have h92 := jz_0; omega) (by have h92 := jz_0; omega) (fun i hi => ((jnp i eσ223 (imp_282 i hi)).trans ((f194 i (imp_284 i hi)).trans ((jnp i eσ179 (imp_289 i hi)).trans ((jnp i eσ165 (imp_290 i hi)).trans ((jnp i eσ153 (imp_291 i hi)).trans ((f144 i (imp_292 i hi)).trans ((f123 i (imp_293 i hi)).trans (f81 i hi))))))))) (fun i hi => ((jkp i eσ223 (imp_294 i hi)).trans ((f195 i (imp_295 i hi)).trans ((congrFun (jnp 55 eσ179 (of_decide_eq_true rfl)) i).trans ((congrFun (jnp 55 eσ165 (of_decide_eq_true rfl)) i).trans ((congrFun (jnp 55 eσ153 (of_decide_eq_true rfl)) i).trans ((f145 i (imp_296 i hi)).trans ((f124 i (imp_297 i hi)).trans (f82 i hi)))))))))  p230 p231 I232 I234 hP hS (lv_sub hl [0, 3, 1, 7, 8, 9] rfl)
                                  · have kc219 := jnle c219 rfl tx217
                                    refine lv_iconst (v := 1) hx hb dX12_game_213 (of_decide_eq_true rfl) ?_
                                    refine lv_goto (tgt := 218) hx hb dX12_game_214 (of_decide_eq_true rfl) ?_
                                    refine lv_istore (lv' := [(5, .int 1), (3, .int x214), (9, .int r193), (4, .int x170), (8, .int r143), (7, .int x136), (6, .int r122), (0, .ref (ad 55)), (1, .int a1), (2, .int a2)]) hx hb dX12_game_218 hl (of_decide_eq_true rfl) rfl (fun ls hl => ?_)
                                    refine lv_aload_n hx hb dX12_game_220 rfl (lv_at hl 7 rfl) ?_
                                    refine lv_dup hx hb dX12_game_221 rfl ?_
                                    refine va_get (D := D) hx hb hts inlX12 hown hK hP 55 (jc_55 cI cL ad σ192 τ) rfl 50 (of_decide_eq_true rfl) (hts _ kw_46_13) (fun _ h9 => h9) rfl dX12_game_222 ?_
                                    have m235 : σ192 55 50 = (σ61 55 50) := ((f195 50 (of_decide_eq_true rfl)).trans m180)
                                    refine jtopr m235 ?_
                                    refine lv_iconst (v := 1) hx hb dX12_game_225 (of_decide_eq_true rfl) ?_
                                    have g236 := jrg (rfl : (σ61 55 50).toInt = (σ61 55 50).toInt)
                                    refine lv_iadd hx hb dX12_game_226 ?_
                                    refine lv_topi (fun x237 ex237 => ?_)
                                    exact by
                                     have tx237 : x237.toInt = (σ61 55 50).toInt + 1 := (jadd ex237 rfl jz_1 (by omega) (by omega)).trans (by omega)
                                     refine jput (ty := .int) hx hb hts inlX12 tyX12 tyX12_ok nmX12 hown hK hP hJ hA hS (jc_55 cI cL ad σ192 τ) rfl (k := 50) (of_decide_eq_true rfl) (Nat.le_of_ble_eq_true rfl) (jp_55_50 cI cL ad σ192 τ x237) (hts _ kw_46_13) (fun _ h9 => h9) rfl (by decide +kernel) rfl rfl dX12_game_227 (fun σ238 H locs eσ238 hP hS => ?_)
                                     refine lv_goto (tgt := 43) hx hb dX12_game_230 (of_decide_eq_true rfl) ?_
                                     have z239 : (σ238 55 12).toInt = (σ 55 12).toInt := (congrArg Int32.toInt (show σ238 55 12 = (σ 55 12) from ((jkp 12 eσ238 (of_decide_eq_true rfl)).trans ((f195 12 (of_decide_eq_true rfl)).trans ((congrFun (jnp 55 eσ179 (of_decide_eq_true rfl)) 12).trans ((congrFun (jnp 55 eσ165 (of_decide_eq_true rfl)) 12).trans ((congrFun (jnp 55 eσ153 (of_decide_eq_true rfl)) 12).trans ((f145 12 (of_decide_eq_true rfl)).trans ((f124 12 (of_decide_eq_true rfl)).trans ((f82 12 (of_decide_eq_true rfl)).trans ((jkp 12 eσ51 (of_decide_eq_true rfl)).trans ((f46 12 (of_decide_eq_true rfl)).trans (f25 12 (of_decide_eq_true rfl))))))))))))))
                                     have z240 : (σ238 55 26).toInt = (σ192 55 26).toInt := (congrArg Int32.toInt (show σ238 55 26 = (σ192 55 26) from (jkp 26 eσ238 (of_decide_eq_true rfl))))
                                     have z241 : (σ238 55 25).toInt = (σ192 55 25).toInt := (congrArg Int32.toInt (show σ238 55 25 = (σ192 55 25) from (jkp 25 eσ238 (of_decide_eq_true rfl))))
                                     have z242 : (σ238 55 10).toInt = (σ 55 10).toInt := (congrArg Int32.toInt (show σ238 55 10 = (σ 55 10) from ((jkp 10 eσ238 (of_decide_eq_true rfl)).trans ((f195 10 (of_decide_eq_true rfl)).trans ((congrFun (jnp 55 eσ179 (of_decide_eq_true rfl)) 10).trans ((congrFun (jnp 55 eσ165 (of_decide_eq_true rfl)) 10).trans ((congrFun (jnp 55 eσ153 (of_decide_eq_true rfl)) 10).trans ((f145 10 (of_decide_eq_true rfl)).trans ((f124 10 (of_decide_eq_true rfl)).trans ((f82 10 (of_decide_eq_true rfl)).trans ((jkp 10 eσ51 (of_decide_eq_true rfl)).trans ((f46 10 (of_decide_eq_true rfl)).trans (f25 10 (of_decide_eq_true rfl))))))))))))))
                                     have z243 : (σ238 55 27).toInt = (σ192 55 27).toInt := (congrArg Int32.toInt (show σ238 55 27 = (σ192 55 27) from (jkp 27 eσ238 (of_decide_eq_true rfl))))
                                     have z244 : (σ238 55 50).toInt = (σ61 55 50).toInt + 1 := ((congrArg Int32.toInt (show σ238 55 50 = x237 from (jsp eσ238))).trans tx237)
                                     have p245 : jKept σ238 := jKept.fr ((jnp 75 eσ238 (of_decide_eq_true rfl)).trans ((f194 75 (of_decide_eq_true rfl)).trans ((jnp 75 eσ179 (of_decide_eq_true rfl)).trans ((jnp 75 eσ165 (of_decide_eq_true rfl)).trans ((jnp 75 eσ153 (of_decide_eq_true rfl)).trans (f144 75 (of_decide_eq_true rfl))))))) ((jnp 76 eσ238 (of_decide_eq_true rfl)).trans ((f194 76 (of_decide_eq_true rfl)).trans ((jnp 76 eσ179 (of_decide_eq_true rfl)).trans ((jnp 76 eσ165 (of_decide_eq_true rfl)).trans ((jnp 76 eσ153 (of_decide_eq_true rfl)).trans (f144 76 (of_decide_eq_true rfl))))))) ((jnp 77 eσ238 (of_decide_eq_true rfl)).trans ((f194 77 (of_decide_eq_true rfl)).trans ((jnp 77 eσ179 (of_decide_eq_true rfl)).trans ((jnp 77 eσ165 (of_decide_eq_true rfl)).trans ((jnp 77 eσ153 (of_decide_eq_true rfl)).trans (f144 77 (of_decide_eq_true rfl))))))) p125
                                     have p246 : jqSt σ238 := jqSt.fr ((jnp 78 eσ238 (of_decide_eq_true rfl)).trans ((f194 78 (of_decide_eq_true rfl)).trans ((jnp 78 eσ179 (of_decide_eq_true rfl)).trans ((jnp 78 eσ165 (of_decide_eq_true rfl)).trans ((jnp 78 eσ153 (of_decide_eq_true rfl)).trans (f144 78 (of_decide_eq_true rfl))))))) ((jkp 42 eσ238 (of_decide_eq_true rfl)).trans ((f195 42 (of_decide_eq_true rfl)).trans ((congrFun (jnp 55 eσ179 (of_decide_eq_true rfl)) 42).trans ((congrFun (jnp 55 eσ165 (of_decide_eq_true rfl)) 42).trans ((congrFun (jnp 55 eσ153 (of_decide_eq_true rfl)) 42).trans (f145 42 (of_decide_eq_true rfl))))))) p127
                                     have I247 : jI109 σ238 := (show 0 ≤ (σ238 55 50).toInt ∧ (σ238 55 50).toInt ≤ 12 by omega)
                                     have w248 : ∀ k : Nat, k < 4 → 0 ≤ (σ238 68 k).toInt ∧ (σ238 68 k).toInt ≤ 3 := (jrr_fr (jnp 68 eσ238 (of_decide_eq_true rfl)) w196)
                                     have I249 : jI119 σ238 := w248
                                     exact by exact ihlp52 x214 x170 1 σ238 _ _ ls (by have h92 := jz_1; omega) (by have h92 := jz_1; omega) (by have h92 := jz_1; omega) (by have h92 := jz_1; omega) (by have h92 := jz_1; omega) (by have h92 := jz_1; omega) (by have h92 := jz_1; omega) (fun i hi => ((jnp i eσ238 (imp_282 i hi)).trans ((f194 i (imp_284 i hi)).trans ((jnp i eσ179 (imp_289 i hi)).trans ((jnp i eσ165 (imp_290 i hi)).trans ((jnp i eσ153 (imp_291 i hi)).trans ((f144 i (imp_292 i hi)).trans ((f123 i (imp_293 i hi)).trans (f81 i hi))))))))) (fun i hi => ((jkp i eσ238 (imp_294 i hi)).trans ((f195 i (imp_295 i hi)).trans ((congrFun (jnp 55 eσ179 (of_decide_eq_true rfl)) i).trans ((congrFun (jnp 55 eσ165 (of_decide_eq_true rfl)) i).trans ((congrFun (jnp 55 eσ153 (of_decide_eq_true rfl)) i).trans ((f145 i (imp_296 i hi)).trans ((f124 i (imp_297 i hi)).trans (f82 i hi)))))))))  p245 p246 I247 I249 hP hS (lv_sub hl [0, 3, 1, 7, 8, 9] rfl)
                             · have kc182 := jeq c182 rfl jz_1
                               refine lv_iconst (v := 1) hx hb dX12_game_178 (of_decide_eq_true rfl) ?_
                               refine lv_goto (tgt := 183) hx hb dX12_game_179 (of_decide_eq_true rfl) ?_
                               have w250 : ∀ k : Nat, k < 4 → 0 ≤ (σ179 68 k).toInt ∧ (σ179 68 k).toInt ≤ 3 := (jrr_fr (jnp 68 eσ179 (of_decide_eq_true rfl)) (jrr_fr (jnp 68 eσ165 (of_decide_eq_true rfl)) w158))
                               have z251 : (σ179 55 6).toInt = (σ 55 6).toInt := (congrArg Int32.toInt (show σ179 55 6 = (σ 55 6) from ((congrFun (jnp 55 eσ179 (of_decide_eq_true rfl)) 6).trans ((congrFun (jnp 55 eσ165 (of_decide_eq_true rfl)) 6).trans ((congrFun (jnp 55 eσ153 (of_decide_eq_true rfl)) 6).trans ((f145 6 (of_decide_eq_true rfl)).trans ((f124 6 (of_decide_eq_true rfl)).trans ((f82 6 (of_decide_eq_true rfl)).trans ((jkp 6 eσ51 (of_decide_eq_true rfl)).trans ((f46 6 (of_decide_eq_true rfl)).trans (f25 6 (of_decide_eq_true rfl))))))))))))
                               have z252 : (σ179 55 27).toInt = (σ61 55 27).toInt := (congrArg Int32.toInt (show σ179 55 27 = (σ61 55 27) from ((congrFun (jnp 55 eσ179 (of_decide_eq_true rfl)) 27).trans ((congrFun (jnp 55 eσ165 (of_decide_eq_true rfl)) 27).trans ((congrFun (jnp 55 eσ153 (of_decide_eq_true rfl)) 27).trans ((f145 27 (of_decide_eq_true rfl)).trans (f124 27 (of_decide_eq_true rfl))))))))
                               have z253 : (σ179 55 25).toInt = (σ61 55 25).toInt := (congrArg Int32.toInt (show σ179 55 25 = (σ61 55 25) from ((congrFun (jnp 55 eσ179 (of_decide_eq_true rfl)) 25).trans ((congrFun (jnp 55 eσ165 (of_decide_eq_true rfl)) 25).trans ((congrFun (jnp 55 eσ153 (of_decide_eq_true rfl)) 25).trans ((f145 25 (of_decide_eq_true rfl)).trans m133))))))
                               have z254 : (σ179 55 26).toInt = (σ61 55 26).toInt := (congrArg Int32.toInt (show σ179 55 26 = (σ61 55 26) from ((congrFun (jnp 55 eσ179 (of_decide_eq_true rfl)) 26).trans ((congrFun (jnp 55 eσ165 (of_decide_eq_true rfl)) 26).trans ((congrFun (jnp 55 eσ153 (of_decide_eq_true rfl)) 26).trans ((f145 26 (of_decide_eq_true rfl)).trans (f124 26 (of_decide_eq_true rfl))))))))
                               have z255 : (σ179 68 0).toInt = (σ61 68 0).toInt := (congrArg Int32.toInt (show σ179 68 0 = (σ61 68 0) from ((congrFun (jnp 68 eσ179 (of_decide_eq_true rfl)) 0).trans ((congrFun (jnp 68 eσ165 (of_decide_eq_true rfl)) 0).trans ((congrFun (jnp 68 eσ153 (of_decide_eq_true rfl)) 0).trans ((congrFun (f144 68 (of_decide_eq_true rfl)) 0).trans (congrFun (f123 68 (of_decide_eq_true rfl)) 0)))))))
                               have z256 : (σ179 68 1).toInt = (σ61 68 1).toInt := (congrArg Int32.toInt (show σ179 68 1 = (σ61 68 1) from ((congrFun (jnp 68 eσ179 (of_decide_eq_true rfl)) 1).trans ((congrFun (jnp 68 eσ165 (of_decide_eq_true rfl)) 1).trans ((congrFun (jnp 68 eσ153 (of_decide_eq_true rfl)) 1).trans ((congrFun (f144 68 (of_decide_eq_true rfl)) 1).trans (congrFun (f123 68 (of_decide_eq_true rfl)) 1)))))))
                               have z257 : (σ179 68 2).toInt = (σ61 68 2).toInt := (congrArg Int32.toInt (show σ179 68 2 = (σ61 68 2) from ((congrFun (jnp 68 eσ179 (of_decide_eq_true rfl)) 2).trans ((congrFun (jnp 68 eσ165 (of_decide_eq_true rfl)) 2).trans ((congrFun (jnp 68 eσ153 (of_decide_eq_true rfl)) 2).trans ((congrFun (f144 68 (of_decide_eq_true rfl)) 2).trans (congrFun (f123 68 (of_decide_eq_true rfl)) 2)))))))
                               have z258 : (σ179 68 3).toInt = (σ61 68 3).toInt := (congrArg Int32.toInt (show σ179 68 3 = (σ61 68 3) from ((congrFun (jnp 68 eσ179 (of_decide_eq_true rfl)) 3).trans ((congrFun (jnp 68 eσ165 (of_decide_eq_true rfl)) 3).trans ((congrFun (jnp 68 eσ153 (of_decide_eq_true rfl)) 3).trans ((congrFun (f144 68 (of_decide_eq_true rfl)) 3).trans (congrFun (f123 68 (of_decide_eq_true rfl)) 3)))))))
                               exact by
                                refine jcallV (As := [.int r122, .int 1]) (rest := []) ⟨hx, hb, hml, hown, hts⟩ hK hP hA hS hZ (c_X12_goes_1 l D cI cL ad zz hJ σ179 τ r122 (r122.toInt) rfl w250 (by omega) (by omega) (by omega) (by omega) (by omega)) cw_RX12_296 (jc_55 cI cL ad σ179 τ) rfl ⟨Nat.le_of_ble_eq_true rfl, Nat.le_of_ble_eq_true rfl⟩ rfl rfl rfl hl.1 rfl (Nat.le_of_ble_eq_true rfl) dX12_game_183 ⟨Nat.zero_le _, Nat.zero_le _⟩ (fun r260 σ259 τ259 H locs h259 hP hS => ?_)
                                obtain ⟨rfl, f261, f262, w263, w264, w265, w266, h259⟩ := h259
                                obtain ⟨k268, k269, k270, h259⟩ := h259
                                have h271 := h259
                                obtain ⟨q277, k272, k273, k274, k275, k276⟩ := h271
                                refine lv_istore (lv' := [(9, .int r260), (3, .int x174), (4, .int x170), (8, .int r143), (7, .int x136), (6, .int r122), (5, .int x56), (0, .ref (ad 55)), (1, .int a1), (2, .int a2)]) hx hb dX12_game_186 hl (of_decide_eq_true rfl) rfl (fun ls hl => ?_)
                                refine lv_iload_n hx hb dX12_game_188 rfl (lv_at hl 1 rfl) ?_
                                refine lv_ldcw (v := 1103515245) hx hb hown (hts _ kw_46_14) dX12_game_189 ?_
                                have g278 := jrg (rfl : x174.toInt = x174.toInt)
                                refine lv_imul hx hb dX12_game_192 ?_
                                refine lv_topi (fun x279 ex279 => ?_)
                                have gx279 := jrg (rfl : x279.toInt = x279.toInt)
                                refine lv_sipush (v := 12345) hx hb dX12_game_193 (of_decide_eq_true rfl) ?_
                                have g280 := jrg (rfl : x279.toInt = x279.toInt)
                                refine lv_iadd hx hb dX12_game_196 ?_
                                refine lv_topi (fun x281 ex281 => ?_)
                                have gx281 := jrg (rfl : x281.toInt = x281.toInt)
                                refine lv_istore_n (lv' := [(3, .int x281), (9, .int r260), (4, .int x170), (8, .int r143), (7, .int x136), (6, .int r122), (5, .int x56), (0, .ref (ad 55)), (1, .int a1), (2, .int a2)]) hx hb dX12_game_197 rfl hl (of_decide_eq_true rfl) rfl (fun ls hl => ?_)
                                refine lv_iload_n hx hb dX12_game_198 rfl (lv_at hl 0 rfl) ?_
                                refine lv_bipush (v := 8) hx hb dX12_game_199 (of_decide_eq_true rfl) ?_
                                refine lv_iushr hx hb dX12_game_201 rfl ?_
                                refine lv_topi (fun x282 ex282 => ?_)
                                have gx282 := jrg (rfl : x282.toInt = x282.toInt)
                                have g283 : 0 ≤ x282.toInt ∧ x282.toInt ≤ 16777215 := jushr8 ex282
                                refine lv_sipush (v := 1000) hx hb dX12_game_202 (of_decide_eq_true rfl) ?_
                                refine lv_irem hx hb dX12_game_205 (of_decide_eq_true rfl) ?_
                                refine lv_topi (fun x284 ex284 => ?_)
                                exact by
                                 have tx284 : x284.toInt = (x282.toInt % 1000) := jrem ex284 rfl jz_1000 (by omega)
                                 refine lv_aload_n hx hb dX12_game_206 rfl (lv_at hl 7 rfl) ?_
                                 refine va_get (D := D) hx hb hts inlX12 hown hK hP 55 (jc_55 cI cL ad σ259 τ) rfl 13 (of_decide_eq_true rfl) (hts _ kw_15_14) (fun _ h9 => h9) rfl dX12_game_207 ?_
                                 have m285 : σ259 55 13 = (σ 55 13) := ((f262 13 (of_decide_eq_true rfl)).trans ((congrFun (jnp 55 eσ179 (of_decide_eq_true rfl)) 13).trans ((congrFun (jnp 55 eσ165 (of_decide_eq_true rfl)) 13).trans ((congrFun (jnp 55 eσ153 (of_decide_eq_true rfl)) 13).trans ((f145 13 (of_decide_eq_true rfl)).trans ((f124 13 (of_decide_eq_true rfl)).trans ((f82 13 (of_decide_eq_true rfl)).trans ((jkp 13 eσ51 (of_decide_eq_true rfl)).trans ((f46 13 (of_decide_eq_true rfl)).trans (f25 13 (of_decide_eq_true rfl)))))))))))
                                 refine jtopr m285 ?_
                                 refine lv_icmp_ge (tgt := 217) hx hb dX12_game_210 (of_decide_eq_true rfl) (fun c286 => ?_) (fun c286 => ?_)
                                 · have kc286 := jle c286 rfl tx284
                                   refine lv_iconst (v := 0) hx hb dX12_game_217 (of_decide_eq_true rfl) ?_
                                   refine lv_istore (lv' := [(5, .int 0), (3, .int x281), (9, .int r260), (4, .int x170), (8, .int r143), (7, .int x136), (6, .int r122), (0, .ref (ad 55)), (1, .int a1), (2, .int a2)]) hx hb dX12_game_218 hl (of_decide_eq_true rfl) rfl (fun ls hl => ?_)
                                   refine lv_aload_n hx hb dX12_game_220 rfl (lv_at hl 7 rfl) ?_
                                   refine lv_dup hx hb dX12_game_221 rfl ?_
                                   refine va_get (D := D) hx hb hts inlX12 hown hK hP 55 (jc_55 cI cL ad σ259 τ) rfl 50 (of_decide_eq_true rfl) (hts _ kw_46_13) (fun _ h9 => h9) rfl dX12_game_222 ?_
                                   have m287 : σ259 55 50 = (σ61 55 50) := ((f262 50 (of_decide_eq_true rfl)).trans m180)
                                   refine jtopr m287 ?_
                                   refine lv_iconst (v := 1) hx hb dX12_game_225 (of_decide_eq_true rfl) ?_
                                   have g288 := jrg (rfl : (σ61 55 50).toInt = (σ61 55 50).toInt)
                                   refine lv_iadd hx hb dX12_game_226 ?_
                                   refine lv_topi (fun x289 ex289 => ?_)
                                   exact by
                                    have tx289 : x289.toInt = (σ61 55 50).toInt + 1 := (jadd ex289 rfl jz_1 (by omega) (by omega)).trans (by omega)
                                    refine jput (ty := .int) hx hb hts inlX12 tyX12 tyX12_ok nmX12 hown hK hP hJ hA hS (jc_55 cI cL ad σ259 τ) rfl (k := 50) (of_decide_eq_true rfl) (Nat.le_of_ble_eq_true rfl) (jp_55_50 cI cL ad σ259 τ x289) (hts _ kw_46_13) (fun _ h9 => h9) rfl (by decide +kernel) rfl rfl dX12_game_227 (fun σ290 H locs eσ290 hP hS => ?_)
                                    refine lv_goto (tgt := 43) hx hb dX12_game_230 (of_decide_eq_true rfl) ?_
                                    have z291 : (σ290 55 12).toInt = (σ 55 12).toInt := (congrArg Int32.toInt (show σ290 55 12 = (σ 55 12) from ((jkp 12 eσ290 (of_decide_eq_true rfl)).trans ((f262 12 (of_decide_eq_true rfl)).trans ((congrFun (jnp 55 eσ179 (of_decide_eq_true rfl)) 12).trans ((congrFun (jnp 55 eσ165 (of_decide_eq_true rfl)) 12).trans ((congrFun (jnp 55 eσ153 (of_decide_eq_true rfl)) 12).trans ((f145 12 (of_decide_eq_true rfl)).trans ((f124 12 (of_decide_eq_true rfl)).trans ((f82 12 (of_decide_eq_true rfl)).trans ((jkp 12 eσ51 (of_decide_eq_true rfl)).trans ((f46 12 (of_decide_eq_true rfl)).trans (f25 12 (of_decide_eq_true rfl))))))))))))))
                                    have z292 : (σ290 55 26).toInt = (σ259 55 26).toInt := (congrArg Int32.toInt (show σ290 55 26 = (σ259 55 26) from (jkp 26 eσ290 (of_decide_eq_true rfl))))
                                    have z293 : (σ290 55 25).toInt = (σ259 55 25).toInt := (congrArg Int32.toInt (show σ290 55 25 = (σ259 55 25) from (jkp 25 eσ290 (of_decide_eq_true rfl))))
                                    have z294 : (σ290 55 10).toInt = (σ 55 10).toInt := (congrArg Int32.toInt (show σ290 55 10 = (σ 55 10) from ((jkp 10 eσ290 (of_decide_eq_true rfl)).trans ((f262 10 (of_decide_eq_true rfl)).trans ((congrFun (jnp 55 eσ179 (of_decide_eq_true rfl)) 10).trans ((congrFun (jnp 55 eσ165 (of_decide_eq_true rfl)) 10).trans ((congrFun (jnp 55 eσ153 (of_decide_eq_true rfl)) 10).trans ((f145 10 (of_decide_eq_true rfl)).trans ((f124 10 (of_decide_eq_true rfl)).trans ((f82 10 (of_decide_eq_true rfl)).trans ((jkp 10 eσ51 (of_decide_eq_true rfl)).trans ((f46 10 (of_decide_eq_true rfl)).trans (f25 10 (of_decide_eq_true rfl))))))))))))))
                                    have z295 : (σ290 55 27).toInt = (σ259 55 27).toInt := (congrArg Int32.toInt (show σ290 55 27 = (σ259 55 27) from (jkp 27 eσ290 (of_decide_eq_true rfl))))
                                    have z296 : (σ290 55 50).toInt = (σ61 55 50).toInt + 1 := ((congrArg Int32.toInt (show σ290 55 50 = x289 from (jsp eσ290))).trans tx289)
                                    have p297 : jKept σ290 := jKept.fr ((jnp 75 eσ290 (of_decide_eq_true rfl)).trans ((f261 75 (of_decide_eq_true rfl)).trans ((jnp 75 eσ179 (of_decide_eq_true rfl)).trans ((jnp 75 eσ165 (of_decide_eq_true rfl)).trans ((jnp 75 eσ153 (of_decide_eq_true rfl)).trans (f144 75 (of_decide_eq_true rfl))))))) ((jnp 76 eσ290 (of_decide_eq_true rfl)).trans ((f261 76 (of_decide_eq_true rfl)).trans ((jnp 76 eσ179 (of_decide_eq_true rfl)).trans ((jnp 76 eσ165 (of_decide_eq_true rfl)).trans ((jnp 76 eσ153 (of_decide_eq_true rfl)).trans (f144 76 (of_decide_eq_true rfl))))))) ((jnp 77 eσ290 (of_decide_eq_true rfl)).trans ((f261 77 (of_decide_eq_true rfl)).trans ((jnp 77 eσ179 (of_decide_eq_true rfl)).trans ((jnp 77 eσ165 (of_decide_eq_true rfl)).trans ((jnp 77 eσ153 (of_decide_eq_true rfl)).trans (f144 77 (of_decide_eq_true rfl))))))) p125
                                    have p298 : jqSt σ290 := jqSt.fr ((jnp 78 eσ290 (of_decide_eq_true rfl)).trans ((f261 78 (of_decide_eq_true rfl)).trans ((jnp 78 eσ179 (of_decide_eq_true rfl)).trans ((jnp 78 eσ165 (of_decide_eq_true rfl)).trans ((jnp 78 eσ153 (of_decide_eq_true rfl)).trans (f144 78 (of_decide_eq_true rfl))))))) ((jkp 42 eσ290 (of_decide_eq_true rfl)).trans ((f262 42 (of_decide_eq_true rfl)).trans ((congrFun (jnp 55 eσ179 (of_decide_eq_true rfl)) 42).trans ((congrFun (jnp 55 eσ165 (of_decide_eq_true rfl)) 42).trans ((congrFun (jnp 55 eσ153 (of_decide_eq_true rfl)) 42).trans (f145 42 (of_decide_eq_true rfl))))))) p127
                                    have I299 : jI109 σ290 := (show 0 ≤ (σ290 55 50).toInt ∧ (σ290 55 50).toInt ≤ 12 by omega)
                                    have w300 : ∀ k : Nat, k < 4 → 0 ≤ (σ290 68 k).toInt ∧ (σ290 68 k).toInt ≤ 3 := (jrr_fr (jnp 68 eσ290 (of_decide_eq_true rfl)) w263)
                                    have I301 : jI119 σ290 := w300
                                    exact by exact ihlp52 x281 x170 0 σ290 _ _ ls (by have h92 := jz_0; omega) (by have h92 := jz_0; omega) (by have h92 := jz_0; omega) (by have h92 := jz_0; omega) (by have h92 := jz_0; omega) (by have h92 := jz_0; omega) (by have h92 := jz_0; omega) (fun i hi => ((jnp i eσ290 (imp_282 i hi)).trans ((f261 i (imp_284 i hi)).trans ((jnp i eσ179 (imp_289 i hi)).trans ((jnp i eσ165 (imp_290 i hi)).trans ((jnp i eσ153 (imp_291 i hi)).trans ((f144 i (imp_292 i hi)).trans ((f123 i (imp_293 i hi)).trans (f81 i hi))))))))) (fun i hi => ((jkp i eσ290 (imp_294 i hi)).trans ((f262 i (imp_295 i hi)).trans ((congrFun (jnp 55 eσ179 (of_decide_eq_true rfl)) i).trans ((congrFun (jnp 55 eσ165 (of_decide_eq_true rfl)) i).trans ((congrFun (jnp 55 eσ153 (of_decide_eq_true rfl)) i).trans ((f145 i (imp_296 i hi)).trans ((f124 i (imp_297 i hi)).trans (f82 i hi)))))))))  p297 p298 I299 I301 hP hS (lv_sub hl [0, 3, 1, 7, 8, 9] rfl)
                                 · have kc286 := jnle c286 rfl tx284
                                   refine lv_iconst (v := 1) hx hb dX12_game_213 (of_decide_eq_true rfl) ?_
                                   refine lv_goto (tgt := 218) hx hb dX12_game_214 (of_decide_eq_true rfl) ?_
                                   refine lv_istore (lv' := [(5, .int 1), (3, .int x281), (9, .int r260), (4, .int x170), (8, .int r143), (7, .int x136), (6, .int r122), (0, .ref (ad 55)), (1, .int a1), (2, .int a2)]) hx hb dX12_game_218 hl (of_decide_eq_true rfl) rfl (fun ls hl => ?_)
                                   refine lv_aload_n hx hb dX12_game_220 rfl (lv_at hl 7 rfl) ?_
                                   refine lv_dup hx hb dX12_game_221 rfl ?_
                                   refine va_get (D := D) hx hb hts inlX12 hown hK hP 55 (jc_55 cI cL ad σ259 τ) rfl 50 (of_decide_eq_true rfl) (hts _ kw_46_13) (fun _ h9 => h9) rfl dX12_game_222 ?_
                                   have m302 : σ259 55 50 = (σ61 55 50) := ((f262 50 (of_decide_eq_true rfl)).trans m180)
                                   refine jtopr m302 ?_
                                   refine lv_iconst (v := 1) hx hb dX12_game_225 (of_decide_eq_true rfl) ?_
                                   have g303 := jrg (rfl : (σ61 55 50).toInt = (σ61 55 50).toInt)
                                   refine lv_iadd hx hb dX12_game_226 ?_
                                   refine lv_topi (fun x304 ex304 => ?_)
                                   exact by
                                    have tx304 : x304.toInt = (σ61 55 50).toInt + 1 := (jadd ex304 rfl jz_1 (by omega) (by omega)).trans (by omega)
                                    refine jput (ty := .int) hx hb hts inlX12 tyX12 tyX12_ok nmX12 hown hK hP hJ hA hS (jc_55 cI cL ad σ259 τ) rfl (k := 50) (of_decide_eq_true rfl) (Nat.le_of_ble_eq_true rfl) (jp_55_50 cI cL ad σ259 τ x304) (hts _ kw_46_13) (fun _ h9 => h9) rfl (by decide +kernel) rfl rfl dX12_game_227 (fun σ305 H locs eσ305 hP hS => ?_)
                                    refine lv_goto (tgt := 43) hx hb dX12_game_230 (of_decide_eq_true rfl) ?_
                                    have z306 : (σ305 55 12).toInt = (σ 55 12).toInt := (congrArg Int32.toInt (show σ305 55 12 = (σ 55 12) from ((jkp 12 eσ305 (of_decide_eq_true rfl)).trans ((f262 12 (of_decide_eq_true rfl)).trans ((congrFun (jnp 55 eσ179 (of_decide_eq_true rfl)) 12).trans ((congrFun (jnp 55 eσ165 (of_decide_eq_true rfl)) 12).trans ((congrFun (jnp 55 eσ153 (of_decide_eq_true rfl)) 12).trans ((f145 12 (of_decide_eq_true rfl)).trans ((f124 12 (of_decide_eq_true rfl)).trans ((f82 12 (of_decide_eq_true rfl)).trans ((jkp 12 eσ51 (of_decide_eq_true rfl)).trans ((f46 12 (of_decide_eq_true rfl)).trans (f25 12 (of_decide_eq_true rfl))))))))))))))
                                    have z307 : (σ305 55 26).toInt = (σ259 55 26).toInt := (congrArg Int32.toInt (show σ305 55 26 = (σ259 55 26) from (jkp 26 eσ305 (of_decide_eq_true rfl))))
                                    have z308 : (σ305 55 25).toInt = (σ259 55 25).toInt := (congrArg Int32.toInt (show σ305 55 25 = (σ259 55 25) from (jkp 25 eσ305 (of_decide_eq_true rfl))))
                                    have z309 : (σ305 55 10).toInt = (σ 55 10).toInt := (congrArg Int32.toInt (show σ305 55 10 = (σ 55 10) from ((jkp 10 eσ305 (of_decide_eq_true rfl)).trans ((f262 10 (of_decide_eq_true rfl)).trans ((congrFun (jnp 55 eσ179 (of_decide_eq_true rfl)) 10).trans ((congrFun (jnp 55 eσ165 (of_decide_eq_true rfl)) 10).trans ((congrFun (jnp 55 eσ153 (of_decide_eq_true rfl)) 10).trans ((f145 10 (of_decide_eq_true rfl)).trans ((f124 10 (of_decide_eq_true rfl)).trans ((f82 10 (of_decide_eq_true rfl)).trans ((jkp 10 eσ51 (of_decide_eq_true rfl)).trans ((f46 10 (of_decide_eq_true rfl)).trans (f25 10 (of_decide_eq_true rfl))))))))))))))
                                    have z310 : (σ305 55 27).toInt = (σ259 55 27).toInt := (congrArg Int32.toInt (show σ305 55 27 = (σ259 55 27) from (jkp 27 eσ305 (of_decide_eq_true rfl))))
                                    have z311 : (σ305 55 50).toInt = (σ61 55 50).toInt + 1 := ((congrArg Int32.toInt (show σ305 55 50 = x304 from (jsp eσ305))).trans tx304)
                                    have p312 : jKept σ305 := jKept.fr ((jnp 75 eσ305 (of_decide_eq_true rfl)).trans ((f261 75 (of_decide_eq_true rfl)).trans ((jnp 75 eσ179 (of_decide_eq_true rfl)).trans ((jnp 75 eσ165 (of_decide_eq_true rfl)).trans ((jnp 75 eσ153 (of_decide_eq_true rfl)).trans (f144 75 (of_decide_eq_true rfl))))))) ((jnp 76 eσ305 (of_decide_eq_true rfl)).trans ((f261 76 (of_decide_eq_true rfl)).trans ((jnp 76 eσ179 (of_decide_eq_true rfl)).trans ((jnp 76 eσ165 (of_decide_eq_true rfl)).trans ((jnp 76 eσ153 (of_decide_eq_true rfl)).trans (f144 76 (of_decide_eq_true rfl))))))) ((jnp 77 eσ305 (of_decide_eq_true rfl)).trans ((f261 77 (of_decide_eq_true rfl)).trans ((jnp 77 eσ179 (of_decide_eq_true rfl)).trans ((jnp 77 eσ165 (of_decide_eq_true rfl)).trans ((jnp 77 eσ153 (of_decide_eq_true rfl)).trans (f144 77 (of_decide_eq_true rfl))))))) p125
                                    have p313 : jqSt σ305 := jqSt.fr ((jnp 78 eσ305 (of_decide_eq_true rfl)).trans ((f261 78 (of_decide_eq_true rfl)).trans ((jnp 78 eσ179 (of_decide_eq_true rfl)).trans ((jnp 78 eσ165 (of_decide_eq_true rfl)).trans ((jnp 78 eσ153 (of_decide_eq_true rfl)).trans (f144 78 (of_decide_eq_true rfl))))))) ((jkp 42 eσ305 (of_decide_eq_true rfl)).trans ((f262 42 (of_decide_eq_true rfl)).trans ((congrFun (jnp 55 eσ179 (of_decide_eq_true rfl)) 42).trans ((congrFun (jnp 55 eσ165 (of_decide_eq_true rfl)) 42).trans ((congrFun (jnp 55 eσ153 (of_decide_eq_true rfl)) 42).trans (f145 42 (of_decide_eq_true rfl))))))) p127
                                    have I314 : jI109 σ305 := (show 0 ≤ (σ305 55 50).toInt ∧ (σ305 55 50).toInt ≤ 12 by omega)
                                    have w315 : ∀ k : Nat, k < 4 → 0 ≤ (σ305 68 k).toInt ∧ (σ305 68 k).toInt ≤ 3 := (jrr_fr (jnp 68 eσ305 (of_decide_eq_true rfl)) w263)
                                    have I316 : jI119 σ305 := w315
                                    exact by exact ihlp52 x281 x170 1 σ305 _ _ ls (by have h92 := jz_1; omega) (by have h92 := jz_1; omega) (by have h92 := jz_1; omega) (by have h92 := jz_1; omega) (by have h92 := jz_1; omega) (by have h92 := jz_1; omega) (by have h92 := jz_1; omega) (fun i hi => ((jnp i eσ305 (imp_282 i hi)).trans ((f261 i (imp_284 i hi)).trans ((jnp i eσ179 (imp_289 i hi)).trans ((jnp i eσ165 (imp_290 i hi)).trans ((jnp i eσ153 (imp_291 i hi)).trans ((f144 i (imp_292 i hi)).trans ((f123 i (imp_293 i hi)).trans (f81 i hi))))))))) (fun i hi => ((jkp i eσ305 (imp_294 i hi)).trans ((f262 i (imp_295 i hi)).trans ((congrFun (jnp 55 eσ179 (of_decide_eq_true rfl)) i).trans ((congrFun (jnp 55 eσ165 (of_decide_eq_true rfl)) i).trans ((congrFun (jnp 55 eσ153 (of_decide_eq_true rfl)) i).trans ((f145 i (imp_296 i hi)).trans ((f124 i (imp_297 i hi)).trans (f82 i hi)))))))))  p312 p313 I314 I316 hP hS (lv_sub hl [0, 3, 1, 7, 8, 9] rfl)
                          · have kc178 := jnle c178 rfl tx177
                            refine lv_iconst (v := 1) hx hb dX12_game_156 (of_decide_eq_true rfl) ?_
                            refine lv_goto (tgt := 161) hx hb dX12_game_157 (of_decide_eq_true rfl) ?_
                            exact by
                             refine jast hx hb hK hP hJ hA hS (jc_84 cI cL ad σ165 τ) (ja_84 cI cL ad σ165 τ _ _) (jin rfl (by omega) (by omega)) dX12_game_161 (fun σ317 H locs eσ317 hP hS => ?_)
                             refine lv_aload_n hx hb dX12_game_162 rfl (lv_at hl 6 rfl) ?_
                             refine lv_iload hx hb dX12_game_163 (lv_at hl 4 rfl) ?_
                             refine lv_aload_n hx hb dX12_game_165 rfl (lv_at hl 6 rfl) ?_
                             refine va_get (D := D) hx hb hts inlX12 hown hK hP 55 (jc_55 cI cL ad σ317 τ) rfl 53 (of_decide_eq_true rfl) (hts _ kw_8_9) (fun _ h9 => h9) rfl dX12_game_166 ?_
                             refine lv_aload_n hx hb dX12_game_169 rfl (lv_at hl 6 rfl) ?_
                             refine va_get (D := D) hx hb hts inlX12 hown hK hP 55 (jc_55 cI cL ad σ317 τ) rfl 50 (of_decide_eq_true rfl) (hts _ kw_46_13) (fun _ h9 => h9) rfl dX12_game_170 ?_
                             have m318 : σ317 55 50 = (σ61 55 50) := ((congrFun (jnp 55 eσ317 (of_decide_eq_true rfl)) 50).trans m166)
                             refine jtopr m318 ?_
                             exact by
                              refine jald hx hb hK hP (jc_84 cI cL ad σ317 τ) (jin rfl (by omega) (by omega)) dX12_game_173 ?_
                              refine lv_topi (fun x319 ex319 => ?_)
                              refine lv_iconst (v := 1) hx hb dX12_game_174 (of_decide_eq_true rfl) ?_
                              refine lv_icmp_ne (tgt := 182) hx hb dX12_game_175 (of_decide_eq_true rfl) (fun c320 => ?_) (fun c320 => ?_)
                              · have kc320 := jne c320 rfl jz_1
                                refine lv_iconst (v := 0) hx hb dX12_game_182 (of_decide_eq_true rfl) ?_
                                have w321 : ∀ k : Nat, k < 4 → 0 ≤ (σ317 68 k).toInt ∧ (σ317 68 k).toInt ≤ 3 := (jrr_fr (jnp 68 eσ317 (of_decide_eq_true rfl)) (jrr_fr (jnp 68 eσ165 (of_decide_eq_true rfl)) w158))
                                have z322 : (σ317 55 6).toInt = (σ 55 6).toInt := (congrArg Int32.toInt (show σ317 55 6 = (σ 55 6) from ((congrFun (jnp 55 eσ317 (of_decide_eq_true rfl)) 6).trans ((congrFun (jnp 55 eσ165 (of_decide_eq_true rfl)) 6).trans ((congrFun (jnp 55 eσ153 (of_decide_eq_true rfl)) 6).trans ((f145 6 (of_decide_eq_true rfl)).trans ((f124 6 (of_decide_eq_true rfl)).trans ((f82 6 (of_decide_eq_true rfl)).trans ((jkp 6 eσ51 (of_decide_eq_true rfl)).trans ((f46 6 (of_decide_eq_true rfl)).trans (f25 6 (of_decide_eq_true rfl))))))))))))
                                have z323 : (σ317 55 27).toInt = (σ61 55 27).toInt := (congrArg Int32.toInt (show σ317 55 27 = (σ61 55 27) from ((congrFun (jnp 55 eσ317 (of_decide_eq_true rfl)) 27).trans ((congrFun (jnp 55 eσ165 (of_decide_eq_true rfl)) 27).trans ((congrFun (jnp 55 eσ153 (of_decide_eq_true rfl)) 27).trans ((f145 27 (of_decide_eq_true rfl)).trans (f124 27 (of_decide_eq_true rfl))))))))
                                have z324 : (σ317 55 25).toInt = (σ61 55 25).toInt := (congrArg Int32.toInt (show σ317 55 25 = (σ61 55 25) from ((congrFun (jnp 55 eσ317 (of_decide_eq_true rfl)) 25).trans ((congrFun (jnp 55 eσ165 (of_decide_eq_true rfl)) 25).trans ((congrFun (jnp 55 eσ153 (of_decide_eq_true rfl)) 25).trans ((f145 25 (of_decide_eq_true rfl)).trans m133))))))
                                have z325 : (σ317 55 26).toInt = (σ61 55 26).toInt := (congrArg Int32.toInt (show σ317 55 26 = (σ61 55 26) from ((congrFun (jnp 55 eσ317 (of_decide_eq_true rfl)) 26).trans ((congrFun (jnp 55 eσ165 (of_decide_eq_true rfl)) 26).trans ((congrFun (jnp 55 eσ153 (of_decide_eq_true rfl)) 26).trans ((f145 26 (of_decide_eq_true rfl)).trans (f124 26 (of_decide_eq_true rfl))))))))
                                have z326 : (σ317 68 0).toInt = (σ61 68 0).toInt := (congrArg Int32.toInt (show σ317 68 0 = (σ61 68 0) from ((congrFun (jnp 68 eσ317 (of_decide_eq_true rfl)) 0).trans ((congrFun (jnp 68 eσ165 (of_decide_eq_true rfl)) 0).trans ((congrFun (jnp 68 eσ153 (of_decide_eq_true rfl)) 0).trans ((congrFun (f144 68 (of_decide_eq_true rfl)) 0).trans (congrFun (f123 68 (of_decide_eq_true rfl)) 0)))))))
                                have z327 : (σ317 68 1).toInt = (σ61 68 1).toInt := (congrArg Int32.toInt (show σ317 68 1 = (σ61 68 1) from ((congrFun (jnp 68 eσ317 (of_decide_eq_true rfl)) 1).trans ((congrFun (jnp 68 eσ165 (of_decide_eq_true rfl)) 1).trans ((congrFun (jnp 68 eσ153 (of_decide_eq_true rfl)) 1).trans ((congrFun (f144 68 (of_decide_eq_true rfl)) 1).trans (congrFun (f123 68 (of_decide_eq_true rfl)) 1)))))))
                                have z328 : (σ317 68 2).toInt = (σ61 68 2).toInt := (congrArg Int32.toInt (show σ317 68 2 = (σ61 68 2) from ((congrFun (jnp 68 eσ317 (of_decide_eq_true rfl)) 2).trans ((congrFun (jnp 68 eσ165 (of_decide_eq_true rfl)) 2).trans ((congrFun (jnp 68 eσ153 (of_decide_eq_true rfl)) 2).trans ((congrFun (f144 68 (of_decide_eq_true rfl)) 2).trans (congrFun (f123 68 (of_decide_eq_true rfl)) 2)))))))
                                have z329 : (σ317 68 3).toInt = (σ61 68 3).toInt := (congrArg Int32.toInt (show σ317 68 3 = (σ61 68 3) from ((congrFun (jnp 68 eσ317 (of_decide_eq_true rfl)) 3).trans ((congrFun (jnp 68 eσ165 (of_decide_eq_true rfl)) 3).trans ((congrFun (jnp 68 eσ153 (of_decide_eq_true rfl)) 3).trans ((congrFun (f144 68 (of_decide_eq_true rfl)) 3).trans (congrFun (f123 68 (of_decide_eq_true rfl)) 3)))))))
                                exact by
                                 refine jcallV (As := [.int r122, .int 0]) (rest := []) ⟨hx, hb, hml, hown, hts⟩ hK hP hA hS hZ (c_X12_goes_0 l D cI cL ad zz hJ σ317 τ r122 (r122.toInt) rfl w321 (by omega) (by omega) (by omega) (by omega) (by omega)) cw_RX12_296 (jc_55 cI cL ad σ317 τ) rfl ⟨Nat.le_of_ble_eq_true rfl, Nat.le_of_ble_eq_true rfl⟩ rfl rfl rfl hl.1 rfl (Nat.le_of_ble_eq_true rfl) dX12_game_183 ⟨Nat.zero_le _, Nat.zero_le _⟩ (fun r331 σ330 τ330 H locs h330 hP hS => ?_)
                                 obtain ⟨rfl, f332, f333, w334, w335, w336, w337, h330⟩ := h330
                                 obtain ⟨k339, k340, k341, h330⟩ := h330
                                 have h342 := h330
                                 obtain ⟨q348, k343, k344, k345, k346, k347⟩ := h342
                                 refine lv_istore (lv' := [(9, .int r331), (3, .int x174), (4, .int x170), (8, .int r143), (7, .int x136), (6, .int r122), (5, .int x56), (0, .ref (ad 55)), (1, .int a1), (2, .int a2)]) hx hb dX12_game_186 hl (of_decide_eq_true rfl) rfl (fun ls hl => ?_)
                                 refine lv_iload_n hx hb dX12_game_188 rfl (lv_at hl 1 rfl) ?_
                                 refine lv_ldcw (v := 1103515245) hx hb hown (hts _ kw_46_14) dX12_game_189 ?_
                                 have g349 := jrg (rfl : x174.toInt = x174.toInt)
                                 refine lv_imul hx hb dX12_game_192 ?_
                                 refine lv_topi (fun x350 ex350 => ?_)
                                 have gx350 := jrg (rfl : x350.toInt = x350.toInt)
                                 refine lv_sipush (v := 12345) hx hb dX12_game_193 (of_decide_eq_true rfl) ?_
                                 have g351 := jrg (rfl : x350.toInt = x350.toInt)
                                 refine lv_iadd hx hb dX12_game_196 ?_
                                 refine lv_topi (fun x352 ex352 => ?_)
                                 have gx352 := jrg (rfl : x352.toInt = x352.toInt)
                                 refine lv_istore_n (lv' := [(3, .int x352), (9, .int r331), (4, .int x170), (8, .int r143), (7, .int x136), (6, .int r122), (5, .int x56), (0, .ref (ad 55)), (1, .int a1), (2, .int a2)]) hx hb dX12_game_197 rfl hl (of_decide_eq_true rfl) rfl (fun ls hl => ?_)
                                 refine lv_iload_n hx hb dX12_game_198 rfl (lv_at hl 0 rfl) ?_
                                 refine lv_bipush (v := 8) hx hb dX12_game_199 (of_decide_eq_true rfl) ?_
                                 refine lv_iushr hx hb dX12_game_201 rfl ?_
                                 refine lv_topi (fun x353 ex353 => ?_)
                                 have gx353 := jrg (rfl : x353.toInt = x353.toInt)
                                 have g354 : 0 ≤ x353.toInt ∧ x353.toInt ≤ 16777215 := jushr8 ex353
                                 refine lv_sipush (v := 1000) hx hb dX12_game_202 (of_decide_eq_true rfl) ?_
                                 refine lv_irem hx hb dX12_game_205 (of_decide_eq_true rfl) ?_
                                 refine lv_topi (fun x355 ex355 => ?_)
                                 exact by
                                  have tx355 : x355.toInt = (x353.toInt % 1000) := jrem ex355 rfl jz_1000 (by omega)
                                  refine lv_aload_n hx hb dX12_game_206 rfl (lv_at hl 7 rfl) ?_
                                  refine va_get (D := D) hx hb hts inlX12 hown hK hP 55 (jc_55 cI cL ad σ330 τ) rfl 13 (of_decide_eq_true rfl) (hts _ kw_15_14) (fun _ h9 => h9) rfl dX12_game_207 ?_
                                  have m356 : σ330 55 13 = (σ 55 13) := ((f333 13 (of_decide_eq_true rfl)).trans ((congrFun (jnp 55 eσ317 (of_decide_eq_true rfl)) 13).trans ((congrFun (jnp 55 eσ165 (of_decide_eq_true rfl)) 13).trans ((congrFun (jnp 55 eσ153 (of_decide_eq_true rfl)) 13).trans ((f145 13 (of_decide_eq_true rfl)).trans ((f124 13 (of_decide_eq_true rfl)).trans ((f82 13 (of_decide_eq_true rfl)).trans ((jkp 13 eσ51 (of_decide_eq_true rfl)).trans ((f46 13 (of_decide_eq_true rfl)).trans (f25 13 (of_decide_eq_true rfl)))))))))))
                                  refine jtopr m356 ?_
                                  refine lv_icmp_ge (tgt := 217) hx hb dX12_game_210 (of_decide_eq_true rfl) (fun c357 => ?_) (fun c357 => ?_)
                                  · have kc357 := jle c357 rfl tx355
                                    refine lv_iconst (v := 0) hx hb dX12_game_217 (of_decide_eq_true rfl) ?_
                                    refine lv_istore (lv' := [(5, .int 0), (3, .int x352), (9, .int r331), (4, .int x170), (8, .int r143), (7, .int x136), (6, .int r122), (0, .ref (ad 55)), (1, .int a1), (2, .int a2)]) hx hb dX12_game_218 hl (of_decide_eq_true rfl) rfl (fun ls hl => ?_)
                                    refine lv_aload_n hx hb dX12_game_220 rfl (lv_at hl 7 rfl) ?_
                                    refine lv_dup hx hb dX12_game_221 rfl ?_
                                    refine va_get (D := D) hx hb hts inlX12 hown hK hP 55 (jc_55 cI cL ad σ330 τ) rfl 50 (of_decide_eq_true rfl) (hts _ kw_46_13) (fun _ h9 => h9) rfl dX12_game_222 ?_
                                    have m358 : σ330 55 50 = (σ61 55 50) := ((f333 50 (of_decide_eq_true rfl)).trans m318)
                                    refine jtopr m358 ?_
                                    refine lv_iconst (v := 1) hx hb dX12_game_225 (of_decide_eq_true rfl) ?_
                                    have g359 := jrg (rfl : (σ61 55 50).toInt = (σ61 55 50).toInt)
                                    refine lv_iadd hx hb dX12_game_226 ?_
                                    refine lv_topi (fun x360 ex360 => ?_)
                                    exact by
                                     have tx360 : x360.toInt = (σ61 55 50).toInt + 1 := (jadd ex360 rfl jz_1 (by omega) (by omega)).trans (by omega)
                                     refine jput (ty := .int) hx hb hts inlX12 tyX12 tyX12_ok nmX12 hown hK hP hJ hA hS (jc_55 cI cL ad σ330 τ) rfl (k := 50) (of_decide_eq_true rfl) (Nat.le_of_ble_eq_true rfl) (jp_55_50 cI cL ad σ330 τ x360) (hts _ kw_46_13) (fun _ h9 => h9) rfl (by decide +kernel) rfl rfl dX12_game_227 (fun σ361 H locs eσ361 hP hS => ?_)
                                     refine lv_goto (tgt := 43) hx hb dX12_game_230 (of_decide_eq_true rfl) ?_
                                     have z362 : (σ361 55 12).toInt = (σ 55 12).toInt := (congrArg Int32.toInt (show σ361 55 12 = (σ 55 12) from ((jkp 12 eσ361 (of_decide_eq_true rfl)).trans ((f333 12 (of_decide_eq_true rfl)).trans ((congrFun (jnp 55 eσ317 (of_decide_eq_true rfl)) 12).trans ((congrFun (jnp 55 eσ165 (of_decide_eq_true rfl)) 12).trans ((congrFun (jnp 55 eσ153 (of_decide_eq_true rfl)) 12).trans ((f145 12 (of_decide_eq_true rfl)).trans ((f124 12 (of_decide_eq_true rfl)).trans ((f82 12 (of_decide_eq_true rfl)).trans ((jkp 12 eσ51 (of_decide_eq_true rfl)).trans ((f46 12 (of_decide_eq_true rfl)).trans (f25 12 (of_decide_eq_true rfl))))))))))))))
                                     have z363 : (σ361 55 26).toInt = (σ330 55 26).toInt := (congrArg Int32.toInt (show σ361 55 26 = (σ330 55 26) from (jkp 26 eσ361 (of_decide_eq_true rfl))))
                                     have z364 : (σ361 55 25).toInt = (σ330 55 25).toInt := (congrArg Int32.toInt (show σ361 55 25 = (σ330 55 25) from (jkp 25 eσ361 (of_decide_eq_true rfl))))
                                     have z365 : (σ361 55 10).toInt = (σ 55 10).toInt := (congrArg Int32.toInt (show σ361 55 10 = (σ 55 10) from ((jkp 10 eσ361 (of_decide_eq_true rfl)).trans ((f333 10 (of_decide_eq_true rfl)).trans ((congrFun (jnp 55 eσ317 (of_decide_eq_true rfl)) 10).trans ((congrFun (jnp 55 eσ165 (of_decide_eq_true rfl)) 10).trans ((congrFun (jnp 55 eσ153 (of_decide_eq_true rfl)) 10).trans ((f145 10 (of_decide_eq_true rfl)).trans ((f124 10 (of_decide_eq_true rfl)).trans ((f82 10 (of_decide_eq_true rfl)).trans ((jkp 10 eσ51 (of_decide_eq_true rfl)).trans ((f46 10 (of_decide_eq_true rfl)).trans (f25 10 (of_decide_eq_true rfl))))))))))))))
                                     have z366 : (σ361 55 27).toInt = (σ330 55 27).toInt := (congrArg Int32.toInt (show σ361 55 27 = (σ330 55 27) from (jkp 27 eσ361 (of_decide_eq_true rfl))))
                                     have z367 : (σ361 55 50).toInt = (σ61 55 50).toInt + 1 := ((congrArg Int32.toInt (show σ361 55 50 = x360 from (jsp eσ361))).trans tx360)
                                     have p368 : jKept σ361 := jKept.fr ((jnp 75 eσ361 (of_decide_eq_true rfl)).trans ((f332 75 (of_decide_eq_true rfl)).trans ((jnp 75 eσ317 (of_decide_eq_true rfl)).trans ((jnp 75 eσ165 (of_decide_eq_true rfl)).trans ((jnp 75 eσ153 (of_decide_eq_true rfl)).trans (f144 75 (of_decide_eq_true rfl))))))) ((jnp 76 eσ361 (of_decide_eq_true rfl)).trans ((f332 76 (of_decide_eq_true rfl)).trans ((jnp 76 eσ317 (of_decide_eq_true rfl)).trans ((jnp 76 eσ165 (of_decide_eq_true rfl)).trans ((jnp 76 eσ153 (of_decide_eq_true rfl)).trans (f144 76 (of_decide_eq_true rfl))))))) ((jnp 77 eσ361 (of_decide_eq_true rfl)).trans ((f332 77 (of_decide_eq_true rfl)).trans ((jnp 77 eσ317 (of_decide_eq_true rfl)).trans ((jnp 77 eσ165 (of_decide_eq_true rfl)).trans ((jnp 77 eσ153 (of_decide_eq_true rfl)).trans (f144 77 (of_decide_eq_true rfl))))))) p125
                                     have p369 : jqSt σ361 := jqSt.fr ((jnp 78 eσ361 (of_decide_eq_true rfl)).trans ((f332 78 (of_decide_eq_true rfl)).trans ((jnp 78 eσ317 (of_decide_eq_true rfl)).trans ((jnp 78 eσ165 (of_decide_eq_true rfl)).trans ((jnp 78 eσ153 (of_decide_eq_true rfl)).trans (f144 78 (of_decide_eq_true rfl))))))) ((jkp 42 eσ361 (of_decide_eq_true rfl)).trans ((f333 42 (of_decide_eq_true rfl)).trans ((congrFun (jnp 55 eσ317 (of_decide_eq_true rfl)) 42).trans ((congrFun (jnp 55 eσ165 (of_decide_eq_true rfl)) 42).trans ((congrFun (jnp 55 eσ153 (of_decide_eq_true rfl)) 42).trans (f145 42 (of_decide_eq_true rfl))))))) p127
                                     have I370 : jI109 σ361 := (show 0 ≤ (σ361 55 50).toInt ∧ (σ361 55 50).toInt ≤ 12 by omega)
                                     have w371 : ∀ k : Nat, k < 4 → 0 ≤ (σ361 68 k).toInt ∧ (σ361 68 k).toInt ≤ 3 := (jrr_fr (jnp 68 eσ361 (of_decide_eq_true rfl)) w334)
                                     have I372 : jI119 σ361 := w371
                                     exact by exact ihlp52 x352 x170 0 σ361 _ _ ls (by have h92 := jz_0; omega) (by have h92 := jz_0; omega) (by have h92 := jz_0; omega) (by have h92 := jz_0; omega) (by have h92 := jz_0; omega) (by have h92 := jz_0; omega) (by have h92 := jz_0; omega) (fun i hi => ((jnp i eσ361 (imp_282 i hi)).trans ((f332 i (imp_284 i hi)).trans ((jnp i eσ317 (imp_289 i hi)).trans ((jnp i eσ165 (imp_290 i hi)).trans ((jnp i eσ153 (imp_291 i hi)).trans ((f144 i (imp_292 i hi)).trans ((f123 i (imp_293 i hi)).trans (f81 i hi))))))))) (fun i hi => ((jkp i eσ361 (imp_294 i hi)).trans ((f333 i (imp_295 i hi)).trans ((congrFun (jnp 55 eσ317 (of_decide_eq_true rfl)) i).trans ((congrFun (jnp 55 eσ165 (of_decide_eq_true rfl)) i).trans ((congrFun (jnp 55 eσ153 (of_decide_eq_true rfl)) i).trans ((f145 i (imp_296 i hi)).trans ((f124 i (imp_297 i hi)).trans (f82 i hi)))))))))  p368 p369 I370 I372 hP hS (lv_sub hl [0, 3, 1, 7, 8, 9] rfl)
                                  · have kc357 := jnle c357 rfl tx355
                                    refine lv_iconst (v := 1) hx hb dX12_game_213 (of_decide_eq_true rfl) ?_
                                    refine lv_goto (tgt := 218) hx hb dX12_game_214 (of_decide_eq_true rfl) ?_
                                    refine lv_istore (lv' := [(5, .int 1), (3, .int x352), (9, .int r331), (4, .int x170), (8, .int r143), (7, .int x136), (6, .int r122), (0, .ref (ad 55)), (1, .int a1), (2, .int a2)]) hx hb dX12_game_218 hl (of_decide_eq_true rfl) rfl (fun ls hl => ?_)
                                    refine lv_aload_n hx hb dX12_game_220 rfl (lv_at hl 7 rfl) ?_
                                    refine lv_dup hx hb dX12_game_221 rfl ?_
                                    refine va_get (D := D) hx hb hts inlX12 hown hK hP 55 (jc_55 cI cL ad σ330 τ) rfl 50 (of_decide_eq_true rfl) (hts _ kw_46_13) (fun _ h9 => h9) rfl dX12_game_222 ?_
                                    have m373 : σ330 55 50 = (σ61 55 50) := ((f333 50 (of_decide_eq_true rfl)).trans m318)
                                    refine jtopr m373 ?_
                                    refine lv_iconst (v := 1) hx hb dX12_game_225 (of_decide_eq_true rfl) ?_
                                    have g374 := jrg (rfl : (σ61 55 50).toInt = (σ61 55 50).toInt)
                                    refine lv_iadd hx hb dX12_game_226 ?_
                                    refine lv_topi (fun x375 ex375 => ?_)
                                    exact by
                                     have tx375 : x375.toInt = (σ61 55 50).toInt + 1 := (jadd ex375 rfl jz_1 (by omega) (by omega)).trans (by omega)
                                     refine jput (ty := .int) hx hb hts inlX12 tyX12 tyX12_ok nmX12 hown hK hP hJ hA hS (jc_55 cI cL ad σ330 τ) rfl (k := 50) (of_decide_eq_true rfl) (Nat.le_of_ble_eq_true rfl) (jp_55_50 cI cL ad σ330 τ x375) (hts _ kw_46_13) (fun _ h9 => h9) rfl (by decide +kernel) rfl rfl dX12_game_227 (fun σ376 H locs eσ376 hP hS => ?_)
                                     refine lv_goto (tgt := 43) hx hb dX12_game_230 (of_decide_eq_true rfl) ?_
                                     have z377 : (σ376 55 12).toInt = (σ 55 12).toInt := (congrArg Int32.toInt (show σ376 55 12 = (σ 55 12) from ((jkp 12 eσ376 (of_decide_eq_true rfl)).trans ((f333 12 (of_decide_eq_true rfl)).trans ((congrFun (jnp 55 eσ317 (of_decide_eq_true rfl)) 12).trans ((congrFun (jnp 55 eσ165 (of_decide_eq_true rfl)) 12).trans ((congrFun (jnp 55 eσ153 (of_decide_eq_true rfl)) 12).trans ((f145 12 (of_decide_eq_true rfl)).trans ((f124 12 (of_decide_eq_true rfl)).trans ((f82 12 (of_decide_eq_true rfl)).trans ((jkp 12 eσ51 (of_decide_eq_true rfl)).trans ((f46 12 (of_decide_eq_true rfl)).trans (f25 12 (of_decide_eq_true rfl))))))))))))))
                                     have z378 : (σ376 55 26).toInt = (σ330 55 26).toInt := (congrArg Int32.toInt (show σ376 55 26 = (σ330 55 26) from (jkp 26 eσ376 (of_decide_eq_true rfl))))
                                     have z379 : (σ376 55 25).toInt = (σ330 55 25).toInt := (congrArg Int32.toInt (show σ376 55 25 = (σ330 55 25) from (jkp 25 eσ376 (of_decide_eq_true rfl))))
                                     have z380 : (σ376 55 10).toInt = (σ 55 10).toInt := (congrArg Int32.toInt (show σ376 55 10 = (σ 55 10) from ((jkp 10 eσ376 (of_decide_eq_true rfl)).trans ((f333 10 (of_decide_eq_true rfl)).trans ((congrFun (jnp 55 eσ317 (of_decide_eq_true rfl)) 10).trans ((congrFun (jnp 55 eσ165 (of_decide_eq_true rfl)) 10).trans ((congrFun (jnp 55 eσ153 (of_decide_eq_true rfl)) 10).trans ((f145 10 (of_decide_eq_true rfl)).trans ((f124 10 (of_decide_eq_true rfl)).trans ((f82 10 (of_decide_eq_true rfl)).trans ((jkp 10 eσ51 (of_decide_eq_true rfl)).trans ((f46 10 (of_decide_eq_true rfl)).trans (f25 10 (of_decide_eq_true rfl))))))))))))))
                                     have z381 : (σ376 55 27).toInt = (σ330 55 27).toInt := (congrArg Int32.toInt (show σ376 55 27 = (σ330 55 27) from (jkp 27 eσ376 (of_decide_eq_true rfl))))
                                     have z382 : (σ376 55 50).toInt = (σ61 55 50).toInt + 1 := ((congrArg Int32.toInt (show σ376 55 50 = x375 from (jsp eσ376))).trans tx375)
                                     have p383 : jKept σ376 := jKept.fr ((jnp 75 eσ376 (of_decide_eq_true rfl)).trans ((f332 75 (of_decide_eq_true rfl)).trans ((jnp 75 eσ317 (of_decide_eq_true rfl)).trans ((jnp 75 eσ165 (of_decide_eq_true rfl)).trans ((jnp 75 eσ153 (of_decide_eq_true rfl)).trans (f144 75 (of_decide_eq_true rfl))))))) ((jnp 76 eσ376 (of_decide_eq_true rfl)).trans ((f332 76 (of_decide_eq_true rfl)).trans ((jnp 76 eσ317 (of_decide_eq_true rfl)).trans ((jnp 76 eσ165 (of_decide_eq_true rfl)).trans ((jnp 76 eσ153 (of_decide_eq_true rfl)).trans (f144 76 (of_decide_eq_true rfl))))))) ((jnp 77 eσ376 (of_decide_eq_true rfl)).trans ((f332 77 (of_decide_eq_true rfl)).trans ((jnp 77 eσ317 (of_decide_eq_true rfl)).trans ((jnp 77 eσ165 (of_decide_eq_true rfl)).trans ((jnp 77 eσ153 (of_decide_eq_true rfl)).trans (f144 77 (of_decide_eq_true rfl))))))) p125
                                     have p384 : jqSt σ376 := jqSt.fr ((jnp 78 eσ376 (of_decide_eq_true rfl)).trans ((f332 78 (of_decide_eq_true rfl)).trans ((jnp 78 eσ317 (of_decide_eq_true rfl)).trans ((jnp 78 eσ165 (of_decide_eq_true rfl)).trans ((jnp 78 eσ153 (of_decide_eq_true rfl)).trans (f144 78 (of_decide_eq_true rfl))))))) ((jkp 42 eσ376 (of_decide_eq_true rfl)).trans ((f333 42 (of_decide_eq_true rfl)).trans ((congrFun (jnp 55 eσ317 (of_decide_eq_true rfl)) 42).trans ((congrFun (jnp 55 eσ165 (of_decide_eq_true rfl)) 42).trans ((congrFun (jnp 55 eσ153 (of_decide_eq_true rfl)) 42).trans (f145 42 (of_decide_eq_true rfl))))))) p127
                                     have I385 : jI109 σ376 := (show 0 ≤ (σ376 55 50).toInt ∧ (σ376 55 50).toInt ≤ 12 by omega)
                                     have w386 : ∀ k : Nat, k < 4 → 0 ≤ (σ376 68 k).toInt ∧ (σ376 68 k).toInt ≤ 3 := (jrr_fr (jnp 68 eσ376 (of_decide_eq_true rfl)) w334)
                                     have I387 : jI119 σ376 := w386
                                     exact by exact ihlp52 x352 x170 1 σ376 _ _ ls (by have h92 := jz_1; omega) (by have h92 := jz_1; omega) (by have h92 := jz_1; omega) (by have h92 := jz_1; omega) (by have h92 := jz_1; omega) (by have h92 := jz_1; omega) (by have h92 := jz_1; omega) (fun i hi => ((jnp i eσ376 (imp_282 i hi)).trans ((f332 i (imp_284 i hi)).trans ((jnp i eσ317 (imp_289 i hi)).trans ((jnp i eσ165 (imp_290 i hi)).trans ((jnp i eσ153 (imp_291 i hi)).trans ((f144 i (imp_292 i hi)).trans ((f123 i (imp_293 i hi)).trans (f81 i hi))))))))) (fun i hi => ((jkp i eσ376 (imp_294 i hi)).trans ((f333 i (imp_295 i hi)).trans ((congrFun (jnp 55 eσ317 (of_decide_eq_true rfl)) i).trans ((congrFun (jnp 55 eσ165 (of_decide_eq_true rfl)) i).trans ((congrFun (jnp 55 eσ153 (of_decide_eq_true rfl)) i).trans ((f145 i (imp_296 i hi)).trans ((f124 i (imp_297 i hi)).trans (f82 i hi)))))))))  p383 p384 I385 I387 hP hS (lv_sub hl [0, 3, 1, 7, 8, 9] rfl)
                              · have kc320 := jeq c320 rfl jz_1
                                refine lv_iconst (v := 1) hx hb dX12_game_178 (of_decide_eq_true rfl) ?_
                                refine lv_goto (tgt := 183) hx hb dX12_game_179 (of_decide_eq_true rfl) ?_
                                have w388 : ∀ k : Nat, k < 4 → 0 ≤ (σ317 68 k).toInt ∧ (σ317 68 k).toInt ≤ 3 := (jrr_fr (jnp 68 eσ317 (of_decide_eq_true rfl)) (jrr_fr (jnp 68 eσ165 (of_decide_eq_true rfl)) w158))
                                have z389 : (σ317 55 6).toInt = (σ 55 6).toInt := (congrArg Int32.toInt (show σ317 55 6 = (σ 55 6) from ((congrFun (jnp 55 eσ317 (of_decide_eq_true rfl)) 6).trans ((congrFun (jnp 55 eσ165 (of_decide_eq_true rfl)) 6).trans ((congrFun (jnp 55 eσ153 (of_decide_eq_true rfl)) 6).trans ((f145 6 (of_decide_eq_true rfl)).trans ((f124 6 (of_decide_eq_true rfl)).trans ((f82 6 (of_decide_eq_true rfl)).trans ((jkp 6 eσ51 (of_decide_eq_true rfl)).trans ((f46 6 (of_decide_eq_true rfl)).trans (f25 6 (of_decide_eq_true rfl))))))))))))
                                have z390 : (σ317 55 27).toInt = (σ61 55 27).toInt := (congrArg Int32.toInt (show σ317 55 27 = (σ61 55 27) from ((congrFun (jnp 55 eσ317 (of_decide_eq_true rfl)) 27).trans ((congrFun (jnp 55 eσ165 (of_decide_eq_true rfl)) 27).trans ((congrFun (jnp 55 eσ153 (of_decide_eq_true rfl)) 27).trans ((f145 27 (of_decide_eq_true rfl)).trans (f124 27 (of_decide_eq_true rfl))))))))
                                have z391 : (σ317 55 25).toInt = (σ61 55 25).toInt := (congrArg Int32.toInt (show σ317 55 25 = (σ61 55 25) from ((congrFun (jnp 55 eσ317 (of_decide_eq_true rfl)) 25).trans ((congrFun (jnp 55 eσ165 (of_decide_eq_true rfl)) 25).trans ((congrFun (jnp 55 eσ153 (of_decide_eq_true rfl)) 25).trans ((f145 25 (of_decide_eq_true rfl)).trans m133))))))
                                have z392 : (σ317 55 26).toInt = (σ61 55 26).toInt := (congrArg Int32.toInt (show σ317 55 26 = (σ61 55 26) from ((congrFun (jnp 55 eσ317 (of_decide_eq_true rfl)) 26).trans ((congrFun (jnp 55 eσ165 (of_decide_eq_true rfl)) 26).trans ((congrFun (jnp 55 eσ153 (of_decide_eq_true rfl)) 26).trans ((f145 26 (of_decide_eq_true rfl)).trans (f124 26 (of_decide_eq_true rfl))))))))
                                have z393 : (σ317 68 0).toInt = (σ61 68 0).toInt := (congrArg Int32.toInt (show σ317 68 0 = (σ61 68 0) from ((congrFun (jnp 68 eσ317 (of_decide_eq_true rfl)) 0).trans ((congrFun (jnp 68 eσ165 (of_decide_eq_true rfl)) 0).trans ((congrFun (jnp 68 eσ153 (of_decide_eq_true rfl)) 0).trans ((congrFun (f144 68 (of_decide_eq_true rfl)) 0).trans (congrFun (f123 68 (of_decide_eq_true rfl)) 0)))))))
                                have z394 : (σ317 68 1).toInt = (σ61 68 1).toInt := (congrArg Int32.toInt (show σ317 68 1 = (σ61 68 1) from ((congrFun (jnp 68 eσ317 (of_decide_eq_true rfl)) 1).trans ((congrFun (jnp 68 eσ165 (of_decide_eq_true rfl)) 1).trans ((congrFun (jnp 68 eσ153 (of_decide_eq_true rfl)) 1).trans ((congrFun (f144 68 (of_decide_eq_true rfl)) 1).trans (congrFun (f123 68 (of_decide_eq_true rfl)) 1)))))))
                                have z395 : (σ317 68 2).toInt = (σ61 68 2).toInt := (congrArg Int32.toInt (show σ317 68 2 = (σ61 68 2) from ((congrFun (jnp 68 eσ317 (of_decide_eq_true rfl)) 2).trans ((congrFun (jnp 68 eσ165 (of_decide_eq_true rfl)) 2).trans ((congrFun (jnp 68 eσ153 (of_decide_eq_true rfl)) 2).trans ((congrFun (f144 68 (of_decide_eq_true rfl)) 2).trans (congrFun (f123 68 (of_decide_eq_true rfl)) 2)))))))
                                have z396 : (σ317 68 3).toInt = (σ61 68 3).toInt := (congrArg Int32.toInt (show σ317 68 3 = (σ61 68 3) from ((congrFun (jnp 68 eσ317 (of_decide_eq_true rfl)) 3).trans ((congrFun (jnp 68 eσ165 (of_decide_eq_true rfl)) 3).trans ((congrFun (jnp 68 eσ153 (of_decide_eq_true rfl)) 3).trans ((congrFun (f144 68 (of_decide_eq_true rfl)) 3).trans (congrFun (f123 68 (of_decide_eq_true rfl)) 3)))))))
                                exact by
                                 refine jcallV (As := [.int r122, .int 1]) (rest := []) ⟨hx, hb, hml, hown, hts⟩ hK hP hA hS hZ (c_X12_goes_1 l D cI cL ad zz hJ σ317 τ r122 (r122.toInt) rfl w388 (by omega) (by omega) (by omega) (by omega) (by omega)) cw_RX12_296 (jc_55 cI cL ad σ317 τ) rfl ⟨Nat.le_of_ble_eq_true rfl, Nat.le_of_ble_eq_true rfl⟩ rfl rfl rfl hl.1 rfl (Nat.le_of_ble_eq_true rfl) dX12_game_183 ⟨Nat.zero_le _, Nat.zero_le _⟩ (fun r398 σ397 τ397 H locs h397 hP hS => ?_)
                                 obtain ⟨rfl, f399, f400, w401, w402, w403, w404, h397⟩ := h397
                                 obtain ⟨k406, k407, k408, h397⟩ := h397
                                 have h409 := h397
                                 obtain ⟨q415, k410, k411, k412, k413, k414⟩ := h409
                                 refine lv_istore (lv' := [(9, .int r398), (3, .int x174), (4, .int x170), (8, .int r143), (7, .int x136), (6, .int r122), (5, .int x56), (0, .ref (ad 55)), (1, .int a1), (2, .int a2)]) hx hb dX12_game_186 hl (of_decide_eq_true rfl) rfl (fun ls hl => ?_)
                                 refine lv_iload_n hx hb dX12_game_188 rfl (lv_at hl 1 rfl) ?_
                                 refine lv_ldcw (v := 1103515245) hx hb hown (hts _ kw_46_14) dX12_game_189 ?_
                                 have g416 := jrg (rfl : x174.toInt = x174.toInt)
                                 refine lv_imul hx hb dX12_game_192 ?_
                                 refine lv_topi (fun x417 ex417 => ?_)
                                 have gx417 := jrg (rfl : x417.toInt = x417.toInt)
                                 refine lv_sipush (v := 12345) hx hb dX12_game_193 (of_decide_eq_true rfl) ?_
                                 have g418 := jrg (rfl : x417.toInt = x417.toInt)
                                 refine lv_iadd hx hb dX12_game_196 ?_
                                 refine lv_topi (fun x419 ex419 => ?_)
                                 have gx419 := jrg (rfl : x419.toInt = x419.toInt)
                                 refine lv_istore_n (lv' := [(3, .int x419), (9, .int r398), (4, .int x170), (8, .int r143), (7, .int x136), (6, .int r122), (5, .int x56), (0, .ref (ad 55)), (1, .int a1), (2, .int a2)]) hx hb dX12_game_197 rfl hl (of_decide_eq_true rfl) rfl (fun ls hl => ?_)
                                 refine lv_iload_n hx hb dX12_game_198 rfl (lv_at hl 0 rfl) ?_
                                 refine lv_bipush (v := 8) hx hb dX12_game_199 (of_decide_eq_true rfl) ?_
                                 refine lv_iushr hx hb dX12_game_201 rfl ?_
                                 refine lv_topi (fun x420 ex420 => ?_)
                                 have gx420 := jrg (rfl : x420.toInt = x420.toInt)
                                 have g421 : 0 ≤ x420.toInt ∧ x420.toInt ≤ 16777215 := jushr8 ex420
                                 refine lv_sipush (v := 1000) hx hb dX12_game_202 (of_decide_eq_true rfl) ?_
                                 refine lv_irem hx hb dX12_game_205 (of_decide_eq_true rfl) ?_
                                 refine lv_topi (fun x422 ex422 => ?_)
                                 exact by
                                  have tx422 : x422.toInt = (x420.toInt % 1000) := jrem ex422 rfl jz_1000 (by omega)
                                  refine lv_aload_n hx hb dX12_game_206 rfl (lv_at hl 7 rfl) ?_
                                  refine va_get (D := D) hx hb hts inlX12 hown hK hP 55 (jc_55 cI cL ad σ397 τ) rfl 13 (of_decide_eq_true rfl) (hts _ kw_15_14) (fun _ h9 => h9) rfl dX12_game_207 ?_
                                  have m423 : σ397 55 13 = (σ 55 13) := ((f400 13 (of_decide_eq_true rfl)).trans ((congrFun (jnp 55 eσ317 (of_decide_eq_true rfl)) 13).trans ((congrFun (jnp 55 eσ165 (of_decide_eq_true rfl)) 13).trans ((congrFun (jnp 55 eσ153 (of_decide_eq_true rfl)) 13).trans ((f145 13 (of_decide_eq_true rfl)).trans ((f124 13 (of_decide_eq_true rfl)).trans ((f82 13 (of_decide_eq_true rfl)).trans ((jkp 13 eσ51 (of_decide_eq_true rfl)).trans ((f46 13 (of_decide_eq_true rfl)).trans (f25 13 (of_decide_eq_true rfl)))))))))))
                                  refine jtopr m423 ?_
                                  refine lv_icmp_ge (tgt := 217) hx hb dX12_game_210 (of_decide_eq_true rfl) (fun c424 => ?_) (fun c424 => ?_)
                                  · have kc424 := jle c424 rfl tx422
                                    refine lv_iconst (v := 0) hx hb dX12_game_217 (of_decide_eq_true rfl) ?_
                                    refine lv_istore (lv' := [(5, .int 0), (3, .int x419), (9, .int r398), (4, .int x170), (8, .int r143), (7, .int x136), (6, .int r122), (0, .ref (ad 55)), (1, .int a1), (2, .int a2)]) hx hb dX12_game_218 hl (of_decide_eq_true rfl) rfl (fun ls hl => ?_)
                                    refine lv_aload_n hx hb dX12_game_220 rfl (lv_at hl 7 rfl) ?_
                                    refine lv_dup hx hb dX12_game_221 rfl ?_
                                    refine va_get (D := D) hx hb hts inlX12 hown hK hP 55 (jc_55 cI cL ad σ397 τ) rfl 50 (of_decide_eq_true rfl) (hts _ kw_46_13) (fun _ h9 => h9) rfl dX12_game_222 ?_
                                    have m425 : σ397 55 50 = (σ61 55 50) := ((f400 50 (of_decide_eq_true rfl)).trans m318)
                                    refine jtopr m425 ?_
                                    refine lv_iconst (v := 1) hx hb dX12_game_225 (of_decide_eq_true rfl) ?_
                                    have g426 := jrg (rfl : (σ61 55 50).toInt = (σ61 55 50).toInt)
                                    refine lv_iadd hx hb dX12_game_226 ?_
                                    refine lv_topi (fun x427 ex427 => ?_)
                                    exact by
                                     have tx427 : x427.toInt = (σ61 55 50).toInt + 1 := (jadd ex427 rfl jz_1 (by omega) (by omega)).trans (by omega)
                                     refine jput (ty := .int) hx hb hts inlX12 tyX12 tyX12_ok nmX12 hown hK hP hJ hA hS (jc_55 cI cL ad σ397 τ) rfl (k := 50) (of_decide_eq_true rfl) (Nat.le_of_ble_eq_true rfl) (jp_55_50 cI cL ad σ397 τ x427) (hts _ kw_46_13) (fun _ h9 => h9) rfl (by decide +kernel) rfl rfl dX12_game_227 (fun σ428 H locs eσ428 hP hS => ?_)
                                     refine lv_goto (tgt := 43) hx hb dX12_game_230 (of_decide_eq_true rfl) ?_
                                     have z429 : (σ428 55 12).toInt = (σ 55 12).toInt := (congrArg Int32.toInt (show σ428 55 12 = (σ 55 12) from ((jkp 12 eσ428 (of_decide_eq_true rfl)).trans ((f400 12 (of_decide_eq_true rfl)).trans ((congrFun (jnp 55 eσ317 (of_decide_eq_true rfl)) 12).trans ((congrFun (jnp 55 eσ165 (of_decide_eq_true rfl)) 12).trans ((congrFun (jnp 55 eσ153 (of_decide_eq_true rfl)) 12).trans ((f145 12 (of_decide_eq_true rfl)).trans ((f124 12 (of_decide_eq_true rfl)).trans ((f82 12 (of_decide_eq_true rfl)).trans ((jkp 12 eσ51 (of_decide_eq_true rfl)).trans ((f46 12 (of_decide_eq_true rfl)).trans (f25 12 (of_decide_eq_true rfl))))))))))))))
                                     have z430 : (σ428 55 26).toInt = (σ397 55 26).toInt := (congrArg Int32.toInt (show σ428 55 26 = (σ397 55 26) from (jkp 26 eσ428 (of_decide_eq_true rfl))))
                                     have z431 : (σ428 55 25).toInt = (σ397 55 25).toInt := (congrArg Int32.toInt (show σ428 55 25 = (σ397 55 25) from (jkp 25 eσ428 (of_decide_eq_true rfl))))
                                     have z432 : (σ428 55 10).toInt = (σ 55 10).toInt := (congrArg Int32.toInt (show σ428 55 10 = (σ 55 10) from ((jkp 10 eσ428 (of_decide_eq_true rfl)).trans ((f400 10 (of_decide_eq_true rfl)).trans ((congrFun (jnp 55 eσ317 (of_decide_eq_true rfl)) 10).trans ((congrFun (jnp 55 eσ165 (of_decide_eq_true rfl)) 10).trans ((congrFun (jnp 55 eσ153 (of_decide_eq_true rfl)) 10).trans ((f145 10 (of_decide_eq_true rfl)).trans ((f124 10 (of_decide_eq_true rfl)).trans ((f82 10 (of_decide_eq_true rfl)).trans ((jkp 10 eσ51 (of_decide_eq_true rfl)).trans ((f46 10 (of_decide_eq_true rfl)).trans (f25 10 (of_decide_eq_true rfl))))))))))))))
                                     have z433 : (σ428 55 27).toInt = (σ397 55 27).toInt := (congrArg Int32.toInt (show σ428 55 27 = (σ397 55 27) from (jkp 27 eσ428 (of_decide_eq_true rfl))))
                                     have z434 : (σ428 55 50).toInt = (σ61 55 50).toInt + 1 := ((congrArg Int32.toInt (show σ428 55 50 = x427 from (jsp eσ428))).trans tx427)
                                     have p435 : jKept σ428 := jKept.fr ((jnp 75 eσ428 (of_decide_eq_true rfl)).trans ((f399 75 (of_decide_eq_true rfl)).trans ((jnp 75 eσ317 (of_decide_eq_true rfl)).trans ((jnp 75 eσ165 (of_decide_eq_true rfl)).trans ((jnp 75 eσ153 (of_decide_eq_true rfl)).trans (f144 75 (of_decide_eq_true rfl))))))) ((jnp 76 eσ428 (of_decide_eq_true rfl)).trans ((f399 76 (of_decide_eq_true rfl)).trans ((jnp 76 eσ317 (of_decide_eq_true rfl)).trans ((jnp 76 eσ165 (of_decide_eq_true rfl)).trans ((jnp 76 eσ153 (of_decide_eq_true rfl)).trans (f144 76 (of_decide_eq_true rfl))))))) ((jnp 77 eσ428 (of_decide_eq_true rfl)).trans ((f399 77 (of_decide_eq_true rfl)).trans ((jnp 77 eσ317 (of_decide_eq_true rfl)).trans ((jnp 77 eσ165 (of_decide_eq_true rfl)).trans ((jnp 77 eσ153 (of_decide_eq_true rfl)).trans (f144 77 (of_decide_eq_true rfl))))))) p125
                                     have p436 : jqSt σ428 := jqSt.fr ((jnp 78 eσ428 (of_decide_eq_true rfl)).trans ((f399 78 (of_decide_eq_true rfl)).trans ((jnp 78 eσ317 (of_decide_eq_true rfl)).trans ((jnp 78 eσ165 (of_decide_eq_true rfl)).trans ((jnp 78 eσ153 (of_decide_eq_true rfl)).trans (f144 78 (of_decide_eq_true rfl))))))) ((jkp 42 eσ428 (of_decide_eq_true rfl)).trans ((f400 42 (of_decide_eq_true rfl)).trans ((congrFun (jnp 55 eσ317 (of_decide_eq_true rfl)) 42).trans ((congrFun (jnp 55 eσ165 (of_decide_eq_true rfl)) 42).trans ((congrFun (jnp 55 eσ153 (of_decide_eq_true rfl)) 42).trans (f145 42 (of_decide_eq_true rfl))))))) p127
                                     have I437 : jI109 σ428 := (show 0 ≤ (σ428 55 50).toInt ∧ (σ428 55 50).toInt ≤ 12 by omega)
                                     have w438 : ∀ k : Nat, k < 4 → 0 ≤ (σ428 68 k).toInt ∧ (σ428 68 k).toInt ≤ 3 := (jrr_fr (jnp 68 eσ428 (of_decide_eq_true rfl)) w401)
                                     have I439 : jI119 σ428 := w438
                                     exact by exact ihlp52 x419 x170 0 σ428 _ _ ls (by have h92 := jz_0; omega) (by have h92 := jz_0; omega) (by have h92 := jz_0; omega) (by have h92 := jz_0; omega) (by have h92 := jz_0; omega) (by have h92 := jz_0; omega) (by have h92 := jz_0; omega) (fun i hi => ((jnp i eσ428 (imp_282 i hi)).trans ((f399 i (imp_284 i hi)).trans ((jnp i eσ317 (imp_289 i hi)).trans ((jnp i eσ165 (imp_290 i hi)).trans ((jnp i eσ153 (imp_291 i hi)).trans ((f144 i (imp_292 i hi)).trans ((f123 i (imp_293 i hi)).trans (f81 i hi))))))))) (fun i hi => ((jkp i eσ428 (imp_294 i hi)).trans ((f400 i (imp_295 i hi)).trans ((congrFun (jnp 55 eσ317 (of_decide_eq_true rfl)) i).trans ((congrFun (jnp 55 eσ165 (of_decide_eq_true rfl)) i).trans ((congrFun (jnp 55 eσ153 (of_decide_eq_true rfl)) i).trans ((f145 i (imp_296 i hi)).trans ((f124 i (imp_297 i hi)).trans (f82 i hi)))))))))  p435 p436 I437 I439 hP hS (lv_sub hl [0, 3, 1, 7, 8, 9] rfl)
                                  · have kc424 := jnle c424 rfl tx422
                                    refine lv_iconst (v := 1) hx hb dX12_game_213 (of_decide_eq_true rfl) ?_
                                    refine lv_goto (tgt := 218) hx hb dX12_game_214 (of_decide_eq_true rfl) ?_
                                    refine lv_istore (lv' := [(5, .int 1), (3, .int x419), (9, .int r398), (4, .int x170), (8, .int r143), (7, .int x136), (6, .int r122), (0, .ref (ad 55)), (1, .int a1), (2, .int a2)]) hx hb dX12_game_218 hl (of_decide_eq_true rfl) rfl (fun ls hl => ?_)
                                    refine lv_aload_n hx hb dX12_game_220 rfl (lv_at hl 7 rfl) ?_
                                    refine lv_dup hx hb dX12_game_221 rfl ?_
                                    refine va_get (D := D) hx hb hts inlX12 hown hK hP 55 (jc_55 cI cL ad σ397 τ) rfl 50 (of_decide_eq_true rfl) (hts _ kw_46_13) (fun _ h9 => h9) rfl dX12_game_222 ?_
                                    have m440 : σ397 55 50 = (σ61 55 50) := ((f400 50 (of_decide_eq_true rfl)).trans m318)
                                    refine jtopr m440 ?_
                                    refine lv_iconst (v := 1) hx hb dX12_game_225 (of_decide_eq_true rfl) ?_
                                    have g441 := jrg (rfl : (σ61 55 50).toInt = (σ61 55 50).toInt)
                                    refine lv_iadd hx hb dX12_game_226 ?_
                                    refine lv_topi (fun x442 ex442 => ?_)
                                    exact by
                                     have tx442 : x442.toInt = (σ61 55 50).toInt + 1 := (jadd ex442 rfl jz_1 (by omega) (by omega)).trans (by omega)
                                     refine jput (ty := .int) hx hb hts inlX12 tyX12 tyX12_ok nmX12 hown hK hP hJ hA hS (jc_55 cI cL ad σ397 τ) rfl (k := 50) (of_decide_eq_true rfl) (Nat.le_of_ble_eq_true rfl) (jp_55_50 cI cL ad σ397 τ x442) (hts _ kw_46_13) (fun _ h9 => h9) rfl (by decide +kernel) rfl rfl dX12_game_227 (fun σ443 H locs eσ443 hP hS => ?_)
                                     refine lv_goto (tgt := 43) hx hb dX12_game_230 (of_decide_eq_true rfl) ?_
                                     have z444 : (σ443 55 12).toInt = (σ 55 12).toInt := (congrArg Int32.toInt (show σ443 55 12 = (σ 55 12) from ((jkp 12 eσ443 (of_decide_eq_true rfl)).trans ((f400 12 (of_decide_eq_true rfl)).trans ((congrFun (jnp 55 eσ317 (of_decide_eq_true rfl)) 12).trans ((congrFun (jnp 55 eσ165 (of_decide_eq_true rfl)) 12).trans ((congrFun (jnp 55 eσ153 (of_decide_eq_true rfl)) 12).trans ((f145 12 (of_decide_eq_true rfl)).trans ((f124 12 (of_decide_eq_true rfl)).trans ((f82 12 (of_decide_eq_true rfl)).trans ((jkp 12 eσ51 (of_decide_eq_true rfl)).trans ((f46 12 (of_decide_eq_true rfl)).trans (f25 12 (of_decide_eq_true rfl))))))))))))))
                                     have z445 : (σ443 55 26).toInt = (σ397 55 26).toInt := (congrArg Int32.toInt (show σ443 55 26 = (σ397 55 26) from (jkp 26 eσ443 (of_decide_eq_true rfl))))
                                     have z446 : (σ443 55 25).toInt = (σ397 55 25).toInt := (congrArg Int32.toInt (show σ443 55 25 = (σ397 55 25) from (jkp 25 eσ443 (of_decide_eq_true rfl))))
                                     have z447 : (σ443 55 10).toInt = (σ 55 10).toInt := (congrArg Int32.toInt (show σ443 55 10 = (σ 55 10) from ((jkp 10 eσ443 (of_decide_eq_true rfl)).trans ((f400 10 (of_decide_eq_true rfl)).trans ((congrFun (jnp 55 eσ317 (of_decide_eq_true rfl)) 10).trans ((congrFun (jnp 55 eσ165 (of_decide_eq_true rfl)) 10).trans ((congrFun (jnp 55 eσ153 (of_decide_eq_true rfl)) 10).trans ((f145 10 (of_decide_eq_true rfl)).trans ((f124 10 (of_decide_eq_true rfl)).trans ((f82 10 (of_decide_eq_true rfl)).trans ((jkp 10 eσ51 (of_decide_eq_true rfl)).trans ((f46 10 (of_decide_eq_true rfl)).trans (f25 10 (of_decide_eq_true rfl))))))))))))))
                                     have z448 : (σ443 55 27).toInt = (σ397 55 27).toInt := (congrArg Int32.toInt (show σ443 55 27 = (σ397 55 27) from (jkp 27 eσ443 (of_decide_eq_true rfl))))
                                     have z449 : (σ443 55 50).toInt = (σ61 55 50).toInt + 1 := ((congrArg Int32.toInt (show σ443 55 50 = x442 from (jsp eσ443))).trans tx442)
                                     have p450 : jKept σ443 := jKept.fr ((jnp 75 eσ443 (of_decide_eq_true rfl)).trans ((f399 75 (of_decide_eq_true rfl)).trans ((jnp 75 eσ317 (of_decide_eq_true rfl)).trans ((jnp 75 eσ165 (of_decide_eq_true rfl)).trans ((jnp 75 eσ153 (of_decide_eq_true rfl)).trans (f144 75 (of_decide_eq_true rfl))))))) ((jnp 76 eσ443 (of_decide_eq_true rfl)).trans ((f399 76 (of_decide_eq_true rfl)).trans ((jnp 76 eσ317 (of_decide_eq_true rfl)).trans ((jnp 76 eσ165 (of_decide_eq_true rfl)).trans ((jnp 76 eσ153 (of_decide_eq_true rfl)).trans (f144 76 (of_decide_eq_true rfl))))))) ((jnp 77 eσ443 (of_decide_eq_true rfl)).trans ((f399 77 (of_decide_eq_true rfl)).trans ((jnp 77 eσ317 (of_decide_eq_true rfl)).trans ((jnp 77 eσ165 (of_decide_eq_true rfl)).trans ((jnp 77 eσ153 (of_decide_eq_true rfl)).trans (f144 77 (of_decide_eq_true rfl))))))) p125
                                     have p451 : jqSt σ443 := jqSt.fr ((jnp 78 eσ443 (of_decide_eq_true rfl)).trans ((f399 78 (of_decide_eq_true rfl)).trans ((jnp 78 eσ317 (of_decide_eq_true rfl)).trans ((jnp 78 eσ165 (of_decide_eq_true rfl)).trans ((jnp 78 eσ153 (of_decide_eq_true rfl)).trans (f144 78 (of_decide_eq_true rfl))))))) ((jkp 42 eσ443 (of_decide_eq_true rfl)).trans ((f400 42 (of_decide_eq_true rfl)).trans ((congrFun (jnp 55 eσ317 (of_decide_eq_true rfl)) 42).trans ((congrFun (jnp 55 eσ165 (of_decide_eq_true rfl)) 42).trans ((congrFun (jnp 55 eσ153 (of_decide_eq_true rfl)) 42).trans (f145 42 (of_decide_eq_true rfl))))))) p127
                                     have I452 : jI109 σ443 := (show 0 ≤ (σ443 55 50).toInt ∧ (σ443 55 50).toInt ≤ 12 by omega)
                                     have w453 : ∀ k : Nat, k < 4 → 0 ≤ (σ443 68 k).toInt ∧ (σ443 68 k).toInt ≤ 3 := (jrr_fr (jnp 68 eσ443 (of_decide_eq_true rfl)) w401)
                                     have I454 : jI119 σ443 := w453
                                     exact by exact ihlp52 x419 x170 1 σ443 _ _ ls (by have h92 := jz_1; omega) (by have h92 := jz_1; omega) (by have h92 := jz_1; omega) (by have h92 := jz_1; omega) (by have h92 := jz_1; omega) (by have h92 := jz_1; omega) (by have h92 := jz_1; omega) (fun i hi => ((jnp i eσ443 (imp_282 i hi)).trans ((f399 i (imp_284 i hi)).trans ((jnp i eσ317 (imp_289 i hi)).trans ((jnp i eσ165 (imp_290 i hi)).trans ((jnp i eσ153 (imp_291 i hi)).trans ((f144 i (imp_292 i hi)).trans ((f123 i (imp_293 i hi)).trans (f81 i hi))))))))) (fun i hi => ((jkp i eσ443 (imp_294 i hi)).trans ((f400 i (imp_295 i hi)).trans ((congrFun (jnp 55 eσ317 (of_decide_eq_true rfl)) i).trans ((congrFun (jnp 55 eσ165 (of_decide_eq_true rfl)) i).trans ((congrFun (jnp 55 eσ153 (of_decide_eq_true rfl)) i).trans ((f145 i (imp_296 i hi)).trans ((f124 i (imp_297 i hi)).trans (f82 i hi)))))))))  p450 p451 I452 I454 hP hS (lv_sub hl [0, 3, 1, 7, 8, 9] rfl)
       exact by exact lp52 1000000 a2 0 0 σ51 _ _ ls (by have h90 := t2; have h91 := jz_0; have h92 := jz_0; omega) (by have h90 := t2; have h91 := jz_0; have h92 := jz_0; omega) (by have h90 := t2; have h91 := jz_0; have h92 := jz_0; omega) (by have h90 := t2; have h91 := jz_0; have h92 := jz_0; omega) (by have h90 := t2; have h91 := jz_0; have h92 := jz_0; omega) (by have h90 := t2; have h91 := jz_0; have h92 := jz_0; omega) (by have h90 := t2; have h91 := jz_0; have h92 := jz_0; omega) (fun _ _ => rfl) (fun _ _ => rfl)  p72 p73 I63 I65 hP hS hl
    · have kc20 := jnle c20 rfl jz_8
      refine lv_bipush (v := (-4)) hx hb dX12_game_19 (of_decide_eq_true rfl) ?_
      exact by exact hret (-4) σ τ _ _ _ _ rfl ⟨rfl, (fun _ _ => rfl), (fun _ _ => rfl), hI109, hI119, hs_jKept, hs_jTR, hs_jqSt, (by omega), (by omega), trivial⟩ hP hS dX12_game_21
  · obtain ⟨q456, k455⟩ := h17
    have q456 := q456.symm
    subst q456
    refine lv_if_ne (tgt := 10) hx hb dX12_game_5 (of_decide_eq_true rfl) (fun c => absurd (of_decide_eq_true rfl) c) (fun _ => ?_)
    refine lv_iconst (v := (-1)) hx hb dX12_game_8 (of_decide_eq_true rfl) ?_
    exact by exact hret (-1) σ τ _ _ _ _ rfl ⟨rfl, (fun _ _ => rfl), (fun _ _ => rfl), hI109, hI119, hs_jKept, hs_jTR, hs_jqSt, (by omega), (by omega), trivial⟩ hP hS dX12_game_9
set_option maxHeartbeats 4000000 in
set_option maxRecDepth 100000 in
theorem c_X12_led (l : Launch) (D : va_G) (cI cL : ClassId) (ad zz : Nat → Nat) (hJ : jD ad) (σ : Nat → Nat → Int32) (τ : Nat → Nat → Int64) (a1 : Int32) (A1 : Int) (t1 : a1.toInt = A1) (a2 : Int32) (A2 : Int) (t2 : a2.toInt = A2) (hI109 : jI109 σ) : jM l yX12_led cX12_led 3 (some .int) ({ frames := 1, cells := 0, slots := 0, locals := 25 }) D cI cL ad zz [.ref (ad 55), .int a1, .int a2] σ τ (fun r σ' τ' => (σ = σ' ∧ τ = τ') ∧ True) := by
  refine jM.of hJ (by decide +kernel) (nt := .int) rfl (Nat.le_of_ble_eq_true rfl) ?_
  intro p e s m args below meth c Q ls hC hret hl hP
  obtain ⟨hx, hb, hr, hml, hown, hts, hK, -, hlocks, hZ⟩ := hC
  have hown : s.vm.findClass RX12 = some m.cls := hown
  have hS : va_S (jA ad) s.heap s.heap [] := va_S.rf
  have hA : ∀ q, jA ad q → jA ad q := fun _ h => h
  have hl : lv_has ls 3 [(0, .ref (ad 55)), (1, .int a1), (2, .int a2)] := hl
  have g1 := jrg t1
  have g2 := jrg t2
  have i1 : 0 ≤ (σ 55 50).toInt ∧ (σ 55 50).toInt ≤ 12 := hI109
  refine lv_iload_n hx hb dX12_led_0 rfl (lv_at hl 1 rfl) ?_
  refine lv_iconst (v := (-1)) hx hb dX12_led_1 (of_decide_eq_true rfl) ?_
  refine lv_icmp_ne (tgt := 18) hx hb dX12_led_2 (of_decide_eq_true rfl) (fun c2 => ?_) (fun c2 => ?_)
  · have kc2 := jne c2 t1 jz_m1
    refine lv_iload_n hx hb dX12_led_18 rfl (lv_at hl 1 rfl) ?_
    refine lv_i2l (v := a1.toInt64) hx hb dX12_led_19 rfl ?_
    refine lv_lconst (v := 0) hx hb dX12_led_20 (of_decide_eq_true rfl) ?_
    refine lv_aload_n hx hb dX12_led_21 rfl (lv_at hl 0 rfl) ?_
    refine va_get (D := D) hx hb hts inlX12 hown hK hP 55 (jc_55 cI cL ad σ τ) rfl 50 (of_decide_eq_true rfl) (hts _ kw_46_13) (fun _ h9 => h9) rfl dX12_led_22 ?_
    refine lv_iconst (v := 1) hx hb dX12_led_25 (of_decide_eq_true rfl) ?_
    have g3 := jrg (rfl : (σ 55 50).toInt = (σ 55 50).toInt)
    refine lv_isub hx hb dX12_led_26 ?_
    refine lv_topi (fun x4 ex4 => ?_)
    exact by
     have tx4 : x4.toInt = (σ 55 50).toInt - 1 := (jsub ex4 rfl jz_1 (by omega) (by omega)).trans (by omega)
     refine lv_i2l (v := x4.toInt64) hx hb dX12_led_27 rfl ?_
     refine jcallS (As := [.long a1.toInt64, .long 0, .long x4.toInt64]) (rest := []) ⟨hx, hb, hml, hown, hts⟩ hK hP hA hS hZ (c_X12_within l D cI cL ad zz hJ σ τ a1.toInt64 (A1) (jtoL t1) 0 (0) jzl_0 x4.toInt64 ((σ 55 50).toInt - 1) (jtoL tx4)) cw_RX12_136 ⟨Nat.le_of_ble_eq_true rfl, Nat.le_of_ble_eq_true rfl⟩ rfl rfl rfl hl.1 rfl (Nat.le_of_ble_eq_true rfl) dX12_led_28 ⟨Nat.zero_le _, Nat.zero_le _⟩ (fun r6 σ5 τ5 H locs h5 hP hS => ?_)
     obtain ⟨⟨rfl, rfl⟩, h5⟩ := h5
     rcases h5 with h7 | h8
     · obtain ⟨q10, k9⟩ := h7
       have q10 := q10.symm
       subst q10
       refine lv_if_ne (tgt := 36) hx hb dX12_led_31 (of_decide_eq_true rfl) (fun _ => ?_) (fun c => absurd c (of_decide_eq_true rfl))
       refine lv_iload_n hx hb dX12_led_36 rfl (lv_at hl 2 rfl) ?_
       by_cases c11 : a2 = 0
       · have kc11 := jeq c11 t2 jz_0
         refine jtopr c11 ?_
         refine lv_tableIn (off := 27) (tgt := 64) hx hb dX12_led_37 (of_decide_eq_true rfl) (of_decide_eq_true rfl) (of_decide_eq_true rfl) (of_decide_eq_true rfl) ?_
         refine lv_aload_n hx hb dX12_led_64 rfl (lv_at hl 0 rfl) ?_
         refine va_get (D := D) hx hb hts inlX12 hown hK hP 55 (jc_55 cI cL ad σ τ) rfl 51 (of_decide_eq_true rfl) (hts _ kw_8_7) (fun _ h9 => h9) rfl dX12_led_65 ?_
         refine lv_iload_n hx hb dX12_led_68 rfl (lv_at hl 1 rfl) ?_
         exact by
          refine jald hx hb hK hP (jc_82 cI cL ad σ τ) (jin t1 (by omega) (by omega)) dX12_led_69 ?_
          refine lv_topi (fun x12 ex12 => ?_)
          exact hret x12 σ τ _ _ _ _ rfl ⟨⟨rfl, rfl⟩, trivial⟩ hP hS dX12_led_70
       have kc11 := jne c11 t2 jz_0
       by_cases c13 : a2 = 1
       · have kc13 := jeq c13 t2 jz_1
         refine jtopr c13 ?_
         refine lv_tableIn (off := 34) (tgt := 71) hx hb dX12_led_37 (of_decide_eq_true rfl) (of_decide_eq_true rfl) (of_decide_eq_true rfl) (of_decide_eq_true rfl) ?_
         refine lv_aload_n hx hb dX12_led_71 rfl (lv_at hl 0 rfl) ?_
         refine va_get (D := D) hx hb hts inlX12 hown hK hP 55 (jc_55 cI cL ad σ τ) rfl 52 (of_decide_eq_true rfl) (hts _ kw_8_8) (fun _ h9 => h9) rfl dX12_led_72 ?_
         refine lv_iload_n hx hb dX12_led_75 rfl (lv_at hl 1 rfl) ?_
         exact by
          refine jald hx hb hK hP (jc_83 cI cL ad σ τ) (jin t1 (by omega) (by omega)) dX12_led_76 ?_
          refine lv_topi (fun x14 ex14 => ?_)
          exact hret x14 σ τ _ _ _ _ rfl ⟨⟨rfl, rfl⟩, trivial⟩ hP hS dX12_led_77
       have kc13 := jne c13 t2 jz_1
       by_cases c15 : a2 = 2
       · have kc15 := jeq c15 t2 jz_2
         refine jtopr c15 ?_
         refine lv_tableIn (off := 41) (tgt := 78) hx hb dX12_led_37 (of_decide_eq_true rfl) (of_decide_eq_true rfl) (of_decide_eq_true rfl) (of_decide_eq_true rfl) ?_
         refine lv_aload_n hx hb dX12_led_78 rfl (lv_at hl 0 rfl) ?_
         refine va_get (D := D) hx hb hts inlX12 hown hK hP 55 (jc_55 cI cL ad σ τ) rfl 53 (of_decide_eq_true rfl) (hts _ kw_8_9) (fun _ h9 => h9) rfl dX12_led_79 ?_
         refine lv_iload_n hx hb dX12_led_82 rfl (lv_at hl 1 rfl) ?_
         exact by
          refine jald hx hb hK hP (jc_84 cI cL ad σ τ) (jin t1 (by omega) (by omega)) dX12_led_83 ?_
          refine lv_topi (fun x16 ex16 => ?_)
          exact hret x16 σ τ _ _ _ _ rfl ⟨⟨rfl, rfl⟩, trivial⟩ hP hS dX12_led_84
       have kc15 := jne c15 t2 jz_2
       refine lv_tableOut (tgt := 85) hx hb dX12_led_37 (by rw [t2]; omega) (of_decide_eq_true rfl) ?_
       refine lv_iconst (v := (-1)) hx hb dX12_led_85 (of_decide_eq_true rfl) ?_
       exact hret (-1) σ τ _ _ _ _ rfl ⟨⟨rfl, rfl⟩, trivial⟩ hP hS dX12_led_86
     · obtain ⟨q18, k17⟩ := h8
       have q18 := q18.symm
       exact by
        subst q18
        refine lv_if_ne (tgt := 36) hx hb dX12_led_31 (of_decide_eq_true rfl) (fun c => absurd (of_decide_eq_true rfl) c) (fun _ => ?_)
        refine lv_iconst (v := (-1)) hx hb dX12_led_34 (of_decide_eq_true rfl) ?_
        exact hret (-1) σ τ _ _ _ _ rfl ⟨⟨rfl, rfl⟩, trivial⟩ hP hS dX12_led_35
  · have kc2 := jeq c2 t1 jz_m1
    refine lv_iload_n hx hb dX12_led_5 rfl (lv_at hl 2 rfl) ?_
    refine lv_if_ne (tgt := 16) hx hb dX12_led_6 (of_decide_eq_true rfl) (fun c19 => ?_) (fun c19 => ?_)
    · have kc19 := jne c19 t2 jz_0
      refine lv_iconst (v := (-1)) hx hb dX12_led_16 (of_decide_eq_true rfl) ?_
      exact hret (-1) σ τ _ _ _ _ rfl ⟨⟨rfl, rfl⟩, trivial⟩ hP hS dX12_led_17
    · have kc19 := jeq c19 t2 jz_0
      refine lv_aload_n hx hb dX12_led_9 rfl (lv_at hl 0 rfl) ?_
      refine va_get (D := D) hx hb hts inlX12 hown hK hP 55 (jc_55 cI cL ad σ τ) rfl 50 (of_decide_eq_true rfl) (hts _ kw_46_13) (fun _ h9 => h9) rfl dX12_led_10 ?_
      refine lv_goto (tgt := 17) hx hb dX12_led_13 (of_decide_eq_true rfl) ?_
      exact hret (σ 55 50) σ τ _ _ _ _ rfl ⟨⟨rfl, rfl⟩, trivial⟩ hP hS dX12_led_17
