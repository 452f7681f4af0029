set_option maxHeartbeats 4000000 in
set_option maxRecDepth 100000 in
theorem c_X12_cost (l : Launch) (D : va_G) (cI cL : ClassId) (ad zz : Nat → Nat) (hJ : jD ad) (σ : Nat → Nat → Int32) (τ : Nat → Nat → Int64) (a1 : Int32) (A1 : Int) (t1 : a1.toInt = A1) (hI101 : jI101 σ) (hI102 : jI102 σ) (hI103 : jI103 σ) (hI104 : jI104 σ) (hI105 : jI105 σ) (hI106 : jI106 σ) (hI107 : jI107 σ) (hI119 : jI119 σ) (hs_jKept : jKept σ) (hs_jBook : jBook σ) : jM l yX12_cost cX12_cost 2 (some .int) ({ frames := 104, cells := 0, slots := 0, locals := 5083 }) D cI cL ad zz [.ref (ad 55), .int a1] σ τ (fun r σ' τ' => τ = τ' ∧ (∀ i : Nat, (i < 55 ∨ 55 < i) ∧ (i < 66 ∨ 66 < i) ∧ (i < 68 ∨ 69 < i) ∧ (i < 74 ∨ 78 < i) → σ' i = σ i) ∧ (∀ k : Nat, (k < 18 ∨ 18 < k) ∧ (k < 19 ∨ 19 < k) ∧ (k < 20 ∨ 20 < k) ∧ (k < 21 ∨ 21 < k) ∧ (k < 22 ∨ 22 < k) ∧ (k < 25 ∨ 25 < k) ∧ (k < 26 ∨ 26 < k) ∧ (k < 27 ∨ 27 < k) ∧ (k < 37 ∨ 37 < k) ∧ (k < 42 ∨ 42 < k) → σ' 55 k = σ 55 k) ∧ (jI119 σ') ∧ (jKept σ') ∧ (jBook σ') ∧ True) := by
  refine jM.of hJ (by decide +kernel) (nt := .int) rfl (Nat.le_of_ble_eq_true rfl) ?_
  intro p e s m args below meth c Q ls hC hret hl hP
  obtain ⟨hx, hb, hr, hml, hown, hts, hK, -, hlocks, hZ⟩ := hC
  have hown : s.vm.findClass RX12 = some m.cls := hown
  have hS : va_S (jA ad) s.heap s.heap [] := va_S.rf
  have hA : ∀ q, jA ad q → jA ad q := fun _ h => h
  have hl : lv_has ls 2 [(0, .ref (ad 55)), (1, .int a1)] := hl
  have g1 := jrg t1
  obtain ⟨i1, i2, i3, w4, w5⟩ : (1 ≤ (σ 55 10).toInt ∧ (σ 55 10).toInt ≤ 8) ∧ (1 ≤ (σ 55 12).toInt ∧ (σ 55 12).toInt ≤ 12) ∧ (0 ≤ (σ 55 13).toInt ∧ (σ 55 13).toInt ≤ 999) ∧ (∀ k : Nat, k < 8 → 0 ≤ (σ 62 k).toInt ∧ (σ 62 k).toInt ≤ 3) ∧ (∀ k : Nat, k < 8 → 0 ≤ (σ 67 k).toInt ∧ (σ 67 k).toInt ≤ 3) := id hI104
  obtain ⟨i6, i7, w8⟩ : (0 ≤ (σ 55 47).toInt ∧ (σ 55 47).toInt ≤ 12) ∧ ((σ 55 47).toInt ≤ (σ 55 12).toInt) ∧ (∀ k : Nat, k < 12 → 0 ≤ (σ 80 k).toInt ∧ (σ 80 k).toInt ≤ 3) := id hI107
  refine lv_iload_n hx hb dX12_cost_0 rfl (lv_at hl 1 rfl) ?_
  refine lv_i2l (v := a1.toInt64) hx hb dX12_cost_1 rfl ?_
  refine lv_lconst (v := 0) hx hb dX12_cost_2 (of_decide_eq_true rfl) ?_
  refine lv_aload_n hx hb dX12_cost_3 rfl (lv_at hl 0 rfl) ?_
  refine va_get (D := D) hx hb hts inlX12 hown hK hP 55 (jc_55 cI cL ad σ τ) rfl 47 (of_decide_eq_true rfl) (hts _ kw_15_15) (fun _ h9 => h9) rfl dX12_cost_4 ?_
  refine lv_iconst (v := 1) hx hb dX12_cost_7 (of_decide_eq_true rfl) ?_
  have g9 := jrg (rfl : (σ 55 47).toInt = (σ 55 47).toInt)
  refine lv_isub hx hb dX12_cost_8 ?_
  refine lv_topi (fun x10 ex10 => ?_)
  exact by
   have tx10 : x10.toInt = (σ 55 47).toInt - 1 := (jsub ex10 rfl jz_1 (by omega) (by omega)).trans (by omega)
   refine lv_i2l (v := x10.toInt64) hx hb dX12_cost_9 rfl ?_
   refine jcallS (As := [.long a1.toInt64, .long 0, .long x10.toInt64]) (rest := []) ⟨hx, hb, hml, hown, hts⟩ hK hP hA hS hZ (c_X12_within l D cI cL ad zz hJ σ τ a1.toInt64 (A1) (jtoL t1) 0 (0) jzl_0 x10.toInt64 ((σ 55 47).toInt - 1) (jtoL tx10)) cw_RX12_136 ⟨Nat.le_of_ble_eq_true rfl, Nat.le_of_ble_eq_true rfl⟩ rfl rfl rfl hl.1 rfl (Nat.le_of_ble_eq_true rfl) dX12_cost_10 ⟨Nat.zero_le _, Nat.zero_le _⟩ (fun r12 σ11 τ11 H locs h11 hP hS => ?_)
   obtain ⟨⟨rfl, rfl⟩, h11⟩ := h11
   rcases h11 with h13 | h14
   · obtain ⟨q16, k15⟩ := h13
     have q16 := q16.symm
     subst q16
     refine lv_if_eq (tgt := 27) hx hb dX12_cost_13 (of_decide_eq_true rfl) (fun c => absurd c (of_decide_eq_true rfl)) (fun _ => ?_)
     refine lv_aload_n hx hb dX12_cost_16 rfl (lv_at hl 0 rfl) ?_
     refine va_get (D := D) hx hb hts inlX12 hown hK hP 55 (jc_55 cI cL ad σ τ) rfl 12 (of_decide_eq_true rfl) (hts _ kw_8_16) (fun _ h9 => h9) rfl dX12_cost_17 ?_
     refine lv_iload_n hx hb dX12_cost_20 rfl (lv_at hl 1 rfl) ?_
     have g17 := jrg (rfl : (σ 55 12).toInt = (σ 55 12).toInt)
     refine lv_isub hx hb dX12_cost_21 ?_
     refine lv_topi (fun x18 ex18 => ?_)
     exact by
      have tx18 : x18.toInt = (σ 55 12).toInt - A1 := (jsub ex18 rfl t1 (by omega) (by omega)).trans (by omega)
      refine lv_bipush (v := 8) hx hb dX12_cost_22 (of_decide_eq_true rfl) ?_
      refine lv_icmp_le (tgt := 32) hx hb dX12_cost_24 (of_decide_eq_true rfl) (fun c19 => ?_) (fun c19 => ?_)
      · have kc19 := jle c19 tx18 jz_8
        refine lv_aload_n hx hb dX12_cost_32 rfl (lv_at hl 0 rfl) ?_
        refine lv_iload_n hx hb dX12_cost_33 rfl (lv_at hl 1 rfl) ?_
        refine jcallV (As := [.int a1]) (rest := []) ⟨hx, hb, hml, hown, hts⟩ hK hP hA hS hZ (c_X12_costOf l D cI cL ad zz hJ σ τ a1 (A1) t1 hI101 hI102 hI103 hI104 hI105 hI106 hI107 hI119 hs_jKept hs_jBook (by omega) (by omega) (by omega)) cw_RX12_369 (jc_55 cI cL ad σ τ) rfl ⟨Nat.le_of_ble_eq_true rfl, Nat.le_of_ble_eq_true rfl⟩ rfl rfl rfl hl.1 rfl (Nat.le_of_ble_eq_true rfl) dX12_cost_34 ⟨Nat.zero_le _, Nat.zero_le _⟩ (fun r21 σ20 τ20 H locs h20 hP hS => ?_)
        obtain ⟨rfl, f22, f23, I24, p25, p26, h20⟩ := h20
        exact hret r21 σ20 τ _ _ _ _ rfl ⟨rfl, (fun i hi => (f22 i hi)), (fun i hi => (f23 i hi)), I24, p25, p26, trivial⟩ hP hS dX12_cost_37
      · exact by
         have kc19 := jnle c19 tx18 jz_8
         refine lv_ldc (v := (-2000000000)) hx hb hown (hts _ kw_11_4) dX12_cost_27 ?_
         refine lv_goto (tgt := 37) hx hb dX12_cost_29 (of_decide_eq_true rfl) ?_
         exact hret (-2000000000) σ τ _ _ _ _ rfl ⟨rfl, (fun _ _ => rfl), (fun _ _ => rfl), hI119, hs_jKept, hs_jBook, trivial⟩ hP hS dX12_cost_37
   · obtain ⟨q29, k28⟩ := h14
     have q29 := q29.symm
     subst q29
     refine lv_if_eq (tgt := 27) hx hb dX12_cost_13 (of_decide_eq_true rfl) (fun _ => ?_) (fun c => absurd (of_decide_eq_true rfl) c)
     refine lv_ldc (v := (-2000000000)) hx hb hown (hts _ kw_11_4) dX12_cost_27 ?_
     refine lv_goto (tgt := 37) hx hb dX12_cost_29 (of_decide_eq_true rfl) ?_
     exact hret (-2000000000) σ τ _ _ _ _ rfl ⟨rfl, (fun _ _ => rfl), (fun _ _ => rfl), hI119, hs_jKept, hs_jBook, trivial⟩ hP hS dX12_cost_37
set_option maxHeartbeats 4000000 in
set_option maxRecDepth 100000 in
theorem c_X12_lost (l : Launch) (D : va_G) (cI cL : ClassId) (ad zz : Nat → Nat) (hJ : jD ad) (σ : Nat → Nat → Int32) (τ : Nat → Nat → Int64) (a1 : Int32) (A1 : Int) (t1 : a1.toInt = A1) (hI101 : jI101 σ) (hI102 : jI102 σ) (hI103 : jI103 σ) (hI104 : jI104 σ) (hI105 : jI105 σ) (hI106 : jI106 σ) (hI107 : jI107 σ) (hI119 : jI119 σ) (hs_jKept : jKept σ) (hs_jBook : jBook σ) : jM l yX12_lost cX12_lost 7 (some .int) ({ frames := 104, cells := 0, slots := 0, locals := 5083 }) D cI cL ad zz [.ref (ad 55), .int a1] σ τ (fun r σ' τ' => τ = τ' ∧ (∀ i : Nat, (i < 55 ∨ 55 < i) ∧ (i < 66 ∨ 66 < i) ∧ (i < 68 ∨ 69 < i) ∧ (i < 74 ∨ 78 < i) → σ' i = σ i) ∧ (∀ k : Nat, (k < 18 ∨ 18 < k) ∧ (k < 19 ∨ 19 < k) ∧ (k < 20 ∨ 20 < k) ∧ (k < 21 ∨ 21 < k) ∧ (k < 22 ∨ 22 < k) ∧ (k < 25 ∨ 25 < k) ∧ (k < 26 ∨ 26 < k) ∧ (k < 27 ∨ 27 < k) ∧ (k < 37 ∨ 37 < k) ∧ (k < 42 ∨ 42 < k) → σ' 55 k = σ 55 k) ∧ (jI119 σ') ∧ (jKept σ') ∧ (jBook σ') ∧ True) := by
  refine jM.of hJ (by decide +kernel) (nt := .int) rfl (Nat.le_of_ble_eq_true rfl) ?_
  intro p e s m args below meth c Q ls hC hret hl hP
  obtain ⟨hx, hb, hr, hml, hown, hts, hK, -, hlocks, hZ⟩ := hC
  have hown : s.vm.findClass RX12 = some m.cls := hown
  have hS : va_S (jA ad) s.heap s.heap [] := va_S.rf
  have hA : ∀ q, jA ad q → jA ad q := fun _ h => h
  have hl : lv_has ls 7 [(0, .ref (ad 55)), (1, .int a1)] := hl
  have g1 := jrg t1
  obtain ⟨i1, i2, i3, w4, w5⟩ : (1 ≤ (σ 55 10).toInt ∧ (σ 55 10).toInt ≤ 8) ∧ (1 ≤ (σ 55 12).toInt ∧ (σ 55 12).toInt ≤ 12) ∧ (0 ≤ (σ 55 13).toInt ∧ (σ 55 13).toInt ≤ 999) ∧ (∀ k : Nat, k < 8 → 0 ≤ (σ 62 k).toInt ∧ (σ 62 k).toInt ≤ 3) ∧ (∀ k : Nat, k < 8 → 0 ≤ (σ 67 k).toInt ∧ (σ 67 k).toInt ≤ 3) := id hI104
  obtain ⟨i6, i7, w8⟩ : (0 ≤ (σ 55 47).toInt ∧ (σ 55 47).toInt ≤ 12) ∧ ((σ 55 47).toInt ≤ (σ 55 12).toInt) ∧ (∀ k : Nat, k < 12 → 0 ≤ (σ 80 k).toInt ∧ (σ 80 k).toInt ≤ 3) := id hI107
  refine lv_iload_n hx hb dX12_lost_0 rfl (lv_at hl 1 rfl) ?_
  refine lv_i2l (v := a1.toInt64) hx hb dX12_lost_1 rfl ?_
  refine lv_lconst (v := 0) hx hb dX12_lost_2 (of_decide_eq_true rfl) ?_
  refine lv_ldc2 (v := 2) hx hb hown (hts _ kw_11_3) dX12_lost_3 ?_
  refine jcallS (As := [.long a1.toInt64, .long 0, .long 2]) (rest := []) ⟨hx, hb, hml, hown, hts⟩ hK hP hA hS hZ (c_X12_within l D cI cL ad zz hJ σ τ a1.toInt64 (A1) (jtoL t1) 0 (0) jzl_0 2 (2) jzl_2) cw_RX12_136 ⟨Nat.le_of_ble_eq_true rfl, Nat.le_of_ble_eq_true rfl⟩ rfl rfl rfl hl.1 rfl (Nat.le_of_ble_eq_true rfl) dX12_lost_6 ⟨Nat.zero_le _, Nat.zero_le _⟩ (fun r10 σ9 τ9 H locs h9 hP hS => ?_)
  obtain ⟨⟨rfl, rfl⟩, h9⟩ := h9
  rcases h9 with h11 | h12
  · obtain ⟨q14, k13⟩ := h11
    have q14 := q14.symm
    subst q14
    refine lv_if_eq (tgt := 19) hx hb dX12_lost_9 (of_decide_eq_true rfl) (fun c => absurd c (of_decide_eq_true rfl)) (fun _ => ?_)
    refine lv_aload_n hx hb dX12_lost_12 rfl (lv_at hl 0 rfl) ?_
    refine va_get (D := D) hx hb hts inlX12 hown hK hP 55 (jc_55 cI cL ad σ τ) rfl 47 (of_decide_eq_true rfl) (hts _ kw_15_15) (fun _ h9 => h9) rfl dX12_lost_13 ?_
    refine lv_if_ne (tgt := 21) hx hb dX12_lost_16 (of_decide_eq_true rfl) (fun c15 => ?_) (fun c15 => ?_)
    · have kc15 := jne c15 rfl jz_0
      refine lv_aload_n hx hb dX12_lost_21 rfl (lv_at hl 0 rfl) ?_
      refine va_get (D := D) hx hb hts inlX12 hown hK hP 55 (jc_55 cI cL ad σ τ) rfl 12 (of_decide_eq_true rfl) (hts _ kw_8_16) (fun _ h9 => h9) rfl dX12_lost_22 ?_
      refine lv_bipush (v := 8) hx hb dX12_lost_25 (of_decide_eq_true rfl) ?_
      refine lv_icmp_le (tgt := 33) hx hb dX12_lost_27 (of_decide_eq_true rfl) (fun c16 => ?_) (fun c16 => ?_)
      · have kc16 := jle c16 rfl jz_8
        refine lv_iconst (v := 0) hx hb dX12_lost_33 (of_decide_eq_true rfl) ?_
        refine lv_istore_n (lv' := [(2, .int 0), (0, .ref (ad 55)), (1, .int a1)]) hx hb dX12_lost_34 rfl hl (of_decide_eq_true rfl) rfl (fun ls hl => ?_)
        refine lv_ldc (v := (-2000000000)) hx hb hown (hts _ kw_11_4) dX12_lost_35 ?_
        refine lv_istore_n (lv' := [(3, .int (-2000000000)), (2, .int 0), (0, .ref (ad 55)), (1, .int a1)]) hx hb dX12_lost_37 rfl hl (of_decide_eq_true rfl) rfl (fun ls hl => ?_)
        refine lv_iconst (v := 0) hx hb dX12_lost_38 (of_decide_eq_true rfl) ?_
        refine lv_istore (lv' := [(4, .int 0), (3, .int (-2000000000)), (2, .int 0), (0, .ref (ad 55)), (1, .int a1)]) hx hb dX12_lost_39 hl (of_decide_eq_true rfl) rfl (fun ls hl => ?_)
        refine lv_iconst (v := 0) hx hb dX12_lost_41 (of_decide_eq_true rfl) ?_
        refine lv_istore (lv' := [(5, .int 0), (4, .int 0), (3, .int (-2000000000)), (2, .int 0), (0, .ref (ad 55)), (1, .int a1)]) hx hb dX12_lost_42 hl (of_decide_eq_true rfl) rfl (fun ls hl => ?_)
        have lp17 : ∀ (n18 : Nat) (x19 : Int32) (x20 : Int32) (x21 : Int32) (x22 : Int32) (σ24 : Nat → Nat → Int32) (H : Heap) (locs : List Loc) (ls : Array Slot), ((σ24 55 47).toInt - x22.toInt : Int) < n18 → 0 ≤ x22.toInt → x22.toInt ≤ 12 → x22.toInt ≤ (σ24 55 47).toInt → (∀ i : Nat, (i < 55 ∨ 55 < i) ∧ (i < 66 ∨ 66 < i) ∧ (i < 68 ∨ 69 < i) ∧ (i < 74 ∨ 78 < i) → σ24 i = σ i) → (∀ k : Nat, (k < 18 ∨ 18 < k) ∧ (k < 19 ∨ 19 < k) ∧ (k < 20 ∨ 20 < k) ∧ (k < 21 ∨ 21 < k) ∧ (k < 22 ∨ 22 < k) ∧ (k < 25 ∨ 25 < k) ∧ (k < 26 ∨ 26 < k) ∧ (k < 27 ∨ 27 < k) ∧ (k < 37 ∨ 37 < k) ∧ (k < 42 ∨ 42 < k) → σ24 55 k = σ 55 k) → jKept σ24 → jI119 σ24 → jH D cI cL ad σ24 τ H → va_S (jA ad) s.heap H locs → lv_has ls 7 [(5, .int x22), (4, .int x21), (3, .int x20), (2, .int x19), (0, .ref (ad 55)), (1, .int a1)] → W p l e ({ frames := 104, cells := 0, slots := 0, locals := 5083 }) s m args below meth c H locs 0 0 Q (F0 m 44 ls []) := by
          intro n18
          induction n18 with
          | zero => intro x19 x20 x21 x22 σ24 H locs ls h26 h27 h28 h29; have gx19 := jrg (rfl : x19.toInt = x19.toInt); have gx20 := jrg (rfl : x20.toInt = x20.toInt); have gx21 := jrg (rfl : x21.toInt = x21.toInt); exact absurd h26 (by omega)
          | succ n18 ihlp17 =>
            intro x19 x20 x21 x22 σ24 H locs ls h26 h27 h28 h29 f30 f31 p32 p33 hP hS hl
            exact by
             have gx19 := jrg (rfl : x19.toInt = x19.toInt); have gx20 := jrg (rfl : x20.toInt = x20.toInt); have gx21 := jrg (rfl : x21.toInt = x21.toInt)
             have z34 : (σ24 55 47).toInt = (σ 55 47).toInt := (congrArg Int32.toInt (show σ24 55 47 = (σ 55 47) from (f31 47 (of_decide_eq_true rfl))))
             refine lv_iload hx hb dX12_lost_44 (lv_at hl 0 rfl) ?_
             refine lv_aload_n hx hb dX12_lost_46 rfl (lv_at hl 4 rfl) ?_
             refine va_get (D := D) hx hb hts inlX12 hown hK hP 55 (jc_55 cI cL ad σ24 τ) rfl 47 (of_decide_eq_true rfl) (hts _ kw_15_15) (fun _ h9 => h9) rfl dX12_lost_47 ?_
             have m35 : σ24 55 47 = (σ 55 47) := (f31 47 (of_decide_eq_true rfl))
             refine jtopr m35 ?_
             refine lv_icmp_ge (tgt := 86) hx hb dX12_lost_50 (of_decide_eq_true rfl) (fun c36 => ?_) (fun c36 => ?_)
             · have kc36 := jle c36 rfl rfl
               refine lv_iload_n hx hb dX12_lost_86 rfl (lv_at hl 5 rfl) ?_
               refine lv_if_ne (tgt := 94) hx hb dX12_lost_87 (of_decide_eq_true rfl) (fun c37 => ?_) (fun c37 => ?_)
               · have kc37 := jne c37 t1 jz_0
                 refine lv_iload_n hx hb dX12_lost_94 rfl (lv_at hl 5 rfl) ?_
                 refine lv_iconst (v := 1) hx hb dX12_lost_95 (of_decide_eq_true rfl) ?_
                 refine lv_icmp_ne (tgt := 103) hx hb dX12_lost_96 (of_decide_eq_true rfl) (fun c38 => ?_) (fun c38 => ?_)
                 · have kc38 := jne c38 t1 jz_1
                   refine lv_iload hx hb dX12_lost_103 (lv_at hl 1 rfl) ?_
                   have p39 : jBook σ24 := jBook.fr (f31 47 (of_decide_eq_true rfl)) (f31 10 (of_decide_eq_true rfl)) (f30 81 (of_decide_eq_true rfl)) hs_jBook
                   exact hret x21 σ24 τ _ _ _ _ rfl ⟨rfl, (fun i hi => (f30 i hi)), (fun i hi => (f31 i hi)), p33, p32, p39, trivial⟩ hP hS dX12_lost_105
                 · have kc38 := jeq c38 t1 jz_1
                   refine lv_iload_n hx hb dX12_lost_99 rfl (lv_at hl 2 rfl) ?_
                   refine lv_goto (tgt := 105) hx hb dX12_lost_100 (of_decide_eq_true rfl) ?_
                   have p40 : jBook σ24 := jBook.fr (f31 47 (of_decide_eq_true rfl)) (f31 10 (of_decide_eq_true rfl)) (f30 81 (of_decide_eq_true rfl)) hs_jBook
                   exact hret x20 σ24 τ _ _ _ _ rfl ⟨rfl, (fun i hi => (f30 i hi)), (fun i hi => (f31 i hi)), p33, p32, p40, trivial⟩ hP hS dX12_lost_105
               · have kc37 := jeq c37 t1 jz_0
                 refine lv_iload_n hx hb dX12_lost_90 rfl (lv_at hl 3 rfl) ?_
                 refine lv_goto (tgt := 105) hx hb dX12_lost_91 (of_decide_eq_true rfl) ?_
                 have p41 : jBook σ24 := jBook.fr (f31 47 (of_decide_eq_true rfl)) (f31 10 (of_decide_eq_true rfl)) (f30 81 (of_decide_eq_true rfl)) hs_jBook
                 exact hret x19 σ24 τ _ _ _ _ rfl ⟨rfl, (fun i hi => (f30 i hi)), (fun i hi => (f31 i hi)), p33, p32, p41, trivial⟩ hP hS dX12_lost_105
             · have kc36 := jnle c36 rfl rfl
               refine lv_aload_n hx hb dX12_lost_53 rfl (lv_at hl 4 rfl) ?_
               refine lv_iload hx hb dX12_lost_54 (lv_at hl 0 rfl) ?_
               have I42 : jI101 σ24 := jI101_fr (f31 4 (of_decide_eq_true rfl)) (f31 5 (of_decide_eq_true rfl)) (f30 56 (of_decide_eq_true rfl)) (f30 57 (of_decide_eq_true rfl)) (f30 58 (of_decide_eq_true rfl)) (f30 59 (of_decide_eq_true rfl)) hI101
               have I43 : jI102 σ24 := jI102_fr (f31 6 (of_decide_eq_true rfl)) (f30 60 (of_decide_eq_true rfl)) (f30 61 (of_decide_eq_true rfl)) hI102
               have I44 : jI103 σ24 := jI103_fr (f31 9 (of_decide_eq_true rfl)) hI103
               have I45 : jI104 σ24 := jI104_fr (f31 10 (of_decide_eq_true rfl)) (f31 12 (of_decide_eq_true rfl)) (f31 13 (of_decide_eq_true rfl)) (f30 62 (of_decide_eq_true rfl)) (f30 67 (of_decide_eq_true rfl)) hI104
               have I46 : jI105 σ24 := jI105_fr (f31 15 (of_decide_eq_true rfl)) (f30 65 (of_decide_eq_true rfl)) hI105
               have I47 : jI106 σ24 := jI106_fr (f31 32 (of_decide_eq_true rfl)) (f30 70 (of_decide_eq_true rfl)) (f30 71 (of_decide_eq_true rfl)) (f30 72 (of_decide_eq_true rfl)) hI106
               have I48 : jI107 σ24 := jI107_fr (f31 12 (of_decide_eq_true rfl)) (f31 47 (of_decide_eq_true rfl)) (f30 80 (of_decide_eq_true rfl)) hI107
               have p49 : jBook σ24 := jBook.fr (f31 47 (of_decide_eq_true rfl)) (f31 10 (of_decide_eq_true rfl)) (f30 81 (of_decide_eq_true rfl)) hs_jBook
               have z50 : (σ24 55 12).toInt = (σ 55 12).toInt := (congrArg Int32.toInt (show σ24 55 12 = (σ 55 12) from (f31 12 (of_decide_eq_true rfl))))
               exact by
                refine jcallV (As := [.int x22]) (rest := []) ⟨hx, hb, hml, hown, hts⟩ hK hP hA hS hZ (c_X12_costOf l D cI cL ad zz hJ σ24 τ x22 (x22.toInt) rfl I42 I43 I44 I45 I46 I47 I48 p33 p32 p49 (by omega) (by omega) (by omega)) cw_RX12_369 (jc_55 cI cL ad σ24 τ) rfl ⟨Nat.le_of_ble_eq_true rfl, Nat.le_of_ble_eq_true rfl⟩ rfl rfl rfl hl.1 rfl (Nat.le_of_ble_eq_true rfl) dX12_lost_56 ⟨Nat.zero_le _, Nat.zero_le _⟩ (fun r52 σ51 τ51 H locs h51 hP hS => ?_)
                obtain ⟨rfl, f53, f54, I55, p56, p57, h51⟩ := h51
                refine lv_istore (lv' := [(6, .int r52), (5, .int x22), (4, .int x21), (3, .int x20), (2, .int x19), (0, .ref (ad 55)), (1, .int a1)]) hx hb dX12_lost_59 hl (of_decide_eq_true rfl) rfl (fun ls hl => ?_)
                refine lv_iload hx hb dX12_lost_61 (lv_at hl 2 rfl) ?_
                refine lv_iload hx hb dX12_lost_63 (lv_at hl 0 rfl) ?_
                have g59 := jrg (rfl : x21.toInt = x21.toInt)
                have g60 := jrg (rfl : r52.toInt = r52.toInt)
                refine lv_iadd hx hb dX12_lost_65 ?_
                refine lv_topi (fun x61 ex61 => ?_)
                have gx61 := jrg (rfl : x61.toInt = x61.toInt)
                refine lv_istore (lv' := [(4, .int x61), (6, .int r52), (5, .int x22), (3, .int x20), (2, .int x19), (0, .ref (ad 55)), (1, .int a1)]) hx hb dX12_lost_66 hl (of_decide_eq_true rfl) rfl (fun ls hl => ?_)
                refine lv_iload hx hb dX12_lost_68 (lv_at hl 1 rfl) ?_
                refine lv_iload_n hx hb dX12_lost_70 rfl (lv_at hl 3 rfl) ?_
                refine lv_icmp_le (tgt := 80) hx hb dX12_lost_71 (of_decide_eq_true rfl) (fun c62 => ?_) (fun c62 => ?_)
                · have kc62 := jle c62 rfl rfl
                  obtain ⟨x63, ex63⟩ : ∃ y : Int32, y = x22 + 1 := ⟨_, rfl⟩
                  exact by
                   have tx63 : x63.toInt = x22.toInt + 1 := (jadd ex63 rfl jz_1 (by omega) (by omega)).trans (by omega)
                   refine lv_iinc (v := x63) (lv' := [(5, .int x63), (4, .int x61), (6, .int r52), (3, .int x20), (2, .int x19), (0, .ref (ad 55)), (1, .int a1)]) hx hb dX12_lost_80 hl (k := 2) rfl (by rw [ex63]; rfl) (of_decide_eq_true rfl) rfl (fun ls hl => ?_)
                   refine lv_goto (tgt := 44) hx hb dX12_lost_83 (of_decide_eq_true rfl) ?_
                   have z64 : (σ51 55 47).toInt = (σ 55 47).toInt := (congrArg Int32.toInt (show σ51 55 47 = (σ 55 47) from ((f54 47 (of_decide_eq_true rfl)).trans m35)))
                   exact by exact ihlp17 x19 x20 x61 x63 σ51 _ _ ls (by have h93 := tx63; omega) (by have h93 := tx63; omega) (by have h93 := tx63; omega) (by have h93 := tx63; omega) (fun i hi => ((f53 i hi).trans (f30 i hi))) (fun i hi => ((f54 i hi).trans (f31 i hi)))  p56 I55 hP hS (lv_sub hl [0, 1, 3, 4, 5, 6] rfl)
                · have kc62 := jnle c62 rfl rfl
                  refine lv_iload hx hb dX12_lost_74 (lv_at hl 2 rfl) ?_
                  refine lv_istore_n (lv' := [(2, .int x22), (4, .int x61), (6, .int r52), (5, .int x22), (3, .int x20), (0, .ref (ad 55)), (1, .int a1)]) hx hb dX12_lost_76 rfl hl (of_decide_eq_true rfl) rfl (fun ls hl => ?_)
                  refine lv_iload hx hb dX12_lost_77 (lv_at hl 2 rfl) ?_
                  exact by
                   refine lv_istore_n (lv' := [(3, .int r52), (2, .int x22), (4, .int x61), (6, .int r52), (5, .int x22), (0, .ref (ad 55)), (1, .int a1)]) hx hb dX12_lost_79 rfl hl (of_decide_eq_true rfl) rfl (fun ls hl => ?_)
                   obtain ⟨x65, ex65⟩ : ∃ y : Int32, y = x22 + 1 := ⟨_, rfl⟩
                   have tx65 : x65.toInt = x22.toInt + 1 := (jadd ex65 rfl jz_1 (by omega) (by omega)).trans (by omega)
                   refine lv_iinc (v := x65) (lv' := [(5, .int x65), (3, .int r52), (2, .int x22), (4, .int x61), (6, .int r52), (0, .ref (ad 55)), (1, .int a1)]) hx hb dX12_lost_80 hl (k := 4) rfl (by rw [ex65]; rfl) (of_decide_eq_true rfl) rfl (fun ls hl => ?_)
                   refine lv_goto (tgt := 44) hx hb dX12_lost_83 (of_decide_eq_true rfl) ?_
                   have z66 : (σ51 55 47).toInt = (σ 55 47).toInt := (congrArg Int32.toInt (show σ51 55 47 = (σ 55 47) from ((f54 47 (of_decide_eq_true rfl)).trans m35)))
                   exact by exact ihlp17 x22 r52 x61 x65 σ51 _ _ ls (by have h93 := tx65; omega) (by have h93 := tx65; omega) (by have h93 := tx65; omega) (by have h93 := tx65; omega) (fun i hi => ((f53 i hi).trans (f30 i hi))) (fun i hi => ((f54 i hi).trans (f31 i hi)))  p56 I55 hP hS (lv_sub hl [0, 3, 1, 2, 5, 6] rfl)
        exact by exact lp17 1000000 0 (-2000000000) 0 0 σ _ _ ls (by have h90 := jz_0; have h91 := jz_m2000000000; have h92 := jz_0; have h93 := jz_0; omega) (by have h90 := jz_0; have h91 := jz_m2000000000; have h92 := jz_0; have h93 := jz_0; omega) (by have h90 := jz_0; have h91 := jz_m2000000000; have h92 := jz_0; have h93 := jz_0; omega) (by have h90 := jz_0; have h91 := jz_m2000000000; have h92 := jz_0; have h93 := jz_0; omega) (fun _ _ => rfl) (fun _ _ => rfl)  hs_jKept hI119 hP hS hl
      · have kc16 := jnle c16 rfl jz_8
        exact by
         refine lv_bipush (v := (-4)) hx hb dX12_lost_30 (of_decide_eq_true rfl) ?_
         exact hret (-4) σ τ _ _ _ _ rfl ⟨rfl, (fun _ _ => rfl), (fun _ _ => rfl), hI119, hs_jKept, hs_jBook, trivial⟩ hP hS dX12_lost_32
    · have kc15 := jeq c15 rfl jz_0
      refine lv_iconst (v := (-1)) hx hb dX12_lost_19 (of_decide_eq_true rfl) ?_
      exact hret (-1) σ τ _ _ _ _ rfl ⟨rfl, (fun _ _ => rfl), (fun _ _ => rfl), hI119, hs_jKept, hs_jBook, trivial⟩ hP hS dX12_lost_20
  · obtain ⟨q68, k67⟩ := h12
    have q68 := q68.symm
    subst q68
    refine lv_if_eq (tgt := 19) hx hb dX12_lost_9 (of_decide_eq_true rfl) (fun _ => ?_) (fun c => absurd (of_decide_eq_true rfl) c)
    refine lv_iconst (v := (-1)) hx hb dX12_lost_19 (of_decide_eq_true rfl) ?_
    exact hret (-1) σ τ _ _ _ _ rfl ⟨rfl, (fun _ _ => rfl), (fun _ _ => rfl), hI119, hs_jKept, hs_jBook, trivial⟩ hP hS dX12_lost_20
set_option maxHeartbeats 4000000 in
set_option maxRecDepth 100000 in
theorem c_X12_game (l : Launch) (D : va_G) (cI cL : ClassId) (ad zz : Nat → Nat) (hJ : jD ad) (σ : Nat → Nat → Int32) (τ : Nat → Nat → Int64) (a1 : Int32) (A1 : Int) (t1 : a1.toInt = A1) (a2 : Int32) (A2 : Int) (t2 : a2.toInt = A2) (hI101 : jI101 σ) (hI102 : jI102 σ) (hI103 : jI103 σ) (hI104 : jI104 σ) (hI105 : jI105 σ) (hI106 : jI106 σ) (hI119 : jI119 σ) (hI109 : jI109 σ) (hs_jKept : jKept σ) : jM l yX12_game cX12_game 10 (some .int) ({ frames := 104, cells := 0, slots := 0, locals := 5087 }) D cI cL ad zz [.ref (ad 55), .int a1, .int a2] σ τ (fun r σ' τ' => τ = τ' ∧ (∀ i : Nat, (i < 55 ∨ 55 < i) ∧ (i < 66 ∨ 66 < i) ∧ (i < 68 ∨ 69 < i) ∧ (i < 74 ∨ 78 < i) ∧ (i < 82 ∨ 84 < i) → σ' i = σ i) ∧ (∀ k : Nat, (k < 18 ∨ 18 < k) ∧ (k < 19 ∨ 19 < k) ∧ (k < 20 ∨ 20 < k) ∧ (k < 21 ∨ 21 < k) ∧ (k < 22 ∨ 22 < k) ∧ (k < 25 ∨ 25 < k) ∧ (k < 26 ∨ 26 < k) ∧ (k < 27 ∨ 27 < k) ∧ (k < 37 ∨ 37 < k) ∧ (k < 42 ∨ 42 < k) ∧ (k < 50 ∨ 50 < k) → σ' 55 k = σ 55 k) ∧ (jI109 σ') ∧ (jI119 σ') ∧ (jKept σ') ∧ True) := by
  refine jM.of hJ (by decide +kernel) (nt := .int) rfl (Nat.le_of_ble_eq_true rfl) ?_
  intro p e s m args below meth c Q ls hC hret hl hP
  obtain ⟨hx, hb, hr, hml, hown, hts, hK, -, hlocks, hZ⟩ := hC
  have hown : s.vm.findClass RX12 = some m.cls := hown
  have hS : va_S (jA ad) s.heap s.heap [] := va_S.rf
  have hA : ∀ q, jA ad q → jA ad q := fun _ h => h
  have hl : lv_has ls 10 [(0, .ref (ad 55)), (1, .int a1), (2, .int a2)] := hl
  have g1 := jrg t1
  have g2 := jrg t2
  obtain ⟨i1, w2, w3⟩ : (0 ≤ (σ 55 6).toInt ∧ (σ 55 6).toInt ≤ 4) ∧ (∀ k : Nat, k < 4 → 0 ≤ (σ 60 k).toInt ∧ (σ 60 k).toInt ≤ 50) ∧ (∀ k : Nat, k < 4 → 0 ≤ (σ 61 k).toInt ∧ (σ 61 k).toInt ≤ 20) := id hI102
  obtain ⟨i4, i5, i6, w7, w8⟩ : (1 ≤ (σ 55 10).toInt ∧ (σ 55 10).toInt ≤ 8) ∧ (1 ≤ (σ 55 12).toInt ∧ (σ 55 12).toInt ≤ 12) ∧ (0 ≤ (σ 55 13).toInt ∧ (σ 55 13).toInt ≤ 999) ∧ (∀ k : Nat, k < 8 → 0 ≤ (σ 62 k).toInt ∧ (σ 62 k).toInt ≤ 3) ∧ (∀ k : Nat, k < 8 → 0 ≤ (σ 67 k).toInt ∧ (σ 67 k).toInt ≤ 3) := id hI104
  obtain ⟨i9, w10, w11, w12⟩ : (0 ≤ (σ 55 32).toInt ∧ (σ 55 32).toInt ≤ 20) ∧ (∀ k : Nat, k < 20 → 0 ≤ (σ 70 k).toInt ∧ (σ 70 k).toInt ≤ 6) ∧ (∀ k : Nat, k < 20 → 0 ≤ (σ 71 k).toInt ∧ (σ 71 k).toInt ≤ 8) ∧ (∀ k : Nat, k < 160 → 0 ≤ (σ 72 k).toInt ∧ (σ 72 k).toInt ≤ 3) := id hI106
  have i13 : 0 ≤ (σ 55 50).toInt ∧ (σ 55 50).toInt ≤ 12 := hI109
  refine lv_aload_n hx hb dX12_game_0 rfl (lv_at hl 0 rfl) ?_
  refine lv_iload_n hx hb dX12_game_1 rfl (lv_at hl 1 rfl) ?_
  refine jcallV (As := [.int a1]) (rest := []) ⟨hx, hb, hml, hown, hts⟩ hK hP hA hS hZ (c_X12_isRule l D cI cL ad zz hJ σ τ a1 (A1) t1 hI106) cw_RX12_331 (jc_55 cI cL ad σ τ) rfl ⟨Nat.le_of_ble_eq_true rfl, Nat.le_of_ble_eq_true rfl⟩ rfl rfl rfl hl.1 rfl (Nat.le_of_ble_eq_true rfl) dX12_game_2 ⟨Nat.zero_le _, Nat.zero_le _⟩ (fun r15 σ14 τ14 H locs h14 hP hS => ?_)
  obtain ⟨⟨rfl, rfl⟩, h14⟩ := h14
  rcases h14 with h16 | h17
  · obtain ⟨q19, k18⟩ := h16
    have q19 := q19.symm
    subst q19
    refine lv_if_ne (tgt := 10) hx hb dX12_game_5 (of_decide_eq_true rfl) (fun _ => ?_) (fun c => absurd c (of_decide_eq_true rfl))
    refine lv_aload_n hx hb dX12_game_10 rfl (lv_at hl 0 rfl) ?_
    refine va_get (D := D) hx hb hts inlX12 hown hK hP 55 (jc_55 cI cL ad σ τ) rfl 12 (of_decide_eq_true rfl) (hts _ kw_8_16) (fun _ h9 => h9) rfl dX12_game_11 ?_
    refine lv_bipush (v := 8) hx hb dX12_game_14 (of_decide_eq_true rfl) ?_
    refine lv_icmp_le (tgt := 22) hx hb dX12_game_16 (of_decide_eq_true rfl) (fun c20 => ?_) (fun c20 => ?_)
    · have kc20 := jle c20 rfl jz_8
      refine lv_aload_n hx hb dX12_game_22 rfl (lv_at hl 0 rfl) ?_
      have w21 : ∀ k : Nat, k < 4 → 0 ≤ (σ 68 k).toInt ∧ (σ 68 k).toInt ≤ 3 := hI119
      refine jcallVv (As := []) (rest := []) ⟨hx, hb, hml, hown, hts⟩ hK hP hA hS hZ (c_X12_begin l D cI cL ad zz hJ σ τ hI104 w21) cw_RX12_256 (jc_55 cI cL ad σ τ) rfl ⟨Nat.le_of_ble_eq_true rfl, Nat.le_of_ble_eq_true rfl⟩ rfl rfl rfl hl.1 rfl (Nat.le_of_ble_eq_true rfl) dX12_game_23 ⟨Nat.zero_le _, Nat.zero_le _⟩ (fun σ22 τ22 H locs h22 hP hS => ?_)
      obtain ⟨rfl, f24, f25, I26, w27, h22⟩ := h22
      obtain ⟨i29, i30, i31, i32, i33, w34⟩ : (0 ≤ (σ22 55 25).toInt) ∧ ((σ22 55 25).toInt ≤ (σ22 55 10).toInt) ∧ (0 ≤ (σ22 55 26).toInt) ∧ ((σ22 55 26).toInt ≤ (σ22 55 12).toInt) ∧ ((-1) ≤ (σ22 55 27).toInt ∧ (σ22 55 27).toInt ≤ 3) ∧ (∀ k : Nat, k < 4 → 0 ≤ (σ22 68 k).toInt ∧ (σ22 68 k).toInt ≤ 3) := id I26
      have z35 : (σ22 55 10).toInt = (σ 55 10).toInt := (congrArg Int32.toInt (show σ22 55 10 = (σ 55 10) from (f25 10 (of_decide_eq_true rfl))))
      have z36 : (σ22 55 12).toInt = (σ 55 12).toInt := (congrArg Int32.toInt (show σ22 55 12 = (σ 55 12) from (f25 12 (of_decide_eq_true rfl))))
      obtain ⟨k37, k38, k39, h22⟩ := h22
      refine lv_aload_n hx hb dX12_game_26 rfl (lv_at hl 0 rfl) ?_
      refine jcallVv (As := []) (rest := []) ⟨hx, hb, hml, hown, hts⟩ hK hP hA hS hZ (c_X12_forgets l D cI cL ad zz hJ σ22 τ) cw_RX12_341 (jc_55 cI cL ad σ22 τ) rfl ⟨Nat.le_of_ble_eq_true rfl, Nat.le_of_ble_eq_true rfl⟩ rfl rfl rfl hl.1 rfl (Nat.le_of_ble_eq_true rfl) dX12_game_27 ⟨Nat.zero_le _, Nat.zero_le _⟩ (fun σ40 τ40 H locs h40 hP hS => ?_)
      obtain ⟨rfl, f42, f43, h40⟩ := h40
      refine lv_aload_n hx hb dX12_game_30 rfl (lv_at hl 0 rfl) ?_
      refine lv_iconst (v := 0) hx hb dX12_game_31 (of_decide_eq_true rfl) ?_
      refine jput (ty := .int) hx hb hts inlX12 tyX12 tyX12_ok nmX12 hown hK hP hJ hA hS (jc_55 cI cL ad σ40 τ) rfl (k := 50) (of_decide_eq_true rfl) (Nat.le_of_ble_eq_true rfl) (jp_55_50 cI cL ad σ40 τ 0) (hts _ kw_46_13) (fun _ h9 => h9) rfl (by decide +kernel) rfl rfl dX12_game_32 (fun σ45 H locs eσ45 hP hS => ?_)
      refine lv_iload_n hx hb dX12_game_35 rfl (lv_at hl 2 rfl) ?_
      refine lv_istore_n (lv' := [(3, .int a2), (0, .ref (ad 55)), (1, .int a1), (2, .int a2)]) hx hb dX12_game_36 rfl hl (of_decide_eq_true rfl) rfl (fun ls hl => ?_)
      refine lv_iconst (v := 0) hx hb dX12_game_37 (of_decide_eq_true rfl) ?_
      refine lv_istore (lv' := [(4, .int 0), (3, .int a2), (0, .ref (ad 55)), (1, .int a1), (2, .int a2)]) hx hb dX12_game_38 hl (of_decide_eq_true rfl) rfl (fun ls hl => ?_)
      refine lv_iconst (v := 0) hx hb dX12_game_40 (of_decide_eq_true rfl) ?_
      refine lv_istore (lv' := [(5, .int 0), (4, .int 0), (3, .int a2), (0, .ref (ad 55)), (1, .int a1), (2, .int a2)]) hx hb dX12_game_41 hl (of_decide_eq_true rfl) rfl (fun ls hl => ?_)
      have z56 : (σ45 55 50).toInt = 0 := ((congrArg Int32.toInt (show σ45 55 50 = 0 from (jsp eσ45))).trans jz_0)
      have I57 : jI109 σ45 := (show 0 ≤ (σ45 55 50).toInt ∧ (σ45 55 50).toInt ≤ 12 by omega)
      have w58 : ∀ k : Nat, k < 4 → 0 ≤ (σ45 68 k).toInt ∧ (σ45 68 k).toInt ≤ 3 := (jrr_fr (jnp 68 eσ45 (of_decide_eq_true rfl)) (jrr_fr (f42 68 (of_decide_eq_true rfl)) w34))
      have I59 : jI119 σ45 := w58
      have z60 : (σ45 55 12).toInt = (σ 55 12).toInt := (congrArg Int32.toInt (show σ45 55 12 = (σ 55 12) from ((jkp 12 eσ45 (of_decide_eq_true rfl)).trans ((f43 12 (of_decide_eq_true rfl)).trans (f25 12 (of_decide_eq_true rfl))))))
      have z61 : (σ45 55 26).toInt = (σ22 55 26).toInt := (congrArg Int32.toInt (show σ45 55 26 = (σ22 55 26) from ((jkp 26 eσ45 (of_decide_eq_true rfl)).trans (f43 26 (of_decide_eq_true rfl)))))
      have z62 : (σ45 55 25).toInt = (σ22 55 25).toInt := (congrArg Int32.toInt (show σ45 55 25 = (σ22 55 25) from ((jkp 25 eσ45 (of_decide_eq_true rfl)).trans (f43 25 (of_decide_eq_true rfl)))))
      have z63 : (σ45 55 10).toInt = (σ 55 10).toInt := (congrArg Int32.toInt (show σ45 55 10 = (σ 55 10) from ((jkp 10 eσ45 (of_decide_eq_true rfl)).trans ((f43 10 (of_decide_eq_true rfl)).trans (f25 10 (of_decide_eq_true rfl))))))
      have z64 : (σ45 55 27).toInt = (σ22 55 27).toInt := (congrArg Int32.toInt (show σ45 55 27 = (σ22 55 27) from ((jkp 27 eσ45 (of_decide_eq_true rfl)).trans (f43 27 (of_decide_eq_true rfl)))))
      have p66 : jKept σ45 := jKept.fr ((jnp 75 eσ45 (of_decide_eq_true rfl)).trans ((f42 75 (of_decide_eq_true rfl)).trans (f24 75 (of_decide_eq_true rfl)))) ((jnp 76 eσ45 (of_decide_eq_true rfl)).trans ((f42 76 (of_decide_eq_true rfl)).trans (f24 76 (of_decide_eq_true rfl)))) ((jnp 77 eσ45 (of_decide_eq_true rfl)).trans ((f42 77 (of_decide_eq_true rfl)).trans (f24 77 (of_decide_eq_true rfl)))) hs_jKept
      have lp46 : ∀ (n47 : Nat) (x48 : Int32) (x49 : Int32) (x50 : Int32) (σ55 : Nat → Nat → Int32) (H : Heap) (locs : List Loc) (ls : Array Slot), ((σ55 55 12).toInt - (σ55 55 26).toInt : Int) < n47 → 0 ≤ (σ55 55 25).toInt → (σ55 55 25).toInt ≤ (σ55 55 10).toInt → 0 ≤ (σ55 55 26).toInt → (σ55 55 26).toInt ≤ (σ55 55 12).toInt → (-1) ≤ (σ55 55 27).toInt ∧ (σ55 55 27).toInt ≤ 3 → (σ55 55 50).toInt = (σ55 55 26).toInt → (∀ i : Nat, (i < 55 ∨ 55 < i) ∧ (i < 66 ∨ 66 < i) ∧ (i < 68 ∨ 69 < i) ∧ (i < 74 ∨ 78 < i) ∧ (i < 82 ∨ 84 < i) → σ55 i = σ45 i) → (∀ k : Nat, (k < 18 ∨ 18 < k) ∧ (k < 19 ∨ 19 < k) ∧ (k < 20 ∨ 20 < k) ∧ (k < 21 ∨ 21 < k) ∧ (k < 22 ∨ 22 < k) ∧ (k < 25 ∨ 25 < k) ∧ (k < 26 ∨ 26 < k) ∧ (k < 27 ∨ 27 < k) ∧ (k < 37 ∨ 37 < k) ∧ (k < 50 ∨ 50 < k) → σ55 55 k = σ45 55 k) → jKept σ55 → jI109 σ55 → jI119 σ55 → jH D cI cL ad σ55 τ H → va_S (jA ad) s.heap H locs → lv_has ls 10 [(5, .int x50), (4, .int x49), (3, .int x48), (0, .ref (ad 55)), (1, .int a1), (2, .int a2)] → W p l e ({ frames := 104, cells := 0, slots := 0, locals := 5087 }) s m args below meth c H locs 0 0 Q (F0 m 43 ls []) := by
        intro n47
        induction n47 with
        | zero => intro x48 x49 x50 σ55 H locs ls h67 h68 h69 h70 h71 h72 h73; have gx48 := jrg (rfl : x48.toInt = x48.toInt); have gx49 := jrg (rfl : x49.toInt = x49.toInt); have gx50 := jrg (rfl : x50.toInt = x50.toInt); exact absurd h67 (by omega)
        | succ n47 ihlp46 =>
          intro x48 x49 x50 σ55 H locs ls h67 h68 h69 h70 h71 h72 h73 f74 f75 p76 p77 p78 hP hS hl
          exact by
           have gx48 := jrg (rfl : x48.toInt = x48.toInt); have gx49 := jrg (rfl : x49.toInt = x49.toInt); have gx50 := jrg (rfl : x50.toInt = x50.toInt)
           have i79 : 0 ≤ (σ55 55 50).toInt ∧ (σ55 55 50).toInt ≤ 12 := p77
           have z80 : (σ55 55 12).toInt = (σ 55 12).toInt := (congrArg Int32.toInt (show σ55 55 12 = (σ 55 12) from ((f75 12 (of_decide_eq_true rfl)).trans ((jkp 12 eσ45 (of_decide_eq_true rfl)).trans ((f43 12 (of_decide_eq_true rfl)).trans (f25 12 (of_decide_eq_true rfl)))))))
           have z81 : (σ55 55 10).toInt = (σ 55 10).toInt := (congrArg Int32.toInt (show σ55 55 10 = (σ 55 10) from ((f75 10 (of_decide_eq_true rfl)).trans ((jkp 10 eσ45 (of_decide_eq_true rfl)).trans ((f43 10 (of_decide_eq_true rfl)).trans (f25 10 (of_decide_eq_true rfl)))))))
           refine lv_iload hx hb dX12_game_43 (lv_at hl 0 rfl) ?_
           refine lv_if_ne (tgt := 233) hx hb dX12_game_45 (of_decide_eq_true rfl) (fun c82 => ?_) (fun c82 => ?_)
           · have kc82 := jne c82 rfl jz_0
             refine lv_iload hx hb dX12_game_233 (lv_at hl 1 rfl) ?_
             exact hret x49 σ55 τ _ _ _ _ rfl ⟨rfl, (fun i hi => ((f74 i hi).trans ((jnp i eσ45 (imp_282 i hi)).trans ((f42 i (imp_283 i hi)).trans (f24 i (imp_284 i hi)))))), (fun i hi => ((f75 i (imp_285 i hi)).trans ((jkp i eσ45 (imp_286 i hi)).trans ((f43 i (imp_287 i hi)).trans (f25 i (imp_288 i hi)))))), p77, p78, p76, trivial⟩ hP hS dX12_game_235
           · have kc82 := jeq c82 rfl jz_0
             refine lv_aload_n hx hb dX12_game_48 rfl (lv_at hl 3 rfl) ?_
             have I83 : jI102 σ55 := jI102_fr ((f75 6 (of_decide_eq_true rfl)).trans ((jkp 6 eσ45 (of_decide_eq_true rfl)).trans ((f43 6 (of_decide_eq_true rfl)).trans (f25 6 (of_decide_eq_true rfl))))) ((f74 60 (of_decide_eq_true rfl)).trans ((jnp 60 eσ45 (of_decide_eq_true rfl)).trans ((f42 60 (of_decide_eq_true rfl)).trans (f24 60 (of_decide_eq_true rfl))))) ((f74 61 (of_decide_eq_true rfl)).trans ((jnp 61 eσ45 (of_decide_eq_true rfl)).trans ((f42 61 (of_decide_eq_true rfl)).trans (f24 61 (of_decide_eq_true rfl))))) hI102
             have I84 : jI104 σ55 := jI104_fr ((f75 10 (of_decide_eq_true rfl)).trans ((jkp 10 eσ45 (of_decide_eq_true rfl)).trans ((f43 10 (of_decide_eq_true rfl)).trans (f25 10 (of_decide_eq_true rfl))))) ((f75 12 (of_decide_eq_true rfl)).trans ((jkp 12 eσ45 (of_decide_eq_true rfl)).trans ((f43 12 (of_decide_eq_true rfl)).trans (f25 12 (of_decide_eq_true rfl))))) ((f75 13 (of_decide_eq_true rfl)).trans ((jkp 13 eσ45 (of_decide_eq_true rfl)).trans ((f43 13 (of_decide_eq_true rfl)).trans (f25 13 (of_decide_eq_true rfl))))) ((f74 62 (of_decide_eq_true rfl)).trans ((jnp 62 eσ45 (of_decide_eq_true rfl)).trans ((f42 62 (of_decide_eq_true rfl)).trans (f24 62 (of_decide_eq_true rfl))))) ((f74 67 (of_decide_eq_true rfl)).trans ((jnp 67 eσ45 (of_decide_eq_true rfl)).trans ((f42 67 (of_decide_eq_true rfl)).trans (f24 67 (of_decide_eq_true rfl))))) hI104
             have w85 : ∀ k : Nat, k < 4 → 0 ≤ (σ55 68 k).toInt ∧ (σ55 68 k).toInt ≤ 3 := p78
             exact by
              have I86 : jI120 σ55 := ⟨(by omega), (by omega), (by omega), (by omega), (by omega), w85⟩
              refine jcallV (As := []) (rest := []) ⟨hx, hb, hml, hown, hts⟩ hK hP hA hS hZ (c_X12_isEnded l D cI cL ad zz hJ σ55 τ I83 I84 I86) cw_RX12_307 (jc_55 cI cL ad σ55 τ) rfl ⟨Nat.le_of_ble_eq_true rfl, Nat.le_of_ble_eq_true rfl⟩ rfl rfl rfl hl.1 rfl (Nat.le_of_ble_eq_true rfl) dX12_game_49 ⟨Nat.zero_le _, Nat.zero_le _⟩ (fun r88 σ87 τ87 H locs h87 hP hS => ?_)
              obtain ⟨⟨rfl, rfl⟩, h87⟩ := h87
              rcases h87 with h89 | h90
              · obtain ⟨q92, k91⟩ := h89
                have q92 := q92.symm
                subst q92
                refine lv_if_ne (tgt := 233) hx hb dX12_game_52 (of_decide_eq_true rfl) (fun _ => ?_) (fun c => absurd c (of_decide_eq_true rfl))
                refine lv_iload hx hb dX12_game_233 (lv_at hl 1 rfl) ?_
                exact hret x49 σ55 τ _ _ _ _ rfl ⟨rfl, (fun i hi => ((f74 i hi).trans ((jnp i eσ45 (imp_282 i hi)).trans ((f42 i (imp_283 i hi)).trans (f24 i (imp_284 i hi)))))), (fun i hi => ((f75 i (imp_285 i hi)).trans ((jkp i eσ45 (imp_286 i hi)).trans ((f43 i (imp_287 i hi)).trans (f25 i (imp_288 i hi)))))), p77, p78, p76, trivial⟩ hP hS dX12_game_235
              · obtain ⟨q96, k93, k94, k95⟩ := h90
                have q96 := q96.symm
                subst q96
                obtain ⟨B97, k98, k99, w100⟩ := k95
                have z101 : (σ55 55 6).toInt = (σ 55 6).toInt := (congrArg Int32.toInt (show σ55 55 6 = (σ 55 6) from ((f75 6 (of_decide_eq_true rfl)).trans ((jkp 6 eσ45 (of_decide_eq_true rfl)).trans ((f43 6 (of_decide_eq_true rfl)).trans (f25 6 (of_decide_eq_true rfl)))))))
                refine lv_if_ne (tgt := 233) hx hb dX12_game_52 (of_decide_eq_true rfl) (fun c => absurd (of_decide_eq_true rfl) c) (fun _ => ?_)
                refine lv_aload_n hx hb dX12_game_55 rfl (lv_at hl 3 rfl) ?_
                refine lv_iload_n hx hb dX12_game_56 rfl (lv_at hl 4 rfl) ?_
                have p102 : jmb σ55 B97 = 1 := (jmb_fr rfl rfl rfl rfl rfl B97).trans w100
                have I103 : jI101 σ55 := jI101_fr ((f75 4 (of_decide_eq_true rfl)).trans ((jkp 4 eσ45 (of_decide_eq_true rfl)).trans ((f43 4 (of_decide_eq_true rfl)).trans (f25 4 (of_decide_eq_true rfl))))) ((f75 5 (of_decide_eq_true rfl)).trans ((jkp 5 eσ45 (of_decide_eq_true rfl)).trans ((f43 5 (of_decide_eq_true rfl)).trans (f25 5 (of_decide_eq_true rfl))))) ((f74 56 (of_decide_eq_true rfl)).trans ((jnp 56 eσ45 (of_decide_eq_true rfl)).trans ((f42 56 (of_decide_eq_true rfl)).trans (f24 56 (of_decide_eq_true rfl))))) ((f74 57 (of_decide_eq_true rfl)).trans ((jnp 57 eσ45 (of_decide_eq_true rfl)).trans ((f42 57 (of_decide_eq_true rfl)).trans (f24 57 (of_decide_eq_true rfl))))) ((f74 58 (of_decide_eq_true rfl)).trans ((jnp 58 eσ45 (of_decide_eq_true rfl)).trans ((f42 58 (of_decide_eq_true rfl)).trans (f24 58 (of_decide_eq_true rfl))))) ((f74 59 (of_decide_eq_true rfl)).trans ((jnp 59 eσ45 (of_decide_eq_true rfl)).trans ((f42 59 (of_decide_eq_true rfl)).trans (f24 59 (of_decide_eq_true rfl))))) hI101
                have I104 : jI103 σ55 := jI103_fr ((f75 9 (of_decide_eq_true rfl)).trans ((jkp 9 eσ45 (of_decide_eq_true rfl)).trans ((f43 9 (of_decide_eq_true rfl)).trans (f25 9 (of_decide_eq_true rfl))))) hI103
                have I105 : jI105 σ55 := jI105_fr ((f75 15 (of_decide_eq_true rfl)).trans ((jkp 15 eσ45 (of_decide_eq_true rfl)).trans ((f43 15 (of_decide_eq_true rfl)).trans (f25 15 (of_decide_eq_true rfl))))) ((f74 65 (of_decide_eq_true rfl)).trans ((jnp 65 eσ45 (of_decide_eq_true rfl)).trans ((f42 65 (of_decide_eq_true rfl)).trans (f24 65 (of_decide_eq_true rfl))))) hI105
                have I106 : jI106 σ55 := jI106_fr ((f75 32 (of_decide_eq_true rfl)).trans ((jkp 32 eσ45 (of_decide_eq_true rfl)).trans ((f43 32 (of_decide_eq_true rfl)).trans (f25 32 (of_decide_eq_true rfl))))) ((f74 70 (of_decide_eq_true rfl)).trans ((jnp 70 eσ45 (of_decide_eq_true rfl)).trans ((f42 70 (of_decide_eq_true rfl)).trans (f24 70 (of_decide_eq_true rfl))))) ((f74 71 (of_decide_eq_true rfl)).trans ((jnp 71 eσ45 (of_decide_eq_true rfl)).trans ((f42 71 (of_decide_eq_true rfl)).trans (f24 71 (of_decide_eq_true rfl))))) ((f74 72 (of_decide_eq_true rfl)).trans ((jnp 72 eσ45 (of_decide_eq_true rfl)).trans ((f42 72 (of_decide_eq_true rfl)).trans (f24 72 (of_decide_eq_true rfl))))) hI106
                have z107 : (σ55 70 a1.toNatClampNeg).toInt = (σ 70 a1.toNatClampNeg).toInt := by rw [f74 70 (of_decide_eq_true rfl), jnp 70 eσ45 (of_decide_eq_true rfl), f42 70 (of_decide_eq_true rfl), f24 70 (of_decide_eq_true rfl)]
                exact by
                 refine jcallV (As := [.int a1]) (rest := []) ⟨hx, hb, hml, hown, hts⟩ hK hP hA hS hZ (c_X12_putsOn l D cI cL ad zz hJ σ55 τ B97 p102 a1 (A1) t1 I103 I83 I104 I84 I105 I106 I86 p76 (by omega) (by omega) (by omega) (by omega) (by omega)) cw_RX12_321 (jc_55 cI cL ad σ55 τ) rfl ⟨Nat.le_of_ble_eq_true rfl, Nat.le_of_ble_eq_true rfl⟩ rfl rfl rfl hl.1 rfl (Nat.le_of_ble_eq_true rfl) dX12_game_57 ⟨Nat.zero_le _, Nat.zero_le _⟩ (fun r109 σ108 τ108 H locs h108 hP hS => ?_)
                 obtain ⟨rfl, f110, f111, p112, h108⟩ := h108
                 have h114 := h108
                 obtain ⟨q116, k115⟩ := h114
                 refine lv_istore (lv' := [(6, .int r109), (5, .int x50), (4, .int x49), (3, .int x48), (0, .ref (ad 55)), (1, .int a1), (2, .int a2)]) hx hb dX12_game_60 hl (of_decide_eq_true rfl) rfl (fun ls hl => ?_)
                 refine lv_aload_n hx hb dX12_game_62 rfl (lv_at hl 4 rfl) ?_
                 refine va_get (D := D) hx hb hts inlX12 hown hK hP 55 (jc_55 cI cL ad σ108 τ) rfl 11 (of_decide_eq_true rfl) (hts _ kw_7_8) (fun _ h9 => h9) rfl dX12_game_63 ?_
                 refine lv_aload_n hx hb dX12_game_66 rfl (lv_at hl 4 rfl) ?_
                 refine va_get (D := D) hx hb hts inlX12 hown hK hP 55 (jc_55 cI cL ad σ108 τ) rfl 25 (of_decide_eq_true rfl) (hts _ kw_23_6) (fun _ h9 => h9) rfl dX12_game_67 ?_
                 have m117 : σ108 55 25 = (σ55 55 25) := (f111 25 (of_decide_eq_true rfl))
                 refine jtopr m117 ?_
                 exact by
                  refine jald hx hb hK hP (jc_62 cI cL ad σ108 τ) (jin rfl (by omega) (by omega)) dX12_game_70 ?_
                  have w118 : ∀ k : Nat, k < 8 → 0 ≤ (σ108 62 k).toInt ∧ (σ108 62 k).toInt ≤ 3 := (jrr_fr (f110 62 (of_decide_eq_true rfl)) (jrr_fr (f74 62 (of_decide_eq_true rfl)) (jrr_fr (jnp 62 eσ45 (of_decide_eq_true rfl)) (jrr_fr (f42 62 (of_decide_eq_true rfl)) (jrr_fr (f24 62 (of_decide_eq_true rfl)) w7)))))
                  have g119 := w118 _ (jnat (x := (σ55 55 25)) rfl (n := 8) (by omega) (of_decide_eq_true rfl))
                  refine lv_topi (fun x120 ex120 => ?_)
                  rw [← ex120] at g119
                  refine lv_istore (lv' := [(7, .int x120), (6, .int r109), (5, .int x50), (4, .int x49), (3, .int x48), (0, .ref (ad 55)), (1, .int a1), (2, .int a2)]) hx hb dX12_game_71 hl (of_decide_eq_true rfl) rfl (fun ls hl => ?_)
                  refine lv_aload_n hx hb dX12_game_73 rfl (lv_at hl 5 rfl) ?_
                  refine lv_iload hx hb dX12_game_74 (lv_at hl 1 rfl) ?_
                  refine lv_iload hx hb dX12_game_76 (lv_at hl 0 rfl) ?_
                  exact by
                   have I121 : jI101 σ108 := jI101_fr (f111 4 (of_decide_eq_true rfl)) (f111 5 (of_decide_eq_true rfl)) (f110 56 (of_decide_eq_true rfl)) (f110 57 (of_decide_eq_true rfl)) (f110 58 (of_decide_eq_true rfl)) (f110 59 (of_decide_eq_true rfl)) I103
                   have I122 : jI102 σ108 := jI102_fr (f111 6 (of_decide_eq_true rfl)) (f110 60 (of_decide_eq_true rfl)) (f110 61 (of_decide_eq_true rfl)) I83
                   have I123 : jI103 σ108 := jI103_fr (f111 9 (of_decide_eq_true rfl)) I104
                   have I124 : jI105 σ108 := jI105_fr (f111 15 (of_decide_eq_true rfl)) (f110 65 (of_decide_eq_true rfl)) I105
                   have w125 : ∀ k : Nat, k < 4 → 0 ≤ (σ108 68 k).toInt ∧ (σ108 68 k).toInt ≤ 3 := (jrr_fr (f110 68 (of_decide_eq_true rfl)) w85)
                   refine jcallV (As := [.int r109, .int x120]) (rest := []) ⟨hx, hb, hml, hown, hts⟩ hK hP hA hS hZ (c_X12_outBy l D cI cL ad zz hJ σ108 τ r109 (r109.toInt) rfl x120 (x120.toInt) rfl I121 I122 I123 I124 w125 (by omega) (by omega)) cw_RX12_259 (jc_55 cI cL ad σ108 τ) rfl ⟨Nat.le_of_ble_eq_true rfl, Nat.le_of_ble_eq_true rfl⟩ rfl rfl rfl hl.1 rfl (Nat.le_of_ble_eq_true rfl) dX12_game_78 ⟨Nat.zero_le _, Nat.zero_le _⟩ (fun r127 σ126 τ126 H locs h126 hP hS => ?_)
                   obtain ⟨rfl, f128, f129, h126⟩ := h126
                   have h131 := h126
                   obtain ⟨q133, k132⟩ := h131
                   exact by
                    refine lv_istore (lv' := [(8, .int r127), (7, .int x120), (6, .int r109), (5, .int x50), (4, .int x49), (3, .int x48), (0, .ref (ad 55)), (1, .int a1), (2, .int a2)]) hx hb dX12_game_81 hl (of_decide_eq_true rfl) rfl (fun ls hl => ?_)
                    refine lv_aload_n hx hb dX12_game_83 rfl (lv_at hl 6 rfl) ?_
                    refine va_get (D := D) hx hb hts inlX12 hown hK hP 55 (jc_55 cI cL ad σ126 τ) rfl 51 (of_decide_eq_true rfl) (hts _ kw_8_7) (fun _ h9 => h9) rfl dX12_game_84 ?_
                    refine lv_aload_n hx hb dX12_game_87 rfl (lv_at hl 6 rfl) ?_
                    refine va_get (D := D) hx hb hts inlX12 hown hK hP 55 (jc_55 cI cL ad σ126 τ) rfl 50 (of_decide_eq_true rfl) (hts _ kw_46_13) (fun _ h9 => h9) rfl dX12_game_88 ?_
                    have m134 : σ126 55 50 = (σ55 55 50) := ((f129 50 (of_decide_eq_true rfl)).trans (f111 50 (of_decide_eq_true rfl)))
                    refine jtopr m134 ?_
                    refine lv_iload hx hb dX12_game_91 (lv_at hl 2 rfl) ?_
                    refine jast hx hb hK hP hJ hA hS (jc_82 cI cL ad σ126 τ) (ja_82 cI cL ad σ126 τ _ _) (jin rfl (by omega) (by omega)) dX12_game_93 (fun σ135 H locs eσ135 hP hS => ?_)
                    exact by
                     refine lv_aload_n hx hb dX12_game_94 rfl (lv_at hl 6 rfl) ?_
                     refine va_get (D := D) hx hb hts inlX12 hown hK hP 55 (jc_55 cI cL ad σ135 τ) rfl 52 (of_decide_eq_true rfl) (hts _ kw_8_8) (fun _ h9 => h9) rfl dX12_game_95 ?_
                     refine lv_aload_n hx hb dX12_game_98 rfl (lv_at hl 6 rfl) ?_
                     refine va_get (D := D) hx hb hts inlX12 hown hK hP 55 (jc_55 cI cL ad σ135 τ) rfl 50 (of_decide_eq_true rfl) (hts _ kw_46_13) (fun _ h9 => h9) rfl dX12_game_99 ?_
                     have m136 : σ135 55 50 = (σ55 55 50) := ((congrFun (jnp 55 eσ135 (of_decide_eq_true rfl)) 50).trans m134)
                     refine jtopr m136 ?_
                     refine lv_aload_n hx hb dX12_game_102 rfl (lv_at hl 6 rfl) ?_
                     refine lv_iload hx hb dX12_game_103 (lv_at hl 2 rfl) ?_
                     refine lv_iload hx hb dX12_game_105 (lv_at hl 1 rfl) ?_
                     have I137 : jI101 σ135 := jI101_fr ((congrFun (jnp 55 eσ135 (of_decide_eq_true rfl)) 4).trans (f129 4 (of_decide_eq_true rfl))) ((congrFun (jnp 55 eσ135 (of_decide_eq_true rfl)) 5).trans (f129 5 (of_decide_eq_true rfl))) ((jnp 56 eσ135 (of_decide_eq_true rfl)).trans (f128 56 (of_decide_eq_true rfl))) ((jnp 57 eσ135 (of_decide_eq_true rfl)).trans (f128 57 (of_decide_eq_true rfl))) ((jnp 58 eσ135 (of_decide_eq_true rfl)).trans (f128 58 (of_decide_eq_true rfl))) ((jnp 59 eσ135 (of_decide_eq_true rfl)).trans (f128 59 (of_decide_eq_true rfl))) I121
                     have I138 : jI102 σ135 := jI102_fr ((congrFun (jnp 55 eσ135 (of_decide_eq_true rfl)) 6).trans (f129 6 (of_decide_eq_true rfl))) ((jnp 60 eσ135 (of_decide_eq_true rfl)).trans (f128 60 (of_decide_eq_true rfl))) ((jnp 61 eσ135 (of_decide_eq_true rfl)).trans (f128 61 (of_decide_eq_true rfl))) I122
                     have I139 : jI103 σ135 := jI103_fr ((congrFun (jnp 55 eσ135 (of_decide_eq_true rfl)) 9).trans (f129 9 (of_decide_eq_true rfl))) I123
                     have w140 : ∀ k : Nat, k < 4 → 0 ≤ (σ135 68 k).toInt ∧ (σ135 68 k).toInt ≤ 3 := (jrr_fr (jnp 68 eσ135 (of_decide_eq_true rfl)) (jrr_fr (f128 68 (of_decide_eq_true rfl)) w125))
                     exact by
                      refine jcallV (As := [.int r109, .int x120]) (rest := [.int (σ55 55 50), .ref (ad 83)]) ⟨hx, hb, hml, hown, hts⟩ hK hP hA hS hZ (c_X12_runsBy l D cI cL ad zz hJ σ135 τ r109 (r109.toInt) rfl x120 (x120.toInt) rfl I137 I138 I139 w140 (by omega) (by omega)) cw_RX12_262 (jc_55 cI cL ad σ135 τ) rfl ⟨Nat.le_of_ble_eq_true rfl, Nat.le_of_ble_eq_true rfl⟩ rfl rfl rfl hl.1 rfl (Nat.le_of_ble_eq_true rfl) dX12_game_107 ⟨Nat.zero_le _, Nat.zero_le _⟩ (fun r142 σ141 τ141 H locs h141 hP hS => ?_)
                      obtain ⟨⟨rfl, rfl⟩, h141⟩ := h141
                      have h143 := h141
                      obtain ⟨q145, k144⟩ := h143
                      refine jast hx hb hK hP hJ hA hS (jc_83 cI cL ad σ135 τ) (ja_83 cI cL ad σ135 τ _ _) (jin rfl (by omega) (by omega)) dX12_game_110 (fun σ146 H locs eσ146 hP hS => ?_)
                      refine lv_iload hx hb dX12_game_111 (lv_at hl 4 rfl) ?_
                      refine lv_aload_n hx hb dX12_game_113 rfl (lv_at hl 6 rfl) ?_
                      refine va_get (D := D) hx hb hts inlX12 hown hK hP 55 (jc_55 cI cL ad σ146 τ) rfl 52 (of_decide_eq_true rfl) (hts _ kw_8_8) (fun _ h9 => h9) rfl dX12_game_114 ?_
                      refine lv_aload_n hx hb dX12_game_117 rfl (lv_at hl 6 rfl) ?_
                      exact by
                       refine va_get (D := D) hx hb hts inlX12 hown hK hP 55 (jc_55 cI cL ad σ146 τ) rfl 50 (of_decide_eq_true rfl) (hts _ kw_46_13) (fun _ h9 => h9) rfl dX12_game_118 ?_
                       have m147 : σ146 55 50 = (σ55 55 50) := ((congrFun (jnp 55 eσ146 (of_decide_eq_true rfl)) 50).trans m136)
                       refine jtopr m147 ?_
                       refine jald hx hb hK hP (jc_83 cI cL ad σ146 τ) (jin rfl (by omega) (by omega)) dX12_game_121 ?_
                       refine lv_topi (fun x148 ex148 => ?_)
                       have g149 := jrg (rfl : x49.toInt = x49.toInt)
                       have g150 := jrg (rfl : x148.toInt = x148.toInt)
                       refine lv_iadd hx hb dX12_game_122 ?_
                       refine lv_topi (fun x151 ex151 => ?_)
                       exact by
                        have gx151 := jrg (rfl : x151.toInt = x151.toInt)
                        refine lv_istore (lv' := [(4, .int x151), (8, .int r127), (7, .int x120), (6, .int r109), (5, .int x50), (3, .int x48), (0, .ref (ad 55)), (1, .int a1), (2, .int a2)]) hx hb dX12_game_123 hl (of_decide_eq_true rfl) rfl (fun ls hl => ?_)
                        refine lv_iload_n hx hb dX12_game_125 rfl (lv_at hl 5 rfl) ?_
                        refine lv_ldcw (v := 1103515245) hx hb hown (hts _ kw_46_14) dX12_game_126 ?_
                        have g152 := jrg (rfl : x48.toInt = x48.toInt)
                        refine lv_imul hx hb dX12_game_129 ?_
                        refine lv_topi (fun x153 ex153 => ?_)
                        have gx153 := jrg (rfl : x153.toInt = x153.toInt)
                        refine lv_sipush (v := 12345) hx hb dX12_game_130 (of_decide_eq_true rfl) ?_
                        have g154 := jrg (rfl : x153.toInt = x153.toInt)
                        refine lv_iadd hx hb dX12_game_133 ?_
                        refine lv_topi (fun x155 ex155 => ?_)
                        have gx155 := jrg (rfl : x155.toInt = x155.toInt)
                        refine lv_istore_n (lv' := [(3, .int x155), (4, .int x151), (8, .int r127), (7, .int x120), (6, .int r109), (5, .int x50), (0, .ref (ad 55)), (1, .int a1), (2, .int a2)]) hx hb dX12_game_134 rfl hl (of_decide_eq_true rfl) rfl (fun ls hl => ?_)
                        refine lv_aload_n hx hb dX12_game_135 rfl (lv_at hl 6 rfl) ?_
                        refine va_get (D := D) hx hb hts inlX12 hown hK hP 55 (jc_55 cI cL ad σ146 τ) rfl 53 (of_decide_eq_true rfl) (hts _ kw_8_9) (fun _ h9 => h9) rfl dX12_game_136 ?_
                        refine lv_aload_n hx hb dX12_game_139 rfl (lv_at hl 6 rfl) ?_
                        refine va_get (D := D) hx hb hts inlX12 hown hK hP 55 (jc_55 cI cL ad σ146 τ) rfl 50 (of_decide_eq_true rfl) (hts _ kw_46_13) (fun _ h9 => h9) rfl dX12_game_140 ?_
                        refine jtopr m147 ?_
                        refine lv_iload_n hx hb dX12_game_143 rfl (lv_at hl 0 rfl) ?_
                        refine lv_bipush (v := 8) hx hb dX12_game_144 (of_decide_eq_true rfl) ?_
                        refine lv_iushr hx hb dX12_game_146 rfl ?_
                        refine lv_topi (fun x156 ex156 => ?_)
                        have gx156 := jrg (rfl : x156.toInt = x156.toInt)
                        have g157 : 0 ≤ x156.toInt ∧ x156.toInt ≤ 16777215 := jushr8 ex156
                        refine lv_sipush (v := 1000) hx hb dX12_game_147 (of_decide_eq_true rfl) ?_
                        refine lv_irem hx hb dX12_game_150 (of_decide_eq_true rfl) ?_
                        refine lv_topi (fun x158 ex158 => ?_)
                        exact by
                         have tx158 : x158.toInt = (x156.toInt % 1000) := jrem ex158 rfl jz_1000 (by omega)
                         refine lv_iload hx hb dX12_game_151 (lv_at hl 2 rfl) ?_
                         refine lv_icmp_ge (tgt := 160) hx hb dX12_game_153 (of_decide_eq_true rfl) (fun c159 => ?_) (fun c159 => ?_)
                         · have kc159 := jle c159 rfl tx158
                           refine lv_iconst (v := 0) hx hb dX12_game_160 (of_decide_eq_true rfl) ?_
                           refine jast hx hb hK hP hJ hA hS (jc_84 cI cL ad σ146 τ) (ja_84 cI cL ad σ146 τ _ _) (jin rfl (by omega) (by omega)) dX12_game_161 (fun σ160 H locs eσ160 hP hS => ?_)
                           refine lv_aload_n hx hb dX12_game_162 rfl (lv_at hl 6 rfl) ?_
                           refine lv_iload hx hb dX12_game_163 (lv_at hl 4 rfl) ?_
                           refine lv_aload_n hx hb dX12_game_165 rfl (lv_at hl 6 rfl) ?_
                           exact by
                            refine va_get (D := D) hx hb hts inlX12 hown hK hP 55 (jc_55 cI cL ad σ160 τ) rfl 53 (of_decide_eq_true rfl) (hts _ kw_8_9) (fun _ h9 => h9) rfl dX12_game_166 ?_
                            refine lv_aload_n hx hb dX12_game_169 rfl (lv_at hl 6 rfl) ?_
                            refine va_get (D := D) hx hb hts inlX12 hown hK hP 55 (jc_55 cI cL ad σ160 τ) rfl 50 (of_decide_eq_true rfl) (hts _ kw_46_13) (fun _ h9 => h9) rfl dX12_game_170 ?_
                            have m161 : σ160 55 50 = (σ55 55 50) := ((congrFun (jnp 55 eσ160 (of_decide_eq_true rfl)) 50).trans m147)
                            refine jtopr m161 ?_
                            refine jald hx hb hK hP (jc_84 cI cL ad σ160 τ) (jin rfl (by omega) (by omega)) dX12_game_173 ?_
                            refine lv_topi (fun x162 ex162 => ?_)
                            refine lv_iconst (v := 1) hx hb dX12_game_174 (of_decide_eq_true rfl) ?_
                            refine lv_icmp_ne (tgt := 182) hx hb dX12_game_175 (of_decide_eq_true rfl) (fun c163 => ?_) (fun c163 => ?_)
                            · exact by
                               have kc163 := jne c163 rfl jz_1
                               refine lv_iconst (v := 0) hx hb dX12_game_182 (of_decide_eq_true rfl) ?_
                               have w164 : ∀ k : Nat, k < 4 → 0 ≤ (σ160 68 k).toInt ∧ (σ160 68 k).toInt ≤ 3 := (jrr_fr (jnp 68 eσ160 (of_decide_eq_true rfl)) (jrr_fr (jnp 68 eσ146 (of_decide_eq_true rfl)) w140))
                               have z165 : (σ160 55 6).toInt = (σ 55 6).toInt := (congrArg Int32.toInt (show σ160 55 6 = (σ 55 6) from ((congrFun (jnp 55 eσ160 (of_decide_eq_true rfl)) 6).trans ((congrFun (jnp 55 eσ146 (of_decide_eq_true rfl)) 6).trans ((congrFun (jnp 55 eσ135 (of_decide_eq_true rfl)) 6).trans ((f129 6 (of_decide_eq_true rfl)).trans ((f111 6 (of_decide_eq_true rfl)).trans ((f75 6 (of_decide_eq_true rfl)).trans ((jkp 6 eσ45 (of_decide_eq_true rfl)).trans ((f43 6 (of_decide_eq_true rfl)).trans (f25 6 (of_decide_eq_true rfl))))))))))))
                               have z166 : (σ160 55 27).toInt = (σ55 55 27).toInt := (congrArg Int32.toInt (show σ160 55 27 = (σ55 55 27) from ((congrFun (jnp 55 eσ160 (of_decide_eq_true rfl)) 27).trans ((congrFun (jnp 55 eσ146 (of_decide_eq_true rfl)) 27).trans ((congrFun (jnp 55 eσ135 (of_decide_eq_true rfl)) 27).trans ((f129 27 (of_decide_eq_true rfl)).trans (f111 27 (of_decide_eq_true rfl))))))))
                               have z167 : (σ160 55 25).toInt = (σ55 55 25).toInt := (congrArg Int32.toInt (show σ160 55 25 = (σ55 55 25) from ((congrFun (jnp 55 eσ160 (of_decide_eq_true rfl)) 25).trans ((congrFun (jnp 55 eσ146 (of_decide_eq_true rfl)) 25).trans ((congrFun (jnp 55 eσ135 (of_decide_eq_true rfl)) 25).trans ((f129 25 (of_decide_eq_true rfl)).trans m117))))))
                               have z168 : (σ160 55 26).toInt = (σ55 55 26).toInt := (congrArg Int32.toInt (show σ160 55 26 = (σ55 55 26) from ((congrFun (jnp 55 eσ160 (of_decide_eq_true rfl)) 26).trans ((congrFun (jnp 55 eσ146 (of_decide_eq_true rfl)) 26).trans ((congrFun (jnp 55 eσ135 (of_decide_eq_true rfl)) 26).trans ((f129 26 (of_decide_eq_true rfl)).trans (f111 26 (of_decide_eq_true rfl))))))))
                               have z169 : (σ160 68 0).toInt = (σ55 68 0).toInt := (congrArg Int32.toInt (show σ160 68 0 = (σ55 68 0) from ((congrFun (jnp 68 eσ160 (of_decide_eq_true rfl)) 0).trans ((congrFun (jnp 68 eσ146 (of_decide_eq_true rfl)) 0).trans ((congrFun (jnp 68 eσ135 (of_decide_eq_true rfl)) 0).trans ((congrFun (f128 68 (of_decide_eq_true rfl)) 0).trans (congrFun (f110 68 (of_decide_eq_true rfl)) 0)))))))
                               have z170 : (σ160 68 1).toInt = (σ55 68 1).toInt := (congrArg Int32.toInt (show σ160 68 1 = (σ55 68 1) from ((congrFun (jnp 68 eσ160 (of_decide_eq_true rfl)) 1).trans ((congrFun (jnp 68 eσ146 (of_decide_eq_true rfl)) 1).trans ((congrFun (jnp 68 eσ135 (of_decide_eq_true rfl)) 1).trans ((congrFun (f128 68 (of_decide_eq_true rfl)) 1).trans (congrFun (f110 68 (of_decide_eq_true rfl)) 1)))))))
                               have z171 : (σ160 68 2).toInt = (σ55 68 2).toInt := (congrArg Int32.toInt (show σ160 68 2 = (σ55 68 2) from ((congrFun (jnp 68 eσ160 (of_decide_eq_true rfl)) 2).trans ((congrFun (jnp 68 eσ146 (of_decide_eq_true rfl)) 2).trans ((congrFun (jnp 68 eσ135 (of_decide_eq_true rfl)) 2).trans ((congrFun (f128 68 (of_decide_eq_true rfl)) 2).trans (congrFun (f110 68 (of_decide_eq_true rfl)) 2)))))))
                               have z172 : (σ160 68 3).toInt = (σ55 68 3).toInt := (congrArg Int32.toInt (show σ160 68 3 = (σ55 68 3) from ((congrFun (jnp 68 eσ160 (of_decide_eq_true rfl)) 3).trans ((congrFun (jnp 68 eσ146 (of_decide_eq_true rfl)) 3).trans ((congrFun (jnp 68 eσ135 (of_decide_eq_true rfl)) 3).trans ((congrFun (f128 68 (of_decide_eq_true rfl)) 3).trans (congrFun (f110 68 (of_decide_eq_true rfl)) 3)))))))
                               exact by
                                refine jcallV (As := [.int r109, .int 0]) (rest := []) ⟨hx, hb, hml, hown, hts⟩ hK hP hA hS hZ (c_X12_goes_0 l D cI cL ad zz hJ σ160 τ r109 (r109.toInt) rfl w164 (by omega) (by omega) (by omega) (by omega) (by omega)) cw_RX12_296 (jc_55 cI cL ad σ160 τ) rfl ⟨Nat.le_of_ble_eq_true rfl, Nat.le_of_ble_eq_true rfl⟩ rfl rfl rfl hl.1 rfl (Nat.le_of_ble_eq_true rfl) dX12_game_183 ⟨Nat.zero_le _, Nat.zero_le _⟩ (fun r174 σ173 τ173 H locs h173 hP hS => ?_)
                                obtain ⟨rfl, f175, f176, w177, w178, w179, h173⟩ := h173
                                obtain ⟨k181, k182, k183, h173⟩ := h173
                                have h184 := h173
                                obtain ⟨q190, k185, k186, k187, k188, k189⟩ := h184
                                refine lv_istore (lv' := [(9, .int r174), (3, .int x155), (4, .int x151), (8, .int r127), (7, .int x120), (6, .int r109), (5, .int x50), (0, .ref (ad 55)), (1, .int a1), (2, .int a2)]) hx hb dX12_game_186 hl (of_decide_eq_true rfl) rfl (fun ls hl => ?_)
                                refine lv_iload_n hx hb dX12_game_188 rfl (lv_at hl 1 rfl) ?_
                                refine lv_ldcw (v := 1103515245) hx hb hown (hts _ kw_46_14) dX12_game_189 ?_
                                have g191 := jrg (rfl : x155.toInt = x155.toInt)
                                refine lv_imul hx hb dX12_game_192 ?_
                                refine lv_topi (fun x192 ex192 => ?_)
                                have gx192 := jrg (rfl : x192.toInt = x192.toInt)
                                refine lv_sipush (v := 12345) hx hb dX12_game_193 (of_decide_eq_true rfl) ?_
                                have g193 := jrg (rfl : x192.toInt = x192.toInt)
                                refine lv_iadd hx hb dX12_game_196 ?_
                                refine lv_topi (fun x194 ex194 => ?_)
                                have gx194 := jrg (rfl : x194.toInt = x194.toInt)
                                refine lv_istore_n (lv' := [(3, .int x194), (9, .int r174), (4, .int x151), (8, .int r127), (7, .int x120), (6, .int r109), (5, .int x50), (0, .ref (ad 55)), (1, .int a1), (2, .int a2)]) hx hb dX12_game_197 rfl hl (of_decide_eq_true rfl) rfl (fun ls hl => ?_)
                                refine lv_iload_n hx hb dX12_game_198 rfl (lv_at hl 0 rfl) ?_
                                refine lv_bipush (v := 8) hx hb dX12_game_199 (of_decide_eq_true rfl) ?_
                                refine lv_iushr hx hb dX12_game_201 rfl ?_
                                refine lv_topi (fun x195 ex195 => ?_)
                                have gx195 := jrg (rfl : x195.toInt = x195.toInt)
                                have g196 : 0 ≤ x195.toInt ∧ x195.toInt ≤ 16777215 := jushr8 ex195
                                refine lv_sipush (v := 1000) hx hb dX12_game_202 (of_decide_eq_true rfl) ?_
                                refine lv_irem hx hb dX12_game_205 (of_decide_eq_true rfl) ?_
                                refine lv_topi (fun x197 ex197 => ?_)
                                exact by
                                 have tx197 : x197.toInt = (x195.toInt % 1000) := jrem ex197 rfl jz_1000 (by omega)
                                 refine lv_aload_n hx hb dX12_game_206 rfl (lv_at hl 7 rfl) ?_
                                 refine va_get (D := D) hx hb hts inlX12 hown hK hP 55 (jc_55 cI cL ad σ173 τ) rfl 13 (of_decide_eq_true rfl) (hts _ kw_15_14) (fun _ h9 => h9) rfl dX12_game_207 ?_
                                 have m198 : σ173 55 13 = (σ 55 13) := ((f176 13 (of_decide_eq_true rfl)).trans ((congrFun (jnp 55 eσ160 (of_decide_eq_true rfl)) 13).trans ((congrFun (jnp 55 eσ146 (of_decide_eq_true rfl)) 13).trans ((congrFun (jnp 55 eσ135 (of_decide_eq_true rfl)) 13).trans ((f129 13 (of_decide_eq_true rfl)).trans ((f111 13 (of_decide_eq_true rfl)).trans ((f75 13 (of_decide_eq_true rfl)).trans ((jkp 13 eσ45 (of_decide_eq_true rfl)).trans ((f43 13 (of_decide_eq_true rfl)).trans (f25 13 (of_decide_eq_true rfl)))))))))))
                                 refine jtopr m198 ?_
                                 refine lv_icmp_ge (tgt := 217) hx hb dX12_game_210 (of_decide_eq_true rfl) (fun c199 => ?_) (fun c199 => ?_)
                                 · have kc199 := jle c199 rfl tx197
                                   refine lv_iconst (v := 0) hx hb dX12_game_217 (of_decide_eq_true rfl) ?_
                                   refine lv_istore (lv' := [(5, .int 0), (3, .int x194), (9, .int r174), (4, .int x151), (8, .int r127), (7, .int x120), (6, .int r109), (0, .ref (ad 55)), (1, .int a1), (2, .int a2)]) hx hb dX12_game_218 hl (of_decide_eq_true rfl) rfl (fun ls hl => ?_)
                                   refine lv_aload_n hx hb dX12_game_220 rfl (lv_at hl 7 rfl) ?_
                                   refine lv_dup hx hb dX12_game_221 rfl ?_
                                   refine va_get (D := D) hx hb hts inlX12 hown hK hP 55 (jc_55 cI cL ad σ173 τ) rfl 50 (of_decide_eq_true rfl) (hts _ kw_46_13) (fun _ h9 => h9) rfl dX12_game_222 ?_
                                   have m200 : σ173 55 50 = (σ55 55 50) := ((f176 50 (of_decide_eq_true rfl)).trans m161)
                                   refine jtopr m200 ?_
                                   refine lv_iconst (v := 1) hx hb dX12_game_225 (of_decide_eq_true rfl) ?_
                                   have g201 := jrg (rfl : (σ55 55 50).toInt = (σ55 55 50).toInt)
                                   refine lv_iadd hx hb dX12_game_226 ?_
                                   refine lv_topi (fun x202 ex202 => ?_)
                                   exact by
                                    have tx202 : x202.toInt = (σ55 55 50).toInt + 1 := (jadd ex202 rfl jz_1 (by omega) (by omega)).trans (by omega)
                                    refine jput (ty := .int) hx hb hts inlX12 tyX12 tyX12_ok nmX12 hown hK hP hJ hA hS (jc_55 cI cL ad σ173 τ) rfl (k := 50) (of_decide_eq_true rfl) (Nat.le_of_ble_eq_true rfl) (jp_55_50 cI cL ad σ173 τ x202) (hts _ kw_46_13) (fun _ h9 => h9) rfl (by decide +kernel) rfl rfl dX12_game_227 (fun σ203 H locs eσ203 hP hS => ?_)
                                    refine lv_goto (tgt := 43) hx hb dX12_game_230 (of_decide_eq_true rfl) ?_
                                    have z204 : (σ203 55 12).toInt = (σ 55 12).toInt := (congrArg Int32.toInt (show σ203 55 12 = (σ 55 12) from ((jkp 12 eσ203 (of_decide_eq_true rfl)).trans ((f176 12 (of_decide_eq_true rfl)).trans ((congrFun (jnp 55 eσ160 (of_decide_eq_true rfl)) 12).trans ((congrFun (jnp 55 eσ146 (of_decide_eq_true rfl)) 12).trans ((congrFun (jnp 55 eσ135 (of_decide_eq_true rfl)) 12).trans ((f129 12 (of_decide_eq_true rfl)).trans ((f111 12 (of_decide_eq_true rfl)).trans ((f75 12 (of_decide_eq_true rfl)).trans ((jkp 12 eσ45 (of_decide_eq_true rfl)).trans ((f43 12 (of_decide_eq_true rfl)).trans (f25 12 (of_decide_eq_true rfl))))))))))))))
                                    have z205 : (σ203 55 26).toInt = (σ173 55 26).toInt := (congrArg Int32.toInt (show σ203 55 26 = (σ173 55 26) from (jkp 26 eσ203 (of_decide_eq_true rfl))))
                                    have z206 : (σ203 55 25).toInt = (σ173 55 25).toInt := (congrArg Int32.toInt (show σ203 55 25 = (σ173 55 25) from (jkp 25 eσ203 (of_decide_eq_true rfl))))
                                    have z207 : (σ203 55 10).toInt = (σ 55 10).toInt := (congrArg Int32.toInt (show σ203 55 10 = (σ 55 10) from ((jkp 10 eσ203 (of_decide_eq_true rfl)).trans ((f176 10 (of_decide_eq_true rfl)).trans ((congrFun (jnp 55 eσ160 (of_decide_eq_true rfl)) 10).trans ((congrFun (jnp 55 eσ146 (of_decide_eq_true rfl)) 10).trans ((congrFun (jnp 55 eσ135 (of_decide_eq_true rfl)) 10).trans ((f129 10 (of_decide_eq_true rfl)).trans ((f111 10 (of_decide_eq_true rfl)).trans ((f75 10 (of_decide_eq_true rfl)).trans ((jkp 10 eσ45 (of_decide_eq_true rfl)).trans ((f43 10 (of_decide_eq_true rfl)).trans (f25 10 (of_decide_eq_true rfl))))))))))))))
                                    have z208 : (σ203 55 27).toInt = (σ173 55 27).toInt := (congrArg Int32.toInt (show σ203 55 27 = (σ173 55 27) from (jkp 27 eσ203 (of_decide_eq_true rfl))))
                                    have z209 : (σ203 55 50).toInt = (σ55 55 50).toInt + 1 := ((congrArg Int32.toInt (show σ203 55 50 = x202 from (jsp eσ203))).trans tx202)
                                    have p210 : jKept σ203 := jKept.fr ((jnp 75 eσ203 (of_decide_eq_true rfl)).trans ((f175 75 (of_decide_eq_true rfl)).trans ((jnp 75 eσ160 (of_decide_eq_true rfl)).trans ((jnp 75 eσ146 (of_decide_eq_true rfl)).trans ((jnp 75 eσ135 (of_decide_eq_true rfl)).trans (f128 75 (of_decide_eq_true rfl))))))) ((jnp 76 eσ203 (of_decide_eq_true rfl)).trans ((f175 76 (of_decide_eq_true rfl)).trans ((jnp 76 eσ160 (of_decide_eq_true rfl)).trans ((jnp 76 eσ146 (of_decide_eq_true rfl)).trans ((jnp 76 eσ135 (of_decide_eq_true rfl)).trans (f128 76 (of_decide_eq_true rfl))))))) ((jnp 77 eσ203 (of_decide_eq_true rfl)).trans ((f175 77 (of_decide_eq_true rfl)).trans ((jnp 77 eσ160 (of_decide_eq_true rfl)).trans ((jnp 77 eσ146 (of_decide_eq_true rfl)).trans ((jnp 77 eσ135 (of_decide_eq_true rfl)).trans (f128 77 (of_decide_eq_true rfl))))))) p112
                                    have I211 : jI109 σ203 := (show 0 ≤ (σ203 55 50).toInt ∧ (σ203 55 50).toInt ≤ 12 by omega)
                                    have w212 : ∀ k : Nat, k < 4 → 0 ≤ (σ203 68 k).toInt ∧ (σ203 68 k).toInt ≤ 3 := (jrr_fr (jnp 68 eσ203 (of_decide_eq_true rfl)) w177)
                                    have I213 : jI119 σ203 := w212
                                    exact by exact ihlp46 x194 x151 0 σ203 _ _ ls (by have h92 := jz_0; omega) (by have h92 := jz_0; omega) (by have h92 := jz_0; omega) (by have h92 := jz_0; omega) (by have h92 := jz_0; omega) (by have h92 := jz_0; omega) (by have h92 := jz_0; omega) (fun i hi => ((jnp i eσ203 (imp_282 i hi)).trans ((f175 i (imp_284 i hi)).trans ((jnp i eσ160 (imp_289 i hi)).trans ((jnp i eσ146 (imp_290 i hi)).trans ((jnp i eσ135 (imp_291 i hi)).trans ((f128 i (imp_292 i hi)).trans ((f110 i (imp_293 i hi)).trans (f74 i hi))))))))) (fun i hi => ((jkp i eσ203 (imp_294 i hi)).trans ((f176 i (imp_295 i hi)).trans ((congrFun (jnp 55 eσ160 (of_decide_eq_true rfl)) i).trans ((congrFun (jnp 55 eσ146 (of_decide_eq_true rfl)) i).trans ((congrFun (jnp 55 eσ135 (of_decide_eq_true rfl)) i).trans ((f129 i (imp_296 i hi)).trans ((f111 i (imp_297 i hi)).trans (f75 i hi)))))))))  p210 I211 I213 hP hS (lv_sub hl [0, 3, 1, 7, 8, 9] rfl)
                                 · have kc199 := jnle c199 rfl tx197
                                   refine lv_iconst (v := 1) hx hb dX12_game_213 (of_decide_eq_true rfl) ?_
                                   refine lv_goto (tgt := 218) hx hb dX12_game_214 (of_decide_eq_true rfl) ?_
                                   refine lv_istore (lv' := [(5, .int 1), (3, .int x194), (9, .int r174), (4, .int x151), (8, .int r127), (7, .int x120), (6, .int r109), (0, .ref (ad 55)), (1, .int a1), (2, .int a2)]) hx hb dX12_game_218 hl (of_decide_eq_true rfl) rfl (fun ls hl => ?_)
                                   refine lv_aload_n hx hb dX12_game_220 rfl (lv_at hl 7 rfl) ?_
                                   refine lv_dup hx hb dX12_game_221 rfl ?_
                                   refine va_get (D := D) hx hb hts inlX12 hown hK hP 55 (jc_55 cI cL ad σ173 τ) rfl 50 (of_decide_eq_true rfl) (hts _ kw_46_13) (fun _ h9 => h9) rfl dX12_game_222 ?_
                                   have m214 : σ173 55 50 = (σ55 55 50) := ((f176 50 (of_decide_eq_true rfl)).trans m161)
                                   refine jtopr m214 ?_
                                   refine lv_iconst (v := 1) hx hb dX12_game_225 (of_decide_eq_true rfl) ?_
                                   have g215 := jrg (rfl : (σ55 55 50).toInt = (σ55 55 50).toInt)
                                   refine lv_iadd hx hb dX12_game_226 ?_
                                   refine lv_topi (fun x216 ex216 => ?_)
                                   exact by
                                    have tx216 : x216.toInt = (σ55 55 50).toInt + 1 := (jadd ex216 rfl jz_1 (by omega) (by omega)).trans (by omega)
                                    refine jput (ty := .int) hx hb hts inlX12 tyX12 tyX12_ok nmX12 hown hK hP hJ hA hS (jc_55 cI cL ad σ173 τ) rfl (k := 50) (of_decide_eq_true rfl) (Nat.le_of_ble_eq_true rfl) (jp_55_50 cI cL ad σ173 τ x216) (hts _ kw_46_13) (fun _ h9 => h9) rfl (by decide +kernel) rfl rfl dX12_game_227 (fun σ217 H locs eσ217 hP hS => ?_)
                                    refine lv_goto (tgt := 43) hx hb dX12_game_230 (of_decide_eq_true rfl) ?_
                                    have z218 : (σ217 55 12).toInt = (σ 55 12).toInt := (congrArg Int32.toInt (show σ217 55 12 = (σ 55 12) from ((jkp 12 eσ217 (of_decide_eq_true rfl)).trans ((f176 12 (of_decide_eq_true rfl)).trans ((congrFun (jnp 55 eσ160 (of_decide_eq_true rfl)) 12).trans ((congrFun (jnp 55 eσ146 (of_decide_eq_true rfl)) 12).trans ((congrFun (jnp 55 eσ135 (of_decide_eq_true rfl)) 12).trans ((f129 12 (of_decide_eq_true rfl)).trans ((f111 12 (of_decide_eq_true rfl)).trans ((f75 12 (of_decide_eq_true rfl)).trans ((jkp 12 eσ45 (of_decide_eq_true rfl)).trans ((f43 12 (of_decide_eq_true rfl)).trans (f25 12 (of_decide_eq_true rfl))))))))))))))
                                    have z219 : (σ217 55 26).toInt = (σ173 55 26).toInt := (congrArg Int32.toInt (show σ217 55 26 = (σ173 55 26) from (jkp 26 eσ217 (of_decide_eq_true rfl))))
                                    have z220 : (σ217 55 25).toInt = (σ173 55 25).toInt := (congrArg Int32.toInt (show σ217 55 25 = (σ173 55 25) from (jkp 25 eσ217 (of_decide_eq_true rfl))))
                                    have z221 : (σ217 55 10).toInt = (σ 55 10).toInt := (congrArg Int32.toInt (show σ217 55 10 = (σ 55 10) from ((jkp 10 eσ217 (of_decide_eq_true rfl)).trans ((f176 10 (of_decide_eq_true rfl)).trans ((congrFun (jnp 55 eσ160 (of_decide_eq_true rfl)) 10).trans ((congrFun (jnp 55 eσ146 (of_decide_eq_true rfl)) 10).trans ((congrFun (jnp 55 eσ135 (of_decide_eq_true rfl)) 10).trans ((f129 10 (of_decide_eq_true rfl)).trans ((f111 10 (of_decide_eq_true rfl)).trans ((f75 10 (of_decide_eq_true rfl)).trans ((jkp 10 eσ45 (of_decide_eq_true rfl)).trans ((f43 10 (of_decide_eq_true rfl)).trans (f25 10 (of_decide_eq_true rfl))))))))))))))
                                    have z222 : (σ217 55 27).toInt = (σ173 55 27).toInt := (congrArg Int32.toInt (show σ217 55 27 = (σ173 55 27) from (jkp 27 eσ217 (of_decide_eq_true rfl))))
                                    have z223 : (σ217 55 50).toInt = (σ55 55 50).toInt + 1 := ((congrArg Int32.toInt (show σ217 55 50 = x216 from (jsp eσ217))).trans tx216)
                                    have p224 : jKept σ217 := jKept.fr ((jnp 75 eσ217 (of_decide_eq_true rfl)).trans ((f175 75 (of_decide_eq_true rfl)).trans ((jnp 75 eσ160 (of_decide_eq_true rfl)).trans ((jnp 75 eσ146 (of_decide_eq_true rfl)).trans ((jnp 75 eσ135 (of_decide_eq_true rfl)).trans (f128 75 (of_decide_eq_true rfl))))))) ((jnp 76 eσ217 (of_decide_eq_true rfl)).trans ((f175 76 (of_decide_eq_true rfl)).trans ((jnp 76 eσ160 (of_decide_eq_true rfl)).trans ((jnp 76 eσ146 (of_decide_eq_true rfl)).trans ((jnp 76 eσ135 (of_decide_eq_true rfl)).trans (f128 76 (of_decide_eq_true rfl))))))) ((jnp 77 eσ217 (of_decide_eq_true rfl)).trans ((f175 77 (of_decide_eq_true rfl)).trans ((jnp 77 eσ160 (of_decide_eq_true rfl)).trans ((jnp 77 eσ146 (of_decide_eq_true rfl)).trans ((jnp 77 eσ135 (of_decide_eq_true rfl)).trans (f128 77 (of_decide_eq_true rfl))))))) p112
                                    have I225 : jI109 σ217 := (show 0 ≤ (σ217 55 50).toInt ∧ (σ217 55 50).toInt ≤ 12 by omega)
                                    have w226 : ∀ k : Nat, k < 4 → 0 ≤ (σ217 68 k).toInt ∧ (σ217 68 k).toInt ≤ 3 := (jrr_fr (jnp 68 eσ217 (of_decide_eq_true rfl)) w177)
                                    have I227 : jI119 σ217 := w226
                                    exact by exact ihlp46 x194 x151 1 σ217 _ _ ls (by have h92 := jz_1; omega) (by have h92 := jz_1; omega) (by have h92 := jz_1; omega) (by have h92 := jz_1; omega) (by have h92 := jz_1; omega) (by have h92 := jz_1; omega) (by have h92 := jz_1; omega) (fun i hi => ((jnp i eσ217 (imp_282 i hi)).trans ((f175 i (imp_284 i hi)).trans ((jnp i eσ160 (imp_289 i hi)).trans ((jnp i eσ146 (imp_290 i hi)).trans ((jnp i eσ135 (imp_291 i hi)).trans ((f128 i (imp_292 i hi)).trans ((f110 i (imp_293 i hi)).trans (f74 i hi))))))))) (fun i hi => ((jkp i eσ217 (imp_294 i hi)).trans ((f176 i (imp_295 i hi)).trans ((congrFun (jnp 55 eσ160 (of_decide_eq_true rfl)) i).trans ((congrFun (jnp 55 eσ146 (of_decide_eq_true rfl)) i).trans ((congrFun (jnp 55 eσ135 (of_decide_eq_true rfl)) i).trans ((f129 i (imp_296 i hi)).trans ((f111 i (imp_297 i hi)).trans (f75 i hi)))))))))  p224 I225 I227 hP hS (lv_sub hl [0, 3, 1, 7, 8, 9] rfl)
                            · have kc163 := jeq c163 rfl jz_1
                              refine lv_iconst (v := 1) hx hb dX12_game_178 (of_decide_eq_true rfl) ?_
                              refine lv_goto (tgt := 183) hx hb dX12_game_179 (of_decide_eq_true rfl) ?_
                              have w228 : ∀ k : Nat, k < 4 → 0 ≤ (σ160 68 k).toInt ∧ (σ160 68 k).toInt ≤ 3 := (jrr_fr (jnp 68 eσ160 (of_decide_eq_true rfl)) (jrr_fr (jnp 68 eσ146 (of_decide_eq_true rfl)) w140))
                              have z229 : (σ160 55 6).toInt = (σ 55 6).toInt := (congrArg Int32.toInt (show σ160 55 6 = (σ 55 6) from ((congrFun (jnp 55 eσ160 (of_decide_eq_true rfl)) 6).trans ((congrFun (jnp 55 eσ146 (of_decide_eq_true rfl)) 6).trans ((congrFun (jnp 55 eσ135 (of_decide_eq_true rfl)) 6).trans ((f129 6 (of_decide_eq_true rfl)).trans ((f111 6 (of_decide_eq_true rfl)).trans ((f75 6 (of_decide_eq_true rfl)).trans ((jkp 6 eσ45 (of_decide_eq_true rfl)).trans ((f43 6 (of_decide_eq_true rfl)).trans (f25 6 (of_decide_eq_true rfl))))))))))))
                              have z230 : (σ160 55 27).toInt = (σ55 55 27).toInt := (congrArg Int32.toInt (show σ160 55 27 = (σ55 55 27) from ((congrFun (jnp 55 eσ160 (of_decide_eq_true rfl)) 27).trans ((congrFun (jnp 55 eσ146 (of_decide_eq_true rfl)) 27).trans ((congrFun (jnp 55 eσ135 (of_decide_eq_true rfl)) 27).trans ((f129 27 (of_decide_eq_true rfl)).trans (f111 27 (of_decide_eq_true rfl))))))))
                              have z231 : (σ160 55 25).toInt = (σ55 55 25).toInt := (congrArg Int32.toInt (show σ160 55 25 = (σ55 55 25) from ((congrFun (jnp 55 eσ160 (of_decide_eq_true rfl)) 25).trans ((congrFun (jnp 55 eσ146 (of_decide_eq_true rfl)) 25).trans ((congrFun (jnp 55 eσ135 (of_decide_eq_true rfl)) 25).trans ((f129 25 (of_decide_eq_true rfl)).trans m117))))))
                              have z232 : (σ160 55 26).toInt = (σ55 55 26).toInt := (congrArg Int32.toInt (show σ160 55 26 = (σ55 55 26) from ((congrFun (jnp 55 eσ160 (of_decide_eq_true rfl)) 26).trans ((congrFun (jnp 55 eσ146 (of_decide_eq_true rfl)) 26).trans ((congrFun (jnp 55 eσ135 (of_decide_eq_true rfl)) 26).trans ((f129 26 (of_decide_eq_true rfl)).trans (f111 26 (of_decide_eq_true rfl))))))))
                              have z233 : (σ160 68 0).toInt = (σ55 68 0).toInt := (congrArg Int32.toInt (show σ160 68 0 = (σ55 68 0) from ((congrFun (jnp 68 eσ160 (of_decide_eq_true rfl)) 0).trans ((congrFun (jnp 68 eσ146 (of_decide_eq_true rfl)) 0).trans ((congrFun (jnp 68 eσ135 (of_decide_eq_true rfl)) 0).trans ((congrFun (f128 68 (of_decide_eq_true rfl)) 0).trans (congrFun (f110 68 (of_decide_eq_true rfl)) 0)))))))
                              have z234 : (σ160 68 1).toInt = (σ55 68 1).toInt := (congrArg Int32.toInt (show σ160 68 1 = (σ55 68 1) from ((congrFun (jnp 68 eσ160 (of_decide_eq_true rfl)) 1).trans ((congrFun (jnp 68 eσ146 (of_decide_eq_true rfl)) 1).trans ((congrFun (jnp 68 eσ135 (of_decide_eq_true rfl)) 1).trans ((congrFun (f128 68 (of_decide_eq_true rfl)) 1).trans (congrFun (f110 68 (of_decide_eq_true rfl)) 1)))))))
                              have z235 : (σ160 68 2).toInt = (σ55 68 2).toInt := (congrArg Int32.toInt (show σ160 68 2 = (σ55 68 2) from ((congrFun (jnp 68 eσ160 (of_decide_eq_true rfl)) 2).trans ((congrFun (jnp 68 eσ146 (of_decide_eq_true rfl)) 2).trans ((congrFun (jnp 68 eσ135 (of_decide_eq_true rfl)) 2).trans ((congrFun (f128 68 (of_decide_eq_true rfl)) 2).trans (congrFun (f110 68 (of_decide_eq_true rfl)) 2)))))))
                              have z236 : (σ160 68 3).toInt = (σ55 68 3).toInt := (congrArg Int32.toInt (show σ160 68 3 = (σ55 68 3) from ((congrFun (jnp 68 eσ160 (of_decide_eq_true rfl)) 3).trans ((congrFun (jnp 68 eσ146 (of_decide_eq_true rfl)) 3).trans ((congrFun (jnp 68 eσ135 (of_decide_eq_true rfl)) 3).trans ((congrFun (f128 68 (of_decide_eq_true rfl)) 3).trans (congrFun (f110 68 (of_decide_eq_true rfl)) 3)))))))
                              exact by
                               refine jcallV (As := [.int r109, .int 1]) (rest := []) ⟨hx, hb, hml, hown, hts⟩ hK hP hA hS hZ (c_X12_goes_1 l D cI cL ad zz hJ σ160 τ r109 (r109.toInt) rfl w228 (by omega) (by omega) (by omega) (by omega) (by omega)) cw_RX12_296 (jc_55 cI cL ad σ160 τ) rfl ⟨Nat.le_of_ble_eq_true rfl, Nat.le_of_ble_eq_true rfl⟩ rfl rfl rfl hl.1 rfl (Nat.le_of_ble_eq_true rfl) dX12_game_183 ⟨Nat.zero_le _, Nat.zero_le _⟩ (fun r238 σ237 τ237 H locs h237 hP hS => ?_)
                               obtain ⟨rfl, f239, f240, w241, w242, w243, h237⟩ := h237
                               obtain ⟨k245, k246, k247, h237⟩ := h237
                               have h248 := h237
                               obtain ⟨q254, k249, k250, k251, k252, k253⟩ := h248
                               refine lv_istore (lv' := [(9, .int r238), (3, .int x155), (4, .int x151), (8, .int r127), (7, .int x120), (6, .int r109), (5, .int x50), (0, .ref (ad 55)), (1, .int a1), (2, .int a2)]) hx hb dX12_game_186 hl (of_decide_eq_true rfl) rfl (fun ls hl => ?_)
                               refine lv_iload_n hx hb dX12_game_188 rfl (lv_at hl 1 rfl) ?_
                               refine lv_ldcw (v := 1103515245) hx hb hown (hts _ kw_46_14) dX12_game_189 ?_
                               have g255 := jrg (rfl : x155.toInt = x155.toInt)
                               refine lv_imul hx hb dX12_game_192 ?_
                               refine lv_topi (fun x256 ex256 => ?_)
                               have gx256 := jrg (rfl : x256.toInt = x256.toInt)
                               refine lv_sipush (v := 12345) hx hb dX12_game_193 (of_decide_eq_true rfl) ?_
                               have g257 := jrg (rfl : x256.toInt = x256.toInt)
                               refine lv_iadd hx hb dX12_game_196 ?_
                               refine lv_topi (fun x258 ex258 => ?_)
                               have gx258 := jrg (rfl : x258.toInt = x258.toInt)
                               refine lv_istore_n (lv' := [(3, .int x258), (9, .int r238), (4, .int x151), (8, .int r127), (7, .int x120), (6, .int r109), (5, .int x50), (0, .ref (ad 55)), (1, .int a1), (2, .int a2)]) hx hb dX12_game_197 rfl hl (of_decide_eq_true rfl) rfl (fun ls hl => ?_)
                               refine lv_iload_n hx hb dX12_game_198 rfl (lv_at hl 0 rfl) ?_
                               refine lv_bipush (v := 8) hx hb dX12_game_199 (of_decide_eq_true rfl) ?_
                               refine lv_iushr hx hb dX12_game_201 rfl ?_
                               refine lv_topi (fun x259 ex259 => ?_)
                               have gx259 := jrg (rfl : x259.toInt = x259.toInt)
                               have g260 : 0 ≤ x259.toInt ∧ x259.toInt ≤ 16777215 := jushr8 ex259
                               refine lv_sipush (v := 1000) hx hb dX12_game_202 (of_decide_eq_true rfl) ?_
                               refine lv_irem hx hb dX12_game_205 (of_decide_eq_true rfl) ?_
                               refine lv_topi (fun x261 ex261 => ?_)
                               exact by
                                have tx261 : x261.toInt = (x259.toInt % 1000) := jrem ex261 rfl jz_1000 (by omega)
                                refine lv_aload_n hx hb dX12_game_206 rfl (lv_at hl 7 rfl) ?_
                                refine va_get (D := D) hx hb hts inlX12 hown hK hP 55 (jc_55 cI cL ad σ237 τ) rfl 13 (of_decide_eq_true rfl) (hts _ kw_15_14) (fun _ h9 => h9) rfl dX12_game_207 ?_
                                have m262 : σ237 55 13 = (σ 55 13) := ((f240 13 (of_decide_eq_true rfl)).trans ((congrFun (jnp 55 eσ160 (of_decide_eq_true rfl)) 13).trans ((congrFun (jnp 55 eσ146 (of_decide_eq_true rfl)) 13).trans ((congrFun (jnp 55 eσ135 (of_decide_eq_true rfl)) 13).trans ((f129 13 (of_decide_eq_true rfl)).trans ((f111 13 (of_decide_eq_true rfl)).trans ((f75 13 (of_decide_eq_true rfl)).trans ((jkp 13 eσ45 (of_decide_eq_true rfl)).trans ((f43 13 (of_decide_eq_true rfl)).trans (f25 13 (of_decide_eq_true rfl)))))))))))
                                refine jtopr m262 ?_
                                refine lv_icmp_ge (tgt := 217) hx hb dX12_game_210 (of_decide_eq_true rfl) (fun c263 => ?_) (fun c263 => ?_)
                                · have kc263 := jle c263 rfl tx261
                                  refine lv_iconst (v := 0) hx hb dX12_game_217 (of_decide_eq_true rfl) ?_
                                  refine lv_istore (lv' := [(5, .int 0), (3, .int x258), (9, .int r238), (4, .int x151), (8, .int r127), (7, .int x120), (6, .int r109), (0, .ref (ad 55)), (1, .int a1), (2, .int a2)]) hx hb dX12_game_218 hl (of_decide_eq_true rfl) rfl (fun ls hl => ?_)
                                  refine lv_aload_n hx hb dX12_game_220 rfl (lv_at hl 7 rfl) ?_
                                  refine lv_dup hx hb dX12_game_221 rfl ?_
                                  refine va_get (D := D) hx hb hts inlX12 hown hK hP 55 (jc_55 cI cL ad σ237 τ) rfl 50 (of_decide_eq_true rfl) (hts _ kw_46_13) (fun _ h9 => h9) rfl dX12_game_222 ?_
                                  have m264 : σ237 55 50 = (σ55 55 50) := ((f240 50 (of_decide_eq_true rfl)).trans m161)
                                  refine jtopr m264 ?_
                                  refine lv_iconst (v := 1) hx hb dX12_game_225 (of_decide_eq_true rfl) ?_
                                  have g265 := jrg (rfl : (σ55 55 50).toInt = (σ55 55 50).toInt)
                                  refine lv_iadd hx hb dX12_game_226 ?_
                                  refine lv_topi (fun x266 ex266 => ?_)
                                  exact by
                                   have tx266 : x266.toInt = (σ55 55 50).toInt + 1 := (jadd ex266 rfl jz_1 (by omega) (by omega)).trans (by omega)
                                   refine jput (ty := .int) hx hb hts inlX12 tyX12 tyX12_ok nmX12 hown hK hP hJ hA hS (jc_55 cI cL ad σ237 τ) rfl (k := 50) (of_decide_eq_true rfl) (Nat.le_of_ble_eq_true rfl) (jp_55_50 cI cL ad σ237 τ x266) (hts _ kw_46_13) (fun _ h9 => h9) rfl (by decide +kernel) rfl rfl dX12_game_227 (fun σ267 H locs eσ267 hP hS => ?_)
                                   refine lv_goto (tgt := 43) hx hb dX12_game_230 (of_decide_eq_true rfl) ?_
                                   have z268 : (σ267 55 12).toInt = (σ 55 12).toInt := (congrArg Int32.toInt (show σ267 55 12 = (σ 55 12) from ((jkp 12 eσ267 (of_decide_eq_true rfl)).trans ((f240 12 (of_decide_eq_true rfl)).trans ((congrFun (jnp 55 eσ160 (of_decide_eq_true rfl)) 12).trans ((congrFun (jnp 55 eσ146 (of_decide_eq_true rfl)) 12).trans ((congrFun (jnp 55 eσ135 (of_decide_eq_true rfl)) 12).trans ((f129 12 (of_decide_eq_true rfl)).trans ((f111 12 (of_decide_eq_true rfl)).trans ((f75 12 (of_decide_eq_true rfl)).trans ((jkp 12 eσ45 (of_decide_eq_true rfl)).trans ((f43 12 (of_decide_eq_true rfl)).trans (f25 12 (of_decide_eq_true rfl))))))))))))))
                                   have z269 : (σ267 55 26).toInt = (σ237 55 26).toInt := (congrArg Int32.toInt (show σ267 55 26 = (σ237 55 26) from (jkp 26 eσ267 (of_decide_eq_true rfl))))
                                   have z270 : (σ267 55 25).toInt = (σ237 55 25).toInt := (congrArg Int32.toInt (show σ267 55 25 = (σ237 55 25) from (jkp 25 eσ267 (of_decide_eq_true rfl))))
                                   have z271 : (σ267 55 10).toInt = (σ 55 10).toInt := (congrArg Int32.toInt (show σ267 55 10 = (σ 55 10) from ((jkp 10 eσ267 (of_decide_eq_true rfl)).trans ((f240 10 (of_decide_eq_true rfl)).trans ((congrFun (jnp 55 eσ160 (of_decide_eq_true rfl)) 10).trans ((congrFun (jnp 55 eσ146 (of_decide_eq_true rfl)) 10).trans ((congrFun (jnp 55 eσ135 (of_decide_eq_true rfl)) 10).trans ((f129 10 (of_decide_eq_true rfl)).trans ((f111 10 (of_decide_eq_true rfl)).trans ((f75 10 (of_decide_eq_true rfl)).trans ((jkp 10 eσ45 (of_decide_eq_true rfl)).trans ((f43 10 (of_decide_eq_true rfl)).trans (f25 10 (of_decide_eq_true rfl))))))))))))))
                                   have z272 : (σ267 55 27).toInt = (σ237 55 27).toInt := (congrArg Int32.toInt (show σ267 55 27 = (σ237 55 27) from (jkp 27 eσ267 (of_decide_eq_true rfl))))
                                   have z273 : (σ267 55 50).toInt = (σ55 55 50).toInt + 1 := ((congrArg Int32.toInt (show σ267 55 50 = x266 from (jsp eσ267))).trans tx266)
                                   have p274 : jKept σ267 := jKept.fr ((jnp 75 eσ267 (of_decide_eq_true rfl)).trans ((f239 75 (of_decide_eq_true rfl)).trans ((jnp 75 eσ160 (of_decide_eq_true rfl)).trans ((jnp 75 eσ146 (of_decide_eq_true rfl)).trans ((jnp 75 eσ135 (of_decide_eq_true rfl)).trans (f128 75 (of_decide_eq_true rfl))))))) ((jnp 76 eσ267 (of_decide_eq_true rfl)).trans ((f239 76 (of_decide_eq_true rfl)).trans ((jnp 76 eσ160 (of_decide_eq_true rfl)).trans ((jnp 76 eσ146 (of_decide_eq_true rfl)).trans ((jnp 76 eσ135 (of_decide_eq_true rfl)).trans (f128 76 (of_decide_eq_true rfl))))))) ((jnp 77 eσ267 (of_decide_eq_true rfl)).trans ((f239 77 (of_decide_eq_true rfl)).trans ((jnp 77 eσ160 (of_decide_eq_true rfl)).trans ((jnp 77 eσ146 (of_decide_eq_true rfl)).trans ((jnp 77 eσ135 (of_decide_eq_true rfl)).trans (f128 77 (of_decide_eq_true rfl))))))) p112
                                   have I275 : jI109 σ267 := (show 0 ≤ (σ267 55 50).toInt ∧ (σ267 55 50).toInt ≤ 12 by omega)
                                   have w276 : ∀ k : Nat, k < 4 → 0 ≤ (σ267 68 k).toInt ∧ (σ267 68 k).toInt ≤ 3 := (jrr_fr (jnp 68 eσ267 (of_decide_eq_true rfl)) w241)
                                   have I277 : jI119 σ267 := w276
                                   exact by exact ihlp46 x258 x151 0 σ267 _ _ ls (by have h92 := jz_0; omega) (by have h92 := jz_0; omega) (by have h92 := jz_0; omega) (by have h92 := jz_0; omega) (by have h92 := jz_0; omega) (by have h92 := jz_0; omega) (by have h92 := jz_0; omega) (fun i hi => ((jnp i eσ267 (imp_282 i hi)).trans ((f239 i (imp_284 i hi)).trans ((jnp i eσ160 (imp_289 i hi)).trans ((jnp i eσ146 (imp_290 i hi)).trans ((jnp i eσ135 (imp_291 i hi)).trans ((f128 i (imp_292 i hi)).trans ((f110 i (imp_293 i hi)).trans (f74 i hi))))))))) (fun i hi => ((jkp i eσ267 (imp_294 i hi)).trans ((f240 i (imp_295 i hi)).trans ((congrFun (jnp 55 eσ160 (of_decide_eq_true rfl)) i).trans ((congrFun (jnp 55 eσ146 (of_decide_eq_true rfl)) i).trans ((congrFun (jnp 55 eσ135 (of_decide_eq_true rfl)) i).trans ((f129 i (imp_296 i hi)).trans ((f111 i (imp_297 i hi)).trans (f75 i hi)))))))))  p274 I275 I277 hP hS (lv_sub hl [0, 3, 1, 7, 8, 9] rfl)
                                · have kc263 := jnle c263 rfl tx261
                                  refine lv_iconst (v := 1) hx hb dX12_game_213 (of_decide_eq_true rfl) ?_
                                  refine lv_goto (tgt := 218) hx hb dX12_game_214 (of_decide_eq_true rfl) ?_
                                  refine lv_istore (lv' := [(5, .int 1), (3, .int x258), (9, .int r238), (4, .int x151), (8, .int r127), (7, .int x120), (6, .int r109), (0, .ref (ad 55)), (1, .int a1), (2, .int a2)]) hx hb dX12_game_218 hl (of_decide_eq_true rfl) rfl (fun ls hl => ?_)
                                  refine lv_aload_n hx hb dX12_game_220 rfl (lv_at hl 7 rfl) ?_
                                  refine lv_dup hx hb dX12_game_221 rfl ?_
                                  refine va_get (D := D) hx hb hts inlX12 hown hK hP 55 (jc_55 cI cL ad σ237 τ) rfl 50 (of_decide_eq_true rfl) (hts _ kw_46_13) (fun _ h9 => h9) rfl dX12_game_222 ?_
                                  have m278 : σ237 55 50 = (σ55 55 50) := ((f240 50 (of_decide_eq_true rfl)).trans m161)
                                  refine jtopr m278 ?_
                                  refine lv_iconst (v := 1) hx hb dX12_game_225 (of_decide_eq_true rfl) ?_
                                  have g279 := jrg (rfl : (σ55 55 50).toInt = (σ55 55 50).toInt)
                                  refine lv_iadd hx hb dX12_game_226 ?_
                                  refine lv_topi (fun x280 ex280 => ?_)
                                  exact by
                                   have tx280 : x280.toInt = (σ55 55 50).toInt + 1 := (jadd ex280 rfl jz_1 (by omega) (by omega)).trans (by omega)
                                   refine jput (ty := .int) hx hb hts inlX12 tyX12 tyX12_ok nmX12 hown hK hP hJ hA hS (jc_55 cI cL ad σ237 τ) rfl (k := 50) (of_decide_eq_true rfl) (Nat.le_of_ble_eq_true rfl) (jp_55_50 cI cL ad σ237 τ x280) (hts _ kw_46_13) (fun _ h9 => h9) rfl (by decide +kernel) rfl rfl dX12_game_227 (fun σ281 H locs eσ281 hP hS => ?_)
                                   refine lv_goto (tgt := 43) hx hb dX12_game_230 (of_decide_eq_true rfl) ?_
                                   have z282 : (σ281 55 12).toInt = (σ 55 12).toInt := (congrArg Int32.toInt (show σ281 55 12 = (σ 55 12) from ((jkp 12 eσ281 (of_decide_eq_true rfl)).trans ((f240 12 (of_decide_eq_true rfl)).trans ((congrFun (jnp 55 eσ160 (of_decide_eq_true rfl)) 12).trans ((congrFun (jnp 55 eσ146 (of_decide_eq_true rfl)) 12).trans ((congrFun (jnp 55 eσ135 (of_decide_eq_true rfl)) 12).trans ((f129 12 (of_decide_eq_true rfl)).trans ((f111 12 (of_decide_eq_true rfl)).trans ((f75 12 (of_decide_eq_true rfl)).trans ((jkp 12 eσ45 (of_decide_eq_true rfl)).trans ((f43 12 (of_decide_eq_true rfl)).trans (f25 12 (of_decide_eq_true rfl))))))))))))))
                                   have z283 : (σ281 55 26).toInt = (σ237 55 26).toInt := (congrArg Int32.toInt (show σ281 55 26 = (σ237 55 26) from (jkp 26 eσ281 (of_decide_eq_true rfl))))
                                   have z284 : (σ281 55 25).toInt = (σ237 55 25).toInt := (congrArg Int32.toInt (show σ281 55 25 = (σ237 55 25) from (jkp 25 eσ281 (of_decide_eq_true rfl))))
                                   have z285 : (σ281 55 10).toInt = (σ 55 10).toInt := (congrArg Int32.toInt (show σ281 55 10 = (σ 55 10) from ((jkp 10 eσ281 (of_decide_eq_true rfl)).trans ((f240 10 (of_decide_eq_true rfl)).trans ((congrFun (jnp 55 eσ160 (of_decide_eq_true rfl)) 10).trans ((congrFun (jnp 55 eσ146 (of_decide_eq_true rfl)) 10).trans ((congrFun (jnp 55 eσ135 (of_decide_eq_true rfl)) 10).trans ((f129 10 (of_decide_eq_true rfl)).trans ((f111 10 (of_decide_eq_true rfl)).trans ((f75 10 (of_decide_eq_true rfl)).trans ((jkp 10 eσ45 (of_decide_eq_true rfl)).trans ((f43 10 (of_decide_eq_true rfl)).trans (f25 10 (of_decide_eq_true rfl))))))))))))))
                                   have z286 : (σ281 55 27).toInt = (σ237 55 27).toInt := (congrArg Int32.toInt (show σ281 55 27 = (σ237 55 27) from (jkp 27 eσ281 (of_decide_eq_true rfl))))
                                   have z287 : (σ281 55 50).toInt = (σ55 55 50).toInt + 1 := ((congrArg Int32.toInt (show σ281 55 50 = x280 from (jsp eσ281))).trans tx280)
                                   have p288 : jKept σ281 := jKept.fr ((jnp 75 eσ281 (of_decide_eq_true rfl)).trans ((f239 75 (of_decide_eq_true rfl)).trans ((jnp 75 eσ160 (of_decide_eq_true rfl)).trans ((jnp 75 eσ146 (of_decide_eq_true rfl)).trans ((jnp 75 eσ135 (of_decide_eq_true rfl)).trans (f128 75 (of_decide_eq_true rfl))))))) ((jnp 76 eσ281 (of_decide_eq_true rfl)).trans ((f239 76 (of_decide_eq_true rfl)).trans ((jnp 76 eσ160 (of_decide_eq_true rfl)).trans ((jnp 76 eσ146 (of_decide_eq_true rfl)).trans ((jnp 76 eσ135 (of_decide_eq_true rfl)).trans (f128 76 (of_decide_eq_true rfl))))))) ((jnp 77 eσ281 (of_decide_eq_true rfl)).trans ((f239 77 (of_decide_eq_true rfl)).trans ((jnp 77 eσ160 (of_decide_eq_true rfl)).trans ((jnp 77 eσ146 (of_decide_eq_true rfl)).trans ((jnp 77 eσ135 (of_decide_eq_true rfl)).trans (f128 77 (of_decide_eq_true rfl))))))) p112
                                   have I289 : jI109 σ281 := (show 0 ≤ (σ281 55 50).toInt ∧ (σ281 55 50).toInt ≤ 12 by omega)
                                   have w290 : ∀ k : Nat, k < 4 → 0 ≤ (σ281 68 k).toInt ∧ (σ281 68 k).toInt ≤ 3 := (jrr_fr (jnp 68 eσ281 (of_decide_eq_true rfl)) w241)
                                   have I291 : jI119 σ281 := w290
                                   exact by exact ihlp46 x258 x151 1 σ281 _ _ ls (by have h92 := jz_1; omega) (by have h92 := jz_1; omega) (by have h92 := jz_1; omega) (by have h92 := jz_1; omega) (by have h92 := jz_1; omega) (by have h92 := jz_1; omega) (by have h92 := jz_1; omega) (fun i hi => ((jnp i eσ281 (imp_282 i hi)).trans ((f239 i (imp_284 i hi)).trans ((jnp i eσ160 (imp_289 i hi)).trans ((jnp i eσ146 (imp_290 i hi)).trans ((jnp i eσ135 (imp_291 i hi)).trans ((f128 i (imp_292 i hi)).trans ((f110 i (imp_293 i hi)).trans (f74 i hi))))))))) (fun i hi => ((jkp i eσ281 (imp_294 i hi)).trans ((f240 i (imp_295 i hi)).trans ((congrFun (jnp 55 eσ160 (of_decide_eq_true rfl)) i).trans ((congrFun (jnp 55 eσ146 (of_decide_eq_true rfl)) i).trans ((congrFun (jnp 55 eσ135 (of_decide_eq_true rfl)) i).trans ((f129 i (imp_296 i hi)).trans ((f111 i (imp_297 i hi)).trans (f75 i hi)))))))))  p288 I289 I291 hP hS (lv_sub hl [0, 3, 1, 7, 8, 9] rfl)
                         · have kc159 := jnle c159 rfl tx158
                           refine lv_iconst (v := 1) hx hb dX12_game_156 (of_decide_eq_true rfl) ?_
                           refine lv_goto (tgt := 161) hx hb dX12_game_157 (of_decide_eq_true rfl) ?_
                           exact by
                            refine jast hx hb hK hP hJ hA hS (jc_84 cI cL ad σ146 τ) (ja_84 cI cL ad σ146 τ _ _) (jin rfl (by omega) (by omega)) dX12_game_161 (fun σ292 H locs eσ292 hP hS => ?_)
                            refine lv_aload_n hx hb dX12_game_162 rfl (lv_at hl 6 rfl) ?_
                            refine lv_iload hx hb dX12_game_163 (lv_at hl 4 rfl) ?_
                            refine lv_aload_n hx hb dX12_game_165 rfl (lv_at hl 6 rfl) ?_
                            refine va_get (D := D) hx hb hts inlX12 hown hK hP 55 (jc_55 cI cL ad σ292 τ) rfl 53 (of_decide_eq_true rfl) (hts _ kw_8_9) (fun _ h9 => h9) rfl dX12_game_166 ?_
                            refine lv_aload_n hx hb dX12_game_169 rfl (lv_at hl 6 rfl) ?_
                            refine va_get (D := D) hx hb hts inlX12 hown hK hP 55 (jc_55 cI cL ad σ292 τ) rfl 50 (of_decide_eq_true rfl) (hts _ kw_46_13) (fun _ h9 => h9) rfl dX12_game_170 ?_
                            have m293 : σ292 55 50 = (σ55 55 50) := ((congrFun (jnp 55 eσ292 (of_decide_eq_true rfl)) 50).trans m147)
                            refine jtopr m293 ?_
                            exact by
                             refine jald hx hb hK hP (jc_84 cI cL ad σ292 τ) (jin rfl (by omega) (by omega)) dX12_game_173 ?_
                             refine lv_topi (fun x294 ex294 => ?_)
                             refine lv_iconst (v := 1) hx hb dX12_game_174 (of_decide_eq_true rfl) ?_
                             refine lv_icmp_ne (tgt := 182) hx hb dX12_game_175 (of_decide_eq_true rfl) (fun c295 => ?_) (fun c295 => ?_)
                             · have kc295 := jne c295 rfl jz_1
                               refine lv_iconst (v := 0) hx hb dX12_game_182 (of_decide_eq_true rfl) ?_
                               have w296 : ∀ k : Nat, k < 4 → 0 ≤ (σ292 68 k).toInt ∧ (σ292 68 k).toInt ≤ 3 := (jrr_fr (jnp 68 eσ292 (of_decide_eq_true rfl)) (jrr_fr (jnp 68 eσ146 (of_decide_eq_true rfl)) w140))
                               have z297 : (σ292 55 6).toInt = (σ 55 6).toInt := (congrArg Int32.toInt (show σ292 55 6 = (σ 55 6) from ((congrFun (jnp 55 eσ292 (of_decide_eq_true rfl)) 6).trans ((congrFun (jnp 55 eσ146 (of_decide_eq_true rfl)) 6).trans ((congrFun (jnp 55 eσ135 (of_decide_eq_true rfl)) 6).trans ((f129 6 (of_decide_eq_true rfl)).trans ((f111 6 (of_decide_eq_true rfl)).trans ((f75 6 (of_decide_eq_true rfl)).trans ((jkp 6 eσ45 (of_decide_eq_true rfl)).trans ((f43 6 (of_decide_eq_true rfl)).trans (f25 6 (of_decide_eq_true rfl))))))))))))
                               have z298 : (σ292 55 27).toInt = (σ55 55 27).toInt := (congrArg Int32.toInt (show σ292 55 27 = (σ55 55 27) from ((congrFun (jnp 55 eσ292 (of_decide_eq_true rfl)) 27).trans ((congrFun (jnp 55 eσ146 (of_decide_eq_true rfl)) 27).trans ((congrFun (jnp 55 eσ135 (of_decide_eq_true rfl)) 27).trans ((f129 27 (of_decide_eq_true rfl)).trans (f111 27 (of_decide_eq_true rfl))))))))
                               have z299 : (σ292 55 25).toInt = (σ55 55 25).toInt := (congrArg Int32.toInt (show σ292 55 25 = (σ55 55 25) from ((congrFun (jnp 55 eσ292 (of_decide_eq_true rfl)) 25).trans ((congrFun (jnp 55 eσ146 (of_decide_eq_true rfl)) 25).trans ((congrFun (jnp 55 eσ135 (of_decide_eq_true rfl)) 25).trans ((f129 25 (of_decide_eq_true rfl)).trans m117))))))
                               have z300 : (σ292 55 26).toInt = (σ55 55 26).toInt := (congrArg Int32.toInt (show σ292 55 26 = (σ55 55 26) from ((congrFun (jnp 55 eσ292 (of_decide_eq_true rfl)) 26).trans ((congrFun (jnp 55 eσ146 (of_decide_eq_true rfl)) 26).trans ((congrFun (jnp 55 eσ135 (of_decide_eq_true rfl)) 26).trans ((f129 26 (of_decide_eq_true rfl)).trans (f111 26 (of_decide_eq_true rfl))))))))
                               have z301 : (σ292 68 0).toInt = (σ55 68 0).toInt := (congrArg Int32.toInt (show σ292 68 0 = (σ55 68 0) from ((congrFun (jnp 68 eσ292 (of_decide_eq_true rfl)) 0).trans ((congrFun (jnp 68 eσ146 (of_decide_eq_true rfl)) 0).trans ((congrFun (jnp 68 eσ135 (of_decide_eq_true rfl)) 0).trans ((congrFun (f128 68 (of_decide_eq_true rfl)) 0).trans (congrFun (f110 68 (of_decide_eq_true rfl)) 0)))))))
                               have z302 : (σ292 68 1).toInt = (σ55 68 1).toInt := (congrArg Int32.toInt (show σ292 68 1 = (σ55 68 1) from ((congrFun (jnp 68 eσ292 (of_decide_eq_true rfl)) 1).trans ((congrFun (jnp 68 eσ146 (of_decide_eq_true rfl)) 1).trans ((congrFun (jnp 68 eσ135 (of_decide_eq_true rfl)) 1).trans ((congrFun (f128 68 (of_decide_eq_true rfl)) 1).trans (congrFun (f110 68 (of_decide_eq_true rfl)) 1)))))))
                               have z303 : (σ292 68 2).toInt = (σ55 68 2).toInt := (congrArg Int32.toInt (show σ292 68 2 = (σ55 68 2) from ((congrFun (jnp 68 eσ292 (of_decide_eq_true rfl)) 2).trans ((congrFun (jnp 68 eσ146 (of_decide_eq_true rfl)) 2).trans ((congrFun (jnp 68 eσ135 (of_decide_eq_true rfl)) 2).trans ((congrFun (f128 68 (of_decide_eq_true rfl)) 2).trans (congrFun (f110 68 (of_decide_eq_true rfl)) 2)))))))
                               have z304 : (σ292 68 3).toInt = (σ55 68 3).toInt := (congrArg Int32.toInt (show σ292 68 3 = (σ55 68 3) from ((congrFun (jnp 68 eσ292 (of_decide_eq_true rfl)) 3).trans ((congrFun (jnp 68 eσ146 (of_decide_eq_true rfl)) 3).trans ((congrFun (jnp 68 eσ135 (of_decide_eq_true rfl)) 3).trans ((congrFun (f128 68 (of_decide_eq_true rfl)) 3).trans (congrFun (f110 68 (of_decide_eq_true rfl)) 3)))))))
                               exact by
                                refine jcallV (As := [.int r109, .int 0]) (rest := []) ⟨hx, hb, hml, hown, hts⟩ hK hP hA hS hZ (c_X12_goes_0 l D cI cL ad zz hJ σ292 τ r109 (r109.toInt) rfl w296 (by omega) (by omega) (by omega) (by omega) (by omega)) cw_RX12_296 (jc_55 cI cL ad σ292 τ) rfl ⟨Nat.le_of_ble_eq_true rfl, Nat.le_of_ble_eq_true rfl⟩ rfl rfl rfl hl.1 rfl (Nat.le_of_ble_eq_true rfl) dX12_game_183 ⟨Nat.zero_le _, Nat.zero_le _⟩ (fun r306 σ305 τ305 H locs h305 hP hS => ?_)
                                obtain ⟨rfl, f307, f308, w309, w310, w311, h305⟩ := h305
                                obtain ⟨k313, k314, k315, h305⟩ := h305
                                have h316 := h305
                                obtain ⟨q322, k317, k318, k319, k320, k321⟩ := h316
                                refine lv_istore (lv' := [(9, .int r306), (3, .int x155), (4, .int x151), (8, .int r127), (7, .int x120), (6, .int r109), (5, .int x50), (0, .ref (ad 55)), (1, .int a1), (2, .int a2)]) hx hb dX12_game_186 hl (of_decide_eq_true rfl) rfl (fun ls hl => ?_)
                                refine lv_iload_n hx hb dX12_game_188 rfl (lv_at hl 1 rfl) ?_
                                refine lv_ldcw (v := 1103515245) hx hb hown (hts _ kw_46_14) dX12_game_189 ?_
                                have g323 := jrg (rfl : x155.toInt = x155.toInt)
                                refine lv_imul hx hb dX12_game_192 ?_
                                refine lv_topi (fun x324 ex324 => ?_)
                                have gx324 := jrg (rfl : x324.toInt = x324.toInt)
                                refine lv_sipush (v := 12345) hx hb dX12_game_193 (of_decide_eq_true rfl) ?_
                                have g325 := jrg (rfl : x324.toInt = x324.toInt)
                                refine lv_iadd hx hb dX12_game_196 ?_
                                refine lv_topi (fun x326 ex326 => ?_)
                                have gx326 := jrg (rfl : x326.toInt = x326.toInt)
                                refine lv_istore_n (lv' := [(3, .int x326), (9, .int r306), (4, .int x151), (8, .int r127), (7, .int x120), (6, .int r109), (5, .int x50), (0, .ref (ad 55)), (1, .int a1), (2, .int a2)]) hx hb dX12_game_197 rfl hl (of_decide_eq_true rfl) rfl (fun ls hl => ?_)
                                refine lv_iload_n hx hb dX12_game_198 rfl (lv_at hl 0 rfl) ?_
                                refine lv_bipush (v := 8) hx hb dX12_game_199 (of_decide_eq_true rfl) ?_
                                refine lv_iushr hx hb dX12_game_201 rfl ?_
                                refine lv_topi (fun x327 ex327 => ?_)
                                have gx327 := jrg (rfl : x327.toInt = x327.toInt)
                                have g328 : 0 ≤ x327.toInt ∧ x327.toInt ≤ 16777215 := jushr8 ex327
                                refine lv_sipush (v := 1000) hx hb dX12_game_202 (of_decide_eq_true rfl) ?_
                                refine lv_irem hx hb dX12_game_205 (of_decide_eq_true rfl) ?_
                                refine lv_topi (fun x329 ex329 => ?_)
                                exact by
                                 have tx329 : x329.toInt = (x327.toInt % 1000) := jrem ex329 rfl jz_1000 (by omega)
                                 refine lv_aload_n hx hb dX12_game_206 rfl (lv_at hl 7 rfl) ?_
                                 refine va_get (D := D) hx hb hts inlX12 hown hK hP 55 (jc_55 cI cL ad σ305 τ) rfl 13 (of_decide_eq_true rfl) (hts _ kw_15_14) (fun _ h9 => h9) rfl dX12_game_207 ?_
                                 have m330 : σ305 55 13 = (σ 55 13) := ((f308 13 (of_decide_eq_true rfl)).trans ((congrFun (jnp 55 eσ292 (of_decide_eq_true rfl)) 13).trans ((congrFun (jnp 55 eσ146 (of_decide_eq_true rfl)) 13).trans ((congrFun (jnp 55 eσ135 (of_decide_eq_true rfl)) 13).trans ((f129 13 (of_decide_eq_true rfl)).trans ((f111 13 (of_decide_eq_true rfl)).trans ((f75 13 (of_decide_eq_true rfl)).trans ((jkp 13 eσ45 (of_decide_eq_true rfl)).trans ((f43 13 (of_decide_eq_true rfl)).trans (f25 13 (of_decide_eq_true rfl)))))))))))
                                 refine jtopr m330 ?_
                                 refine lv_icmp_ge (tgt := 217) hx hb dX12_game_210 (of_decide_eq_true rfl) (fun c331 => ?_) (fun c331 => ?_)
                                 · have kc331 := jle c331 rfl tx329
                                   refine lv_iconst (v := 0) hx hb dX12_game_217 (of_decide_eq_true rfl) ?_
                                   refine lv_istore (lv' := [(5, .int 0), (3, .int x326), (9, .int r306), (4, .int x151), (8, .int r127), (7, .int x120), (6, .int r109), (0, .ref (ad 55)), (1, .int a1), (2, .int a2)]) hx hb dX12_game_218 hl (of_decide_eq_true rfl) rfl (fun ls hl => ?_)
                                   refine lv_aload_n hx hb dX12_game_220 rfl (lv_at hl 7 rfl) ?_
                                   refine lv_dup hx hb dX12_game_221 rfl ?_
                                   refine va_get (D := D) hx hb hts inlX12 hown hK hP 55 (jc_55 cI cL ad σ305 τ) rfl 50 (of_decide_eq_true rfl) (hts _ kw_46_13) (fun _ h9 => h9) rfl dX12_game_222 ?_
                                   have m332 : σ305 55 50 = (σ55 55 50) := ((f308 50 (of_decide_eq_true rfl)).trans m293)
                                   refine jtopr m332 ?_
                                   refine lv_iconst (v := 1) hx hb dX12_game_225 (of_decide_eq_true rfl) ?_
                                   have g333 := jrg (rfl : (σ55 55 50).toInt = (σ55 55 50).toInt)
                                   refine lv_iadd hx hb dX12_game_226 ?_
                                   refine lv_topi (fun x334 ex334 => ?_)
                                   exact by
                                    have tx334 : x334.toInt = (σ55 55 50).toInt + 1 := (jadd ex334 rfl jz_1 (by omega) (by omega)).trans (by omega)
                                    refine jput (ty := .int) hx hb hts inlX12 tyX12 tyX12_ok nmX12 hown hK hP hJ hA hS (jc_55 cI cL ad σ305 τ) rfl (k := 50) (of_decide_eq_true rfl) (Nat.le_of_ble_eq_true rfl) (jp_55_50 cI cL ad σ305 τ x334) (hts _ kw_46_13) (fun _ h9 => h9) rfl (by decide +kernel) rfl rfl dX12_game_227 (fun σ335 H locs eσ335 hP hS => ?_)
                                    refine lv_goto (tgt := 43) hx hb dX12_game_230 (of_decide_eq_true rfl) ?_
                                    have z336 : (σ335 55 12).toInt = (σ 55 12).toInt := (congrArg Int32.toInt (show σ335 55 12 = (σ 55 12) from ((jkp 12 eσ335 (of_decide_eq_true rfl)).trans ((f308 12 (of_decide_eq_true rfl)).trans ((congrFun (jnp 55 eσ292 (of_decide_eq_true rfl)) 12).trans ((congrFun (jnp 55 eσ146 (of_decide_eq_true rfl)) 12).trans ((congrFun (jnp 55 eσ135 (of_decide_eq_true rfl)) 12).trans ((f129 12 (of_decide_eq_true rfl)).trans ((f111 12 (of_decide_eq_true rfl)).trans ((f75 12 (of_decide_eq_true rfl)).trans ((jkp 12 eσ45 (of_decide_eq_true rfl)).trans ((f43 12 (of_decide_eq_true rfl)).trans (f25 12 (of_decide_eq_true rfl))))))))))))))
                                    have z337 : (σ335 55 26).toInt = (σ305 55 26).toInt := (congrArg Int32.toInt (show σ335 55 26 = (σ305 55 26) from (jkp 26 eσ335 (of_decide_eq_true rfl))))
                                    have z338 : (σ335 55 25).toInt = (σ305 55 25).toInt := (congrArg Int32.toInt (show σ335 55 25 = (σ305 55 25) from (jkp 25 eσ335 (of_decide_eq_true rfl))))
                                    have z339 : (σ335 55 10).toInt = (σ 55 10).toInt := (congrArg Int32.toInt (show σ335 55 10 = (σ 55 10) from ((jkp 10 eσ335 (of_decide_eq_true rfl)).trans ((f308 10 (of_decide_eq_true rfl)).trans ((congrFun (jnp 55 eσ292 (of_decide_eq_true rfl)) 10).trans ((congrFun (jnp 55 eσ146 (of_decide_eq_true rfl)) 10).trans ((congrFun (jnp 55 eσ135 (of_decide_eq_true rfl)) 10).trans ((f129 10 (of_decide_eq_true rfl)).trans ((f111 10 (of_decide_eq_true rfl)).trans ((f75 10 (of_decide_eq_true rfl)).trans ((jkp 10 eσ45 (of_decide_eq_true rfl)).trans ((f43 10 (of_decide_eq_true rfl)).trans (f25 10 (of_decide_eq_true rfl))))))))))))))
                                    have z340 : (σ335 55 27).toInt = (σ305 55 27).toInt := (congrArg Int32.toInt (show σ335 55 27 = (σ305 55 27) from (jkp 27 eσ335 (of_decide_eq_true rfl))))
                                    have z341 : (σ335 55 50).toInt = (σ55 55 50).toInt + 1 := ((congrArg Int32.toInt (show σ335 55 50 = x334 from (jsp eσ335))).trans tx334)
                                    have p342 : jKept σ335 := jKept.fr ((jnp 75 eσ335 (of_decide_eq_true rfl)).trans ((f307 75 (of_decide_eq_true rfl)).trans ((jnp 75 eσ292 (of_decide_eq_true rfl)).trans ((jnp 75 eσ146 (of_decide_eq_true rfl)).trans ((jnp 75 eσ135 (of_decide_eq_true rfl)).trans (f128 75 (of_decide_eq_true rfl))))))) ((jnp 76 eσ335 (of_decide_eq_true rfl)).trans ((f307 76 (of_decide_eq_true rfl)).trans ((jnp 76 eσ292 (of_decide_eq_true rfl)).trans ((jnp 76 eσ146 (of_decide_eq_true rfl)).trans ((jnp 76 eσ135 (of_decide_eq_true rfl)).trans (f128 76 (of_decide_eq_true rfl))))))) ((jnp 77 eσ335 (of_decide_eq_true rfl)).trans ((f307 77 (of_decide_eq_true rfl)).trans ((jnp 77 eσ292 (of_decide_eq_true rfl)).trans ((jnp 77 eσ146 (of_decide_eq_true rfl)).trans ((jnp 77 eσ135 (of_decide_eq_true rfl)).trans (f128 77 (of_decide_eq_true rfl))))))) p112
                                    have I343 : jI109 σ335 := (show 0 ≤ (σ335 55 50).toInt ∧ (σ335 55 50).toInt ≤ 12 by omega)
                                    have w344 : ∀ k : Nat, k < 4 → 0 ≤ (σ335 68 k).toInt ∧ (σ335 68 k).toInt ≤ 3 := (jrr_fr (jnp 68 eσ335 (of_decide_eq_true rfl)) w309)
                                    have I345 : jI119 σ335 := w344
                                    exact by exact ihlp46 x326 x151 0 σ335 _ _ ls (by have h92 := jz_0; omega) (by have h92 := jz_0; omega) (by have h92 := jz_0; omega) (by have h92 := jz_0; omega) (by have h92 := jz_0; omega) (by have h92 := jz_0; omega) (by have h92 := jz_0; omega) (fun i hi => ((jnp i eσ335 (imp_282 i hi)).trans ((f307 i (imp_284 i hi)).trans ((jnp i eσ292 (imp_289 i hi)).trans ((jnp i eσ146 (imp_290 i hi)).trans ((jnp i eσ135 (imp_291 i hi)).trans ((f128 i (imp_292 i hi)).trans ((f110 i (imp_293 i hi)).trans (f74 i hi))))))))) (fun i hi => ((jkp i eσ335 (imp_294 i hi)).trans ((f308 i (imp_295 i hi)).trans ((congrFun (jnp 55 eσ292 (of_decide_eq_true rfl)) i).trans ((congrFun (jnp 55 eσ146 (of_decide_eq_true rfl)) i).trans ((congrFun (jnp 55 eσ135 (of_decide_eq_true rfl)) i).trans ((f129 i (imp_296 i hi)).trans ((f111 i (imp_297 i hi)).trans (f75 i hi)))))))))  p342 I343 I345 hP hS (lv_sub hl [0, 3, 1, 7, 8, 9] rfl)
                                 · have kc331 := jnle c331 rfl tx329
                                   refine lv_iconst (v := 1) hx hb dX12_game_213 (of_decide_eq_true rfl) ?_
                                   refine lv_goto (tgt := 218) hx hb dX12_game_214 (of_decide_eq_true rfl) ?_
                                   refine lv_istore (lv' := [(5, .int 1), (3, .int x326), (9, .int r306), (4, .int x151), (8, .int r127), (7, .int x120), (6, .int r109), (0, .ref (ad 55)), (1, .int a1), (2, .int a2)]) hx hb dX12_game_218 hl (of_decide_eq_true rfl) rfl (fun ls hl => ?_)
                                   refine lv_aload_n hx hb dX12_game_220 rfl (lv_at hl 7 rfl) ?_
                                   refine lv_dup hx hb dX12_game_221 rfl ?_
                                   refine va_get (D := D) hx hb hts inlX12 hown hK hP 55 (jc_55 cI cL ad σ305 τ) rfl 50 (of_decide_eq_true rfl) (hts _ kw_46_13) (fun _ h9 => h9) rfl dX12_game_222 ?_
                                   have m346 : σ305 55 50 = (σ55 55 50) := ((f308 50 (of_decide_eq_true rfl)).trans m293)
                                   refine jtopr m346 ?_
                                   refine lv_iconst (v := 1) hx hb dX12_game_225 (of_decide_eq_true rfl) ?_
                                   have g347 := jrg (rfl : (σ55 55 50).toInt = (σ55 55 50).toInt)
                                   refine lv_iadd hx hb dX12_game_226 ?_
                                   refine lv_topi (fun x348 ex348 => ?_)
                                   exact by
                                    have tx348 : x348.toInt = (σ55 55 50).toInt + 1 := (jadd ex348 rfl jz_1 (by omega) (by omega)).trans (by omega)
                                    refine jput (ty := .int) hx hb hts inlX12 tyX12 tyX12_ok nmX12 hown hK hP hJ hA hS (jc_55 cI cL ad σ305 τ) rfl (k := 50) (of_decide_eq_true rfl) (Nat.le_of_ble_eq_true rfl) (jp_55_50 cI cL ad σ305 τ x348) (hts _ kw_46_13) (fun _ h9 => h9) rfl (by decide +kernel) rfl rfl dX12_game_227 (fun σ349 H locs eσ349 hP hS => ?_)
                                    refine lv_goto (tgt := 43) hx hb dX12_game_230 (of_decide_eq_true rfl) ?_
                                    have z350 : (σ349 55 12).toInt = (σ 55 12).toInt := (congrArg Int32.toInt (show σ349 55 12 = (σ 55 12) from ((jkp 12 eσ349 (of_decide_eq_true rfl)).trans ((f308 12 (of_decide_eq_true rfl)).trans ((congrFun (jnp 55 eσ292 (of_decide_eq_true rfl)) 12).trans ((congrFun (jnp 55 eσ146 (of_decide_eq_true rfl)) 12).trans ((congrFun (jnp 55 eσ135 (of_decide_eq_true rfl)) 12).trans ((f129 12 (of_decide_eq_true rfl)).trans ((f111 12 (of_decide_eq_true rfl)).trans ((f75 12 (of_decide_eq_true rfl)).trans ((jkp 12 eσ45 (of_decide_eq_true rfl)).trans ((f43 12 (of_decide_eq_true rfl)).trans (f25 12 (of_decide_eq_true rfl))))))))))))))
                                    have z351 : (σ349 55 26).toInt = (σ305 55 26).toInt := (congrArg Int32.toInt (show σ349 55 26 = (σ305 55 26) from (jkp 26 eσ349 (of_decide_eq_true rfl))))
                                    have z352 : (σ349 55 25).toInt = (σ305 55 25).toInt := (congrArg Int32.toInt (show σ349 55 25 = (σ305 55 25) from (jkp 25 eσ349 (of_decide_eq_true rfl))))
                                    have z353 : (σ349 55 10).toInt = (σ 55 10).toInt := (congrArg Int32.toInt (show σ349 55 10 = (σ 55 10) from ((jkp 10 eσ349 (of_decide_eq_true rfl)).trans ((f308 10 (of_decide_eq_true rfl)).trans ((congrFun (jnp 55 eσ292 (of_decide_eq_true rfl)) 10).trans ((congrFun (jnp 55 eσ146 (of_decide_eq_true rfl)) 10).trans ((congrFun (jnp 55 eσ135 (of_decide_eq_true rfl)) 10).trans ((f129 10 (of_decide_eq_true rfl)).trans ((f111 10 (of_decide_eq_true rfl)).trans ((f75 10 (of_decide_eq_true rfl)).trans ((jkp 10 eσ45 (of_decide_eq_true rfl)).trans ((f43 10 (of_decide_eq_true rfl)).trans (f25 10 (of_decide_eq_true rfl))))))))))))))
                                    have z354 : (σ349 55 27).toInt = (σ305 55 27).toInt := (congrArg Int32.toInt (show σ349 55 27 = (σ305 55 27) from (jkp 27 eσ349 (of_decide_eq_true rfl))))
                                    have z355 : (σ349 55 50).toInt = (σ55 55 50).toInt + 1 := ((congrArg Int32.toInt (show σ349 55 50 = x348 from (jsp eσ349))).trans tx348)
                                    have p356 : jKept σ349 := jKept.fr ((jnp 75 eσ349 (of_decide_eq_true rfl)).trans ((f307 75 (of_decide_eq_true rfl)).trans ((jnp 75 eσ292 (of_decide_eq_true rfl)).trans ((jnp 75 eσ146 (of_decide_eq_true rfl)).trans ((jnp 75 eσ135 (of_decide_eq_true rfl)).trans (f128 75 (of_decide_eq_true rfl))))))) ((jnp 76 eσ349 (of_decide_eq_true rfl)).trans ((f307 76 (of_decide_eq_true rfl)).trans ((jnp 76 eσ292 (of_decide_eq_true rfl)).trans ((jnp 76 eσ146 (of_decide_eq_true rfl)).trans ((jnp 76 eσ135 (of_decide_eq_true rfl)).trans (f128 76 (of_decide_eq_true rfl))))))) ((jnp 77 eσ349 (of_decide_eq_true rfl)).trans ((f307 77 (of_decide_eq_true rfl)).trans ((jnp 77 eσ292 (of_decide_eq_true rfl)).trans ((jnp 77 eσ146 (of_decide_eq_true rfl)).trans ((jnp 77 eσ135 (of_decide_eq_true rfl)).trans (f128 77 (of_decide_eq_true rfl))))))) p112
                                    have I357 : jI109 σ349 := (show 0 ≤ (σ349 55 50).toInt ∧ (σ349 55 50).toInt ≤ 12 by omega)
                                    have w358 : ∀ k : Nat, k < 4 → 0 ≤ (σ349 68 k).toInt ∧ (σ349 68 k).toInt ≤ 3 := (jrr_fr (jnp 68 eσ349 (of_decide_eq_true rfl)) w309)
                                    have I359 : jI119 σ349 := w358
                                    exact by exact ihlp46 x326 x151 1 σ349 _ _ ls (by have h92 := jz_1; omega) (by have h92 := jz_1; omega) (by have h92 := jz_1; omega) (by have h92 := jz_1; omega) (by have h92 := jz_1; omega) (by have h92 := jz_1; omega) (by have h92 := jz_1; omega) (fun i hi => ((jnp i eσ349 (imp_282 i hi)).trans ((f307 i (imp_284 i hi)).trans ((jnp i eσ292 (imp_289 i hi)).trans ((jnp i eσ146 (imp_290 i hi)).trans ((jnp i eσ135 (imp_291 i hi)).trans ((f128 i (imp_292 i hi)).trans ((f110 i (imp_293 i hi)).trans (f74 i hi))))))))) (fun i hi => ((jkp i eσ349 (imp_294 i hi)).trans ((f308 i (imp_295 i hi)).trans ((congrFun (jnp 55 eσ292 (of_decide_eq_true rfl)) i).trans ((congrFun (jnp 55 eσ146 (of_decide_eq_true rfl)) i).trans ((congrFun (jnp 55 eσ135 (of_decide_eq_true rfl)) i).trans ((f129 i (imp_296 i hi)).trans ((f111 i (imp_297 i hi)).trans (f75 i hi)))))))))  p356 I357 I359 hP hS (lv_sub hl [0, 3, 1, 7, 8, 9] rfl)
                             · have kc295 := jeq c295 rfl jz_1
                               refine lv_iconst (v := 1) hx hb dX12_game_178 (of_decide_eq_true rfl) ?_
                               refine lv_goto (tgt := 183) hx hb dX12_game_179 (of_decide_eq_true rfl) ?_
                               have w360 : ∀ k : Nat, k < 4 → 0 ≤ (σ292 68 k).toInt ∧ (σ292 68 k).toInt ≤ 3 := (jrr_fr (jnp 68 eσ292 (of_decide_eq_true rfl)) (jrr_fr (jnp 68 eσ146 (of_decide_eq_true rfl)) w140))
                               have z361 : (σ292 55 6).toInt = (σ 55 6).toInt := (congrArg Int32.toInt (show σ292 55 6 = (σ 55 6) from ((congrFun (jnp 55 eσ292 (of_decide_eq_true rfl)) 6).trans ((congrFun (jnp 55 eσ146 (of_decide_eq_true rfl)) 6).trans ((congrFun (jnp 55 eσ135 (of_decide_eq_true rfl)) 6).trans ((f129 6 (of_decide_eq_true rfl)).trans ((f111 6 (of_decide_eq_true rfl)).trans ((f75 6 (of_decide_eq_true rfl)).trans ((jkp 6 eσ45 (of_decide_eq_true rfl)).trans ((f43 6 (of_decide_eq_true rfl)).trans (f25 6 (of_decide_eq_true rfl))))))))))))
                               have z362 : (σ292 55 27).toInt = (σ55 55 27).toInt := (congrArg Int32.toInt (show σ292 55 27 = (σ55 55 27) from ((congrFun (jnp 55 eσ292 (of_decide_eq_true rfl)) 27).trans ((congrFun (jnp 55 eσ146 (of_decide_eq_true rfl)) 27).trans ((congrFun (jnp 55 eσ135 (of_decide_eq_true rfl)) 27).trans ((f129 27 (of_decide_eq_true rfl)).trans (f111 27 (of_decide_eq_true rfl))))))))
                               have z363 : (σ292 55 25).toInt = (σ55 55 25).toInt := (congrArg Int32.toInt (show σ292 55 25 = (σ55 55 25) from ((congrFun (jnp 55 eσ292 (of_decide_eq_true rfl)) 25).trans ((congrFun (jnp 55 eσ146 (of_decide_eq_true rfl)) 25).trans ((congrFun (jnp 55 eσ135 (of_decide_eq_true rfl)) 25).trans ((f129 25 (of_decide_eq_true rfl)).trans m117))))))
                               have z364 : (σ292 55 26).toInt = (σ55 55 26).toInt := (congrArg Int32.toInt (show σ292 55 26 = (σ55 55 26) from ((congrFun (jnp 55 eσ292 (of_decide_eq_true rfl)) 26).trans ((congrFun (jnp 55 eσ146 (of_decide_eq_true rfl)) 26).trans ((congrFun (jnp 55 eσ135 (of_decide_eq_true rfl)) 26).trans ((f129 26 (of_decide_eq_true rfl)).trans (f111 26 (of_decide_eq_true rfl))))))))
                               have z365 : (σ292 68 0).toInt = (σ55 68 0).toInt := (congrArg Int32.toInt (show σ292 68 0 = (σ55 68 0) from ((congrFun (jnp 68 eσ292 (of_decide_eq_true rfl)) 0).trans ((congrFun (jnp 68 eσ146 (of_decide_eq_true rfl)) 0).trans ((congrFun (jnp 68 eσ135 (of_decide_eq_true rfl)) 0).trans ((congrFun (f128 68 (of_decide_eq_true rfl)) 0).trans (congrFun (f110 68 (of_decide_eq_true rfl)) 0)))))))
                               have z366 : (σ292 68 1).toInt = (σ55 68 1).toInt := (congrArg Int32.toInt (show σ292 68 1 = (σ55 68 1) from ((congrFun (jnp 68 eσ292 (of_decide_eq_true rfl)) 1).trans ((congrFun (jnp 68 eσ146 (of_decide_eq_true rfl)) 1).trans ((congrFun (jnp 68 eσ135 (of_decide_eq_true rfl)) 1).trans ((congrFun (f128 68 (of_decide_eq_true rfl)) 1).trans (congrFun (f110 68 (of_decide_eq_true rfl)) 1)))))))
                               have z367 : (σ292 68 2).toInt = (σ55 68 2).toInt := (congrArg Int32.toInt (show σ292 68 2 = (σ55 68 2) from ((congrFun (jnp 68 eσ292 (of_decide_eq_true rfl)) 2).trans ((congrFun (jnp 68 eσ146 (of_decide_eq_true rfl)) 2).trans ((congrFun (jnp 68 eσ135 (of_decide_eq_true rfl)) 2).trans ((congrFun (f128 68 (of_decide_eq_true rfl)) 2).trans (congrFun (f110 68 (of_decide_eq_true rfl)) 2)))))))
                               have z368 : (σ292 68 3).toInt = (σ55 68 3).toInt := (congrArg Int32.toInt (show σ292 68 3 = (σ55 68 3) from ((congrFun (jnp 68 eσ292 (of_decide_eq_true rfl)) 3).trans ((congrFun (jnp 68 eσ146 (of_decide_eq_true rfl)) 3).trans ((congrFun (jnp 68 eσ135 (of_decide_eq_true rfl)) 3).trans ((congrFun (f128 68 (of_decide_eq_true rfl)) 3).trans (congrFun (f110 68 (of_decide_eq_true rfl)) 3)))))))
                               exact by
                                refine jcallV (As := [.int r109, .int 1]) (rest := []) ⟨hx, hb, hml, hown, hts⟩ hK hP hA hS hZ (c_X12_goes_1 l D cI cL ad zz hJ σ292 τ r109 (r109.toInt) rfl w360 (by omega) (by omega) (by omega) (by omega) (by omega)) cw_RX12_296 (jc_55 cI cL ad σ292 τ) rfl ⟨Nat.le_of_ble_eq_true rfl, Nat.le_of_ble_eq_true rfl⟩ rfl rfl rfl hl.1 rfl (Nat.le_of_ble_eq_true rfl) dX12_game_183 ⟨Nat.zero_le _, Nat.zero_le _⟩ (fun r370 σ369 τ369 H locs h369 hP hS => ?_)
                                obtain ⟨rfl, f371, f372, w373, w374, w375, h369⟩ := h369
                                obtain ⟨k377, k378, k379, h369⟩ := h369
                                have h380 := h369
                                obtain ⟨q386, k381, k382, k383, k384, k385⟩ := h380
                                refine lv_istore (lv' := [(9, .int r370), (3, .int x155), (4, .int x151), (8, .int r127), (7, .int x120), (6, .int r109), (5, .int x50), (0, .ref (ad 55)), (1, .int a1), (2, .int a2)]) hx hb dX12_game_186 hl (of_decide_eq_true rfl) rfl (fun ls hl => ?_)
                                refine lv_iload_n hx hb dX12_game_188 rfl (lv_at hl 1 rfl) ?_
                                refine lv_ldcw (v := 1103515245) hx hb hown (hts _ kw_46_14) dX12_game_189 ?_
                                have g387 := jrg (rfl : x155.toInt = x155.toInt)
                                refine lv_imul hx hb dX12_game_192 ?_
                                refine lv_topi (fun x388 ex388 => ?_)
                                have gx388 := jrg (rfl : x388.toInt = x388.toInt)
                                refine lv_sipush (v := 12345) hx hb dX12_game_193 (of_decide_eq_true rfl) ?_
                                have g389 := jrg (rfl : x388.toInt = x388.toInt)
                                refine lv_iadd hx hb dX12_game_196 ?_
                                refine lv_topi (fun x390 ex390 => ?_)
                                have gx390 := jrg (rfl : x390.toInt = x390.toInt)
                                refine lv_istore_n (lv' := [(3, .int x390), (9, .int r370), (4, .int x151), (8, .int r127), (7, .int x120), (6, .int r109), (5, .int x50), (0, .ref (ad 55)), (1, .int a1), (2, .int a2)]) hx hb dX12_game_197 rfl hl (of_decide_eq_true rfl) rfl (fun ls hl => ?_)
                                refine lv_iload_n hx hb dX12_game_198 rfl (lv_at hl 0 rfl) ?_
                                refine lv_bipush (v := 8) hx hb dX12_game_199 (of_decide_eq_true rfl) ?_
                                refine lv_iushr hx hb dX12_game_201 rfl ?_
                                refine lv_topi (fun x391 ex391 => ?_)
                                have gx391 := jrg (rfl : x391.toInt = x391.toInt)
                                have g392 : 0 ≤ x391.toInt ∧ x391.toInt ≤ 16777215 := jushr8 ex391
                                refine lv_sipush (v := 1000) hx hb dX12_game_202 (of_decide_eq_true rfl) ?_
                                refine lv_irem hx hb dX12_game_205 (of_decide_eq_true rfl) ?_
                                refine lv_topi (fun x393 ex393 => ?_)
                                exact by
                                 have tx393 : x393.toInt = (x391.toInt % 1000) := jrem ex393 rfl jz_1000 (by omega)
                                 refine lv_aload_n hx hb dX12_game_206 rfl (lv_at hl 7 rfl) ?_
                                 refine va_get (D := D) hx hb hts inlX12 hown hK hP 55 (jc_55 cI cL ad σ369 τ) rfl 13 (of_decide_eq_true rfl) (hts _ kw_15_14) (fun _ h9 => h9) rfl dX12_game_207 ?_
                                 have m394 : σ369 55 13 = (σ 55 13) := ((f372 13 (of_decide_eq_true rfl)).trans ((congrFun (jnp 55 eσ292 (of_decide_eq_true rfl)) 13).trans ((congrFun (jnp 55 eσ146 (of_decide_eq_true rfl)) 13).trans ((congrFun (jnp 55 eσ135 (of_decide_eq_true rfl)) 13).trans ((f129 13 (of_decide_eq_true rfl)).trans ((f111 13 (of_decide_eq_true rfl)).trans ((f75 13 (of_decide_eq_true rfl)).trans ((jkp 13 eσ45 (of_decide_eq_true rfl)).trans ((f43 13 (of_decide_eq_true rfl)).trans (f25 13 (of_decide_eq_true rfl)))))))))))
                                 refine jtopr m394 ?_
                                 refine lv_icmp_ge (tgt := 217) hx hb dX12_game_210 (of_decide_eq_true rfl) (fun c395 => ?_) (fun c395 => ?_)
                                 · have kc395 := jle c395 rfl tx393
                                   refine lv_iconst (v := 0) hx hb dX12_game_217 (of_decide_eq_true rfl) ?_
                                   refine lv_istore (lv' := [(5, .int 0), (3, .int x390), (9, .int r370), (4, .int x151), (8, .int r127), (7, .int x120), (6, .int r109), (0, .ref (ad 55)), (1, .int a1), (2, .int a2)]) hx hb dX12_game_218 hl (of_decide_eq_true rfl) rfl (fun ls hl => ?_)
                                   refine lv_aload_n hx hb dX12_game_220 rfl (lv_at hl 7 rfl) ?_
                                   refine lv_dup hx hb dX12_game_221 rfl ?_
                                   refine va_get (D := D) hx hb hts inlX12 hown hK hP 55 (jc_55 cI cL ad σ369 τ) rfl 50 (of_decide_eq_true rfl) (hts _ kw_46_13) (fun _ h9 => h9) rfl dX12_game_222 ?_
                                   have m396 : σ369 55 50 = (σ55 55 50) := ((f372 50 (of_decide_eq_true rfl)).trans m293)
                                   refine jtopr m396 ?_
                                   refine lv_iconst (v := 1) hx hb dX12_game_225 (of_decide_eq_true rfl) ?_
                                   have g397 := jrg (rfl : (σ55 55 50).toInt = (σ55 55 50).toInt)
                                   refine lv_iadd hx hb dX12_game_226 ?_
                                   refine lv_topi (fun x398 ex398 => ?_)
                                   exact by
                                    have tx398 : x398.toInt = (σ55 55 50).toInt + 1 := (jadd ex398 rfl jz_1 (by omega) (by omega)).trans (by omega)
                                    refine jput (ty := .int) hx hb hts inlX12 tyX12 tyX12_ok nmX12 hown hK hP hJ hA hS (jc_55 cI cL ad σ369 τ) rfl (k := 50) (of_decide_eq_true rfl) (Nat.le_of_ble_eq_true rfl) (jp_55_50 cI cL ad σ369 τ x398) (hts _ kw_46_13) (fun _ h9 => h9) rfl (by decide +kernel) rfl rfl dX12_game_227 (fun σ399 H locs eσ399 hP hS => ?_)
                                    refine lv_goto (tgt := 43) hx hb dX12_game_230 (of_decide_eq_true rfl) ?_
                                    have z400 : (σ399 55 12).toInt = (σ 55 12).toInt := (congrArg Int32.toInt (show σ399 55 12 = (σ 55 12) from ((jkp 12 eσ399 (of_decide_eq_true rfl)).trans ((f372 12 (of_decide_eq_true rfl)).trans ((congrFun (jnp 55 eσ292 (of_decide_eq_true rfl)) 12).trans ((congrFun (jnp 55 eσ146 (of_decide_eq_true rfl)) 12).trans ((congrFun (jnp 55 eσ135 (of_decide_eq_true rfl)) 12).trans ((f129 12 (of_decide_eq_true rfl)).trans ((f111 12 (of_decide_eq_true rfl)).trans ((f75 12 (of_decide_eq_true rfl)).trans ((jkp 12 eσ45 (of_decide_eq_true rfl)).trans ((f43 12 (of_decide_eq_true rfl)).trans (f25 12 (of_decide_eq_true rfl))))))))))))))
                                    have z401 : (σ399 55 26).toInt = (σ369 55 26).toInt := (congrArg Int32.toInt (show σ399 55 26 = (σ369 55 26) from (jkp 26 eσ399 (of_decide_eq_true rfl))))
                                    have z402 : (σ399 55 25).toInt = (σ369 55 25).toInt := (congrArg Int32.toInt (show σ399 55 25 = (σ369 55 25) from (jkp 25 eσ399 (of_decide_eq_true rfl))))
                                    have z403 : (σ399 55 10).toInt = (σ 55 10).toInt := (congrArg Int32.toInt (show σ399 55 10 = (σ 55 10) from ((jkp 10 eσ399 (of_decide_eq_true rfl)).trans ((f372 10 (of_decide_eq_true rfl)).trans ((congrFun (jnp 55 eσ292 (of_decide_eq_true rfl)) 10).trans ((congrFun (jnp 55 eσ146 (of_decide_eq_true rfl)) 10).trans ((congrFun (jnp 55 eσ135 (of_decide_eq_true rfl)) 10).trans ((f129 10 (of_decide_eq_true rfl)).trans ((f111 10 (of_decide_eq_true rfl)).trans ((f75 10 (of_decide_eq_true rfl)).trans ((jkp 10 eσ45 (of_decide_eq_true rfl)).trans ((f43 10 (of_decide_eq_true rfl)).trans (f25 10 (of_decide_eq_true rfl))))))))))))))
                                    have z404 : (σ399 55 27).toInt = (σ369 55 27).toInt := (congrArg Int32.toInt (show σ399 55 27 = (σ369 55 27) from (jkp 27 eσ399 (of_decide_eq_true rfl))))
                                    have z405 : (σ399 55 50).toInt = (σ55 55 50).toInt + 1 := ((congrArg Int32.toInt (show σ399 55 50 = x398 from (jsp eσ399))).trans tx398)
                                    have p406 : jKept σ399 := jKept.fr ((jnp 75 eσ399 (of_decide_eq_true rfl)).trans ((f371 75 (of_decide_eq_true rfl)).trans ((jnp 75 eσ292 (of_decide_eq_true rfl)).trans ((jnp 75 eσ146 (of_decide_eq_true rfl)).trans ((jnp 75 eσ135 (of_decide_eq_true rfl)).trans (f128 75 (of_decide_eq_true rfl))))))) ((jnp 76 eσ399 (of_decide_eq_true rfl)).trans ((f371 76 (of_decide_eq_true rfl)).trans ((jnp 76 eσ292 (of_decide_eq_true rfl)).trans ((jnp 76 eσ146 (of_decide_eq_true rfl)).trans ((jnp 76 eσ135 (of_decide_eq_true rfl)).trans (f128 76 (of_decide_eq_true rfl))))))) ((jnp 77 eσ399 (of_decide_eq_true rfl)).trans ((f371 77 (of_decide_eq_true rfl)).trans ((jnp 77 eσ292 (of_decide_eq_true rfl)).trans ((jnp 77 eσ146 (of_decide_eq_true rfl)).trans ((jnp 77 eσ135 (of_decide_eq_true rfl)).trans (f128 77 (of_decide_eq_true rfl))))))) p112
                                    have I407 : jI109 σ399 := (show 0 ≤ (σ399 55 50).toInt ∧ (σ399 55 50).toInt ≤ 12 by omega)
                                    have w408 : ∀ k : Nat, k < 4 → 0 ≤ (σ399 68 k).toInt ∧ (σ399 68 k).toInt ≤ 3 := (jrr_fr (jnp 68 eσ399 (of_decide_eq_true rfl)) w373)
                                    have I409 : jI119 σ399 := w408
                                    exact by exact ihlp46 x390 x151 0 σ399 _ _ ls (by have h92 := jz_0; omega) (by have h92 := jz_0; omega) (by have h92 := jz_0; omega) (by have h92 := jz_0; omega) (by have h92 := jz_0; omega) (by have h92 := jz_0; omega) (by have h92 := jz_0; omega) (fun i hi => ((jnp i eσ399 (imp_282 i hi)).trans ((f371 i (imp_284 i hi)).trans ((jnp i eσ292 (imp_289 i hi)).trans ((jnp i eσ146 (imp_290 i hi)).trans ((jnp i eσ135 (imp_291 i hi)).trans ((f128 i (imp_292 i hi)).trans ((f110 i (imp_293 i hi)).trans (f74 i hi))))))))) (fun i hi => ((jkp i eσ399 (imp_294 i hi)).trans ((f372 i (imp_295 i hi)).trans ((congrFun (jnp 55 eσ292 (of_decide_eq_true rfl)) i).trans ((congrFun (jnp 55 eσ146 (of_decide_eq_true rfl)) i).trans ((congrFun (jnp 55 eσ135 (of_decide_eq_true rfl)) i).trans ((f129 i (imp_296 i hi)).trans ((f111 i (imp_297 i hi)).trans (f75 i hi)))))))))  p406 I407 I409 hP hS (lv_sub hl [0, 3, 1, 7, 8, 9] rfl)
                                 · have kc395 := jnle c395 rfl tx393
                                   refine lv_iconst (v := 1) hx hb dX12_game_213 (of_decide_eq_true rfl) ?_
                                   refine lv_goto (tgt := 218) hx hb dX12_game_214 (of_decide_eq_true rfl) ?_
                                   refine lv_istore (lv' := [(5, .int 1), (3, .int x390), (9, .int r370), (4, .int x151), (8, .int r127), (7, .int x120), (6, .int r109), (0, .ref (ad 55)), (1, .int a1), (2, .int a2)]) hx hb dX12_game_218 hl (of_decide_eq_true rfl) rfl (fun ls hl => ?_)
                                   refine lv_aload_n hx hb dX12_game_220 rfl (lv_at hl 7 rfl) ?_
                                   refine lv_dup hx hb dX12_game_221 rfl ?_
                                   refine va_get (D := D) hx hb hts inlX12 hown hK hP 55 (jc_55 cI cL ad σ369 τ) rfl 50 (of_decide_eq_true rfl) (hts _ kw_46_13) (fun _ h9 => h9) rfl dX12_game_222 ?_
                                   have m410 : σ369 55 50 = (σ55 55 50) := ((f372 50 (of_decide_eq_true rfl)).trans m293)
                                   refine jtopr m410 ?_
                                   refine lv_iconst (v := 1) hx hb dX12_game_225 (of_decide_eq_true rfl) ?_
                                   have g411 := jrg (rfl : (σ55 55 50).toInt = (σ55 55 50).toInt)
                                   refine lv_iadd hx hb dX12_game_226 ?_
                                   refine lv_topi (fun x412 ex412 => ?_)
                                   exact by
                                    have tx412 : x412.toInt = (σ55 55 50).toInt + 1 := (jadd ex412 rfl jz_1 (by omega) (by omega)).trans (by omega)
                                    refine jput (ty := .int) hx hb hts inlX12 tyX12 tyX12_ok nmX12 hown hK hP hJ hA hS (jc_55 cI cL ad σ369 τ) rfl (k := 50) (of_decide_eq_true rfl) (Nat.le_of_ble_eq_true rfl) (jp_55_50 cI cL ad σ369 τ x412) (hts _ kw_46_13) (fun _ h9 => h9) rfl (by decide +kernel) rfl rfl dX12_game_227 (fun σ413 H locs eσ413 hP hS => ?_)
                                    refine lv_goto (tgt := 43) hx hb dX12_game_230 (of_decide_eq_true rfl) ?_
                                    have z414 : (σ413 55 12).toInt = (σ 55 12).toInt := (congrArg Int32.toInt (show σ413 55 12 = (σ 55 12) from ((jkp 12 eσ413 (of_decide_eq_true rfl)).trans ((f372 12 (of_decide_eq_true rfl)).trans ((congrFun (jnp 55 eσ292 (of_decide_eq_true rfl)) 12).trans ((congrFun (jnp 55 eσ146 (of_decide_eq_true rfl)) 12).trans ((congrFun (jnp 55 eσ135 (of_decide_eq_true rfl)) 12).trans ((f129 12 (of_decide_eq_true rfl)).trans ((f111 12 (of_decide_eq_true rfl)).trans ((f75 12 (of_decide_eq_true rfl)).trans ((jkp 12 eσ45 (of_decide_eq_true rfl)).trans ((f43 12 (of_decide_eq_true rfl)).trans (f25 12 (of_decide_eq_true rfl))))))))))))))
                                    have z415 : (σ413 55 26).toInt = (σ369 55 26).toInt := (congrArg Int32.toInt (show σ413 55 26 = (σ369 55 26) from (jkp 26 eσ413 (of_decide_eq_true rfl))))
                                    have z416 : (σ413 55 25).toInt = (σ369 55 25).toInt := (congrArg Int32.toInt (show σ413 55 25 = (σ369 55 25) from (jkp 25 eσ413 (of_decide_eq_true rfl))))
                                    have z417 : (σ413 55 10).toInt = (σ 55 10).toInt := (congrArg Int32.toInt (show σ413 55 10 = (σ 55 10) from ((jkp 10 eσ413 (of_decide_eq_true rfl)).trans ((f372 10 (of_decide_eq_true rfl)).trans ((congrFun (jnp 55 eσ292 (of_decide_eq_true rfl)) 10).trans ((congrFun (jnp 55 eσ146 (of_decide_eq_true rfl)) 10).trans ((congrFun (jnp 55 eσ135 (of_decide_eq_true rfl)) 10).trans ((f129 10 (of_decide_eq_true rfl)).trans ((f111 10 (of_decide_eq_true rfl)).trans ((f75 10 (of_decide_eq_true rfl)).trans ((jkp 10 eσ45 (of_decide_eq_true rfl)).trans ((f43 10 (of_decide_eq_true rfl)).trans (f25 10 (of_decide_eq_true rfl))))))))))))))
                                    have z418 : (σ413 55 27).toInt = (σ369 55 27).toInt := (congrArg Int32.toInt (show σ413 55 27 = (σ369 55 27) from (jkp 27 eσ413 (of_decide_eq_true rfl))))
                                    have z419 : (σ413 55 50).toInt = (σ55 55 50).toInt + 1 := ((congrArg Int32.toInt (show σ413 55 50 = x412 from (jsp eσ413))).trans tx412)
                                    have p420 : jKept σ413 := jKept.fr ((jnp 75 eσ413 (of_decide_eq_true rfl)).trans ((f371 75 (of_decide_eq_true rfl)).trans ((jnp 75 eσ292 (of_decide_eq_true rfl)).trans ((jnp 75 eσ146 (of_decide_eq_true rfl)).trans ((jnp 75 eσ135 (of_decide_eq_true rfl)).trans (f128 75 (of_decide_eq_true rfl))))))) ((jnp 76 eσ413 (of_decide_eq_true rfl)).trans ((f371 76 (of_decide_eq_true rfl)).trans ((jnp 76 eσ292 (of_decide_eq_true rfl)).trans ((jnp 76 eσ146 (of_decide_eq_true rfl)).trans ((jnp 76 eσ135 (of_decide_eq_true rfl)).trans (f128 76 (of_decide_eq_true rfl))))))) ((jnp 77 eσ413 (of_decide_eq_true rfl)).trans ((f371 77 (of_decide_eq_true rfl)).trans ((jnp 77 eσ292 (of_decide_eq_true rfl)).trans ((jnp 77 eσ146 (of_decide_eq_true rfl)).trans ((jnp 77 eσ135 (of_decide_eq_true rfl)).trans (f128 77 (of_decide_eq_true rfl))))))) p112
                                    have I421 : jI109 σ413 := (show 0 ≤ (σ413 55 50).toInt ∧ (σ413 55 50).toInt ≤ 12 by omega)
                                    have w422 : ∀ k : Nat, k < 4 → 0 ≤ (σ413 68 k).toInt ∧ (σ413 68 k).toInt ≤ 3 := (jrr_fr (jnp 68 eσ413 (of_decide_eq_true rfl)) w373)
                                    have I423 : jI119 σ413 := w422
                                    exact by exact ihlp46 x390 x151 1 σ413 _ _ ls (by have h92 := jz_1; omega) (by have h92 := jz_1; omega) (by have h92 := jz_1; omega) (by have h92 := jz_1; omega) (by have h92 := jz_1; omega) (by have h92 := jz_1; omega) (by have h92 := jz_1; omega) (fun i hi => ((jnp i eσ413 (imp_282 i hi)).trans ((f371 i (imp_284 i hi)).trans ((jnp i eσ292 (imp_289 i hi)).trans ((jnp i eσ146 (imp_290 i hi)).trans ((jnp i eσ135 (imp_291 i hi)).trans ((f128 i (imp_292 i hi)).trans ((f110 i (imp_293 i hi)).trans (f74 i hi))))))))) (fun i hi => ((jkp i eσ413 (imp_294 i hi)).trans ((f372 i (imp_295 i hi)).trans ((congrFun (jnp 55 eσ292 (of_decide_eq_true rfl)) i).trans ((congrFun (jnp 55 eσ146 (of_decide_eq_true rfl)) i).trans ((congrFun (jnp 55 eσ135 (of_decide_eq_true rfl)) i).trans ((f129 i (imp_296 i hi)).trans ((f111 i (imp_297 i hi)).trans (f75 i hi)))))))))  p420 I421 I423 hP hS (lv_sub hl [0, 3, 1, 7, 8, 9] rfl)
      exact by exact lp46 1000000 a2 0 0 σ45 _ _ ls (by have h90 := t2; have h91 := jz_0; have h92 := jz_0; omega) (by have h90 := t2; have h91 := jz_0; have h92 := jz_0; omega) (by have h90 := t2; have h91 := jz_0; have h92 := jz_0; omega) (by have h90 := t2; have h91 := jz_0; have h92 := jz_0; omega) (by have h90 := t2; have h91 := jz_0; have h92 := jz_0; omega) (by have h90 := t2; have h91 := jz_0; have h92 := jz_0; omega) (by have h90 := t2; have h91 := jz_0; have h92 := jz_0; omega) (fun _ _ => rfl) (fun _ _ => rfl)  p66 I57 I59 hP hS hl
    · have kc20 := jnle c20 rfl jz_8
      refine lv_bipush (v := (-4)) hx hb dX12_game_19 (of_decide_eq_true rfl) ?_
      exact hret (-4) σ τ _ _ _ _ rfl ⟨rfl, (fun _ _ => rfl), (fun _ _ => rfl), hI109, hI119, hs_jKept, trivial⟩ hP hS dX12_game_21
  · obtain ⟨q425, k424⟩ := h17
    have q425 := q425.symm
    subst q425
    refine lv_if_ne (tgt := 10) hx hb dX12_game_5 (of_decide_eq_true rfl) (fun c => absurd (of_decide_eq_true rfl) c) (fun _ => ?_)
    refine lv_iconst (v := (-1)) hx hb dX12_game_8 (of_decide_eq_true rfl) ?_
    exact hret (-1) σ τ _ _ _ _ rfl ⟨rfl, (fun _ _ => rfl), (fun _ _ => rfl), hI109, hI119, hs_jKept, trivial⟩ hP hS dX12_game_9
set_option maxHeartbeats 4000000 in
set_option maxRecDepth 100000 in
theorem c_X12_led (l : Launch) (D : va_G) (cI cL : ClassId) (ad zz : Nat → Nat) (hJ : jD ad) (σ : Nat → Nat → Int32) (τ : Nat → Nat → Int64) (a1 : Int32) (A1 : Int) (t1 : a1.toInt = A1) (a2 : Int32) (A2 : Int) (t2 : a2.toInt = A2) (hI109 : jI109 σ) : jM l yX12_led cX12_led 3 (some .int) ({ frames := 1, cells := 0, slots := 0, locals := 25 }) D cI cL ad zz [.ref (ad 55), .int a1, .int a2] σ τ (fun r σ' τ' => (σ = σ' ∧ τ = τ') ∧ True) := by
  refine jM.of hJ (by decide +kernel) (nt := .int) rfl (Nat.le_of_ble_eq_true rfl) ?_
  intro p e s m args below meth c Q ls hC hret hl hP
  obtain ⟨hx, hb, hr, hml, hown, hts, hK, -, hlocks, hZ⟩ := hC
  have hown : s.vm.findClass RX12 = some m.cls := hown
  have hS : va_S (jA ad) s.heap s.heap [] := va_S.rf
  have hA : ∀ q, jA ad q → jA ad q := fun _ h => h
  have hl : lv_has ls 3 [(0, .ref (ad 55)), (1, .int a1), (2, .int a2)] := hl
  have g1 := jrg t1
  have g2 := jrg t2
  have i1 : 0 ≤ (σ 55 50).toInt ∧ (σ 55 50).toInt ≤ 12 := hI109
  refine lv_iload_n hx hb dX12_led_0 rfl (lv_at hl 1 rfl) ?_
  refine lv_iconst (v := (-1)) hx hb dX12_led_1 (of_decide_eq_true rfl) ?_
  refine lv_icmp_ne (tgt := 18) hx hb dX12_led_2 (of_decide_eq_true rfl) (fun c2 => ?_) (fun c2 => ?_)
  · have kc2 := jne c2 t1 jz_m1
    refine lv_iload_n hx hb dX12_led_18 rfl (lv_at hl 1 rfl) ?_
    refine lv_i2l (v := a1.toInt64) hx hb dX12_led_19 rfl ?_
    refine lv_lconst (v := 0) hx hb dX12_led_20 (of_decide_eq_true rfl) ?_
    refine lv_aload_n hx hb dX12_led_21 rfl (lv_at hl 0 rfl) ?_
    refine va_get (D := D) hx hb hts inlX12 hown hK hP 55 (jc_55 cI cL ad σ τ) rfl 50 (of_decide_eq_true rfl) (hts _ kw_46_13) (fun _ h9 => h9) rfl dX12_led_22 ?_
    refine lv_iconst (v := 1) hx hb dX12_led_25 (of_decide_eq_true rfl) ?_
    have g3 := jrg (rfl : (σ 55 50).toInt = (σ 55 50).toInt)
    refine lv_isub hx hb dX12_led_26 ?_
    refine lv_topi (fun x4 ex4 => ?_)
    exact by
     have tx4 : x4.toInt = (σ 55 50).toInt - 1 := (jsub ex4 rfl jz_1 (by omega) (by omega)).trans (by omega)
     refine lv_i2l (v := x4.toInt64) hx hb dX12_led_27 rfl ?_
     refine jcallS (As := [.long a1.toInt64, .long 0, .long x4.toInt64]) (rest := []) ⟨hx, hb, hml, hown, hts⟩ hK hP hA hS hZ (c_X12_within l D cI cL ad zz hJ σ τ a1.toInt64 (A1) (jtoL t1) 0 (0) jzl_0 x4.toInt64 ((σ 55 50).toInt - 1) (jtoL tx4)) cw_RX12_136 ⟨Nat.le_of_ble_eq_true rfl, Nat.le_of_ble_eq_true rfl⟩ rfl rfl rfl hl.1 rfl (Nat.le_of_ble_eq_true rfl) dX12_led_28 ⟨Nat.zero_le _, Nat.zero_le _⟩ (fun r6 σ5 τ5 H locs h5 hP hS => ?_)
     obtain ⟨⟨rfl, rfl⟩, h5⟩ := h5
     rcases h5 with h7 | h8
     · obtain ⟨q10, k9⟩ := h7
       have q10 := q10.symm
       subst q10
       refine lv_if_ne (tgt := 36) hx hb dX12_led_31 (of_decide_eq_true rfl) (fun _ => ?_) (fun c => absurd c (of_decide_eq_true rfl))
       refine lv_iload_n hx hb dX12_led_36 rfl (lv_at hl 2 rfl) ?_
       by_cases c11 : a2 = 0
       · have kc11 := jeq c11 t2 jz_0
         refine jtopr c11 ?_
         refine lv_tableIn (off := 27) (tgt := 64) hx hb dX12_led_37 (of_decide_eq_true rfl) (of_decide_eq_true rfl) (of_decide_eq_true rfl) (of_decide_eq_true rfl) ?_
         refine lv_aload_n hx hb dX12_led_64 rfl (lv_at hl 0 rfl) ?_
         refine va_get (D := D) hx hb hts inlX12 hown hK hP 55 (jc_55 cI cL ad σ τ) rfl 51 (of_decide_eq_true rfl) (hts _ kw_8_7) (fun _ h9 => h9) rfl dX12_led_65 ?_
         refine lv_iload_n hx hb dX12_led_68 rfl (lv_at hl 1 rfl) ?_
         exact by
          refine jald hx hb hK hP (jc_82 cI cL ad σ τ) (jin t1 (by omega) (by omega)) dX12_led_69 ?_
          refine lv_topi (fun x12 ex12 => ?_)
          exact hret x12 σ τ _ _ _ _ rfl ⟨⟨rfl, rfl⟩, trivial⟩ hP hS dX12_led_70
       have kc11 := jne c11 t2 jz_0
       by_cases c13 : a2 = 1
       · have kc13 := jeq c13 t2 jz_1
         refine jtopr c13 ?_
         refine lv_tableIn (off := 34) (tgt := 71) hx hb dX12_led_37 (of_decide_eq_true rfl) (of_decide_eq_true rfl) (of_decide_eq_true rfl) (of_decide_eq_true rfl) ?_
         refine lv_aload_n hx hb dX12_led_71 rfl (lv_at hl 0 rfl) ?_
         refine va_get (D := D) hx hb hts inlX12 hown hK hP 55 (jc_55 cI cL ad σ τ) rfl 52 (of_decide_eq_true rfl) (hts _ kw_8_8) (fun _ h9 => h9) rfl dX12_led_72 ?_
         refine lv_iload_n hx hb dX12_led_75 rfl (lv_at hl 1 rfl) ?_
         exact by
          refine jald hx hb hK hP (jc_83 cI cL ad σ τ) (jin t1 (by omega) (by omega)) dX12_led_76 ?_
          refine lv_topi (fun x14 ex14 => ?_)
          exact hret x14 σ τ _ _ _ _ rfl ⟨⟨rfl, rfl⟩, trivial⟩ hP hS dX12_led_77
       have kc13 := jne c13 t2 jz_1
       by_cases c15 : a2 = 2
       · have kc15 := jeq c15 t2 jz_2
         refine jtopr c15 ?_
         refine lv_tableIn (off := 41) (tgt := 78) hx hb dX12_led_37 (of_decide_eq_true rfl) (of_decide_eq_true rfl) (of_decide_eq_true rfl) (of_decide_eq_true rfl) ?_
         refine lv_aload_n hx hb dX12_led_78 rfl (lv_at hl 0 rfl) ?_
         refine va_get (D := D) hx hb hts inlX12 hown hK hP 55 (jc_55 cI cL ad σ τ) rfl 53 (of_decide_eq_true rfl) (hts _ kw_8_9) (fun _ h9 => h9) rfl dX12_led_79 ?_
         refine lv_iload_n hx hb dX12_led_82 rfl (lv_at hl 1 rfl) ?_
         exact by
          refine jald hx hb hK hP (jc_84 cI cL ad σ τ) (jin t1 (by omega) (by omega)) dX12_led_83 ?_
          refine lv_topi (fun x16 ex16 => ?_)
          exact hret x16 σ τ _ _ _ _ rfl ⟨⟨rfl, rfl⟩, trivial⟩ hP hS dX12_led_84
       have kc15 := jne c15 t2 jz_2
       refine lv_tableOut (tgt := 85) hx hb dX12_led_37 (by rw [t2]; omega) (of_decide_eq_true rfl) ?_
       refine lv_iconst (v := (-1)) hx hb dX12_led_85 (of_decide_eq_true rfl) ?_
       exact hret (-1) σ τ _ _ _ _ rfl ⟨⟨rfl, rfl⟩, trivial⟩ hP hS dX12_led_86
     · obtain ⟨q18, k17⟩ := h8
       have q18 := q18.symm
       exact by
        subst q18
        refine lv_if_ne (tgt := 36) hx hb dX12_led_31 (of_decide_eq_true rfl) (fun c => absurd (of_decide_eq_true rfl) c) (fun _ => ?_)
        refine lv_iconst (v := (-1)) hx hb dX12_led_34 (of_decide_eq_true rfl) ?_
        exact hret (-1) σ τ _ _ _ _ rfl ⟨⟨rfl, rfl⟩, trivial⟩ hP hS dX12_led_35
  · have kc2 := jeq c2 t1 jz_m1
    refine lv_iload_n hx hb dX12_led_5 rfl (lv_at hl 2 rfl) ?_
    refine lv_if_ne (tgt := 16) hx hb dX12_led_6 (of_decide_eq_true rfl) (fun c19 => ?_) (fun c19 => ?_)
    · have kc19 := jne c19 t2 jz_0
      refine lv_iconst (v := (-1)) hx hb dX12_led_16 (of_decide_eq_true rfl) ?_
      exact hret (-1) σ τ _ _ _ _ rfl ⟨⟨rfl, rfl⟩, trivial⟩ hP hS dX12_led_17
    · have kc19 := jeq c19 t2 jz_0
      refine lv_aload_n hx hb dX12_led_9 rfl (lv_at hl 0 rfl) ?_
      refine va_get (D := D) hx hb hts inlX12 hown hK hP 55 (jc_55 cI cL ad σ τ) rfl 50 (of_decide_eq_true rfl) (hts _ kw_46_13) (fun _ h9 => h9) rfl dX12_led_10 ?_
      refine lv_goto (tgt := 17) hx hb dX12_led_13 (of_decide_eq_true rfl) ?_
      exact hret (σ 55 50) σ τ _ _ _ _ rfl ⟨⟨rfl, rfl⟩, trivial⟩ hP hS dX12_led_17
