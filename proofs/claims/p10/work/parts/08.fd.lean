set_option maxHeartbeats 4000000 in
set_option maxRecDepth 100000 in
theorem c_X12_theirs (l : Launch) (D : va_G) (cI cL : ClassId) (ad zz : Nat → Nat) (hJ : jD ad) (σ : Nat → Nat → Int32) (τ : Nat → Nat → Int64) (a1 : Int32) (A1 : Int) (t1 : a1.toInt = A1) (hI101 : jI101 σ) (hI102 : jI102 σ) (hI103 : jI103 σ) (hI104 : jI104 σ) (hI105 : jI105 σ) (hI106 : jI106 σ) (hI119 : jI119 σ) (hI111 : jI111 σ) (hs_jKept : jKept σ) (hs_jTR : jTR σ) (hs_jqSt : jqSt σ) (hp0 : 0 ≤ (σ 55 42).toInt ∧ (σ 55 42).toInt ≤ 999997952) : jM l yX12_theirs cX12_theirs 3 (some .int) ({ frames := 110, cells := 0, slots := 0, locals := 5231 }) D cI cL ad zz [.ref (ad 55), .int a1] σ τ (fun r σ' τ' => τ = τ' ∧ (∀ i : Nat, (i < 55 ∨ 55 < i) ∧ (i < 62 ∨ 62 < i) ∧ (i < 66 ∨ 66 < i) ∧ (i < 68 ∨ 69 < i) ∧ (i < 74 ∨ 79 < i) → σ' i = σ i) ∧ (∀ k : Nat, (k < 18 ∨ 18 < k) ∧ (k < 19 ∨ 19 < k) ∧ (k < 20 ∨ 20 < k) ∧ (k < 21 ∨ 21 < k) ∧ (k < 22 ∨ 22 < k) ∧ (k < 25 ∨ 25 < k) ∧ (k < 26 ∨ 26 < k) ∧ (k < 27 ∨ 27 < k) ∧ (k < 37 ∨ 37 < k) ∧ (k < 42 ∨ 42 < k) ∧ (k < 45 ∨ 45 < k) ∧ (k < 46 ∨ 46 < k) → σ' 55 k = σ 55 k) ∧ (jI104 σ') ∧ (jI111 σ') ∧ (jI119 σ') ∧ (jKept σ') ∧ (jTR σ') ∧ (jqSt σ') ∧ (jSo (σ' 62) (σ 62) ((σ 55 10).toInt)) ∧ ((σ 55 42).toInt ≤ (σ' 55 42).toInt) ∧ ((σ' 55 42).toInt ≤ (σ 55 42).toInt + 1024) ∧ True) := by
  refine jM.of hJ (by decide +kernel) (nt := .int) rfl (Nat.le_of_ble_eq_true rfl) ?_
  intro p e s m args below meth c Q ls hC hret hl hP
  obtain ⟨hx, hb, hr, hml, hown, hts, hK, -, hlocks, hZ⟩ := hC
  have hown : s.vm.findClass RX12 = some m.cls := hown
  have hS : va_S (jA ad) s.heap s.heap [] := va_S.rf
  have hA : ∀ q, jA ad q → jA ad q := fun _ h => h
  have hl : lv_has ls 3 [(0, .ref (ad 55)), (1, .int a1)] := hl
  have g1 := jrg t1
  obtain ⟨i1, i2, i3, w4, w5⟩ : (1 ≤ (σ 55 10).toInt ∧ (σ 55 10).toInt ≤ 8) ∧ (1 ≤ (σ 55 12).toInt ∧ (σ 55 12).toInt ≤ 12) ∧ (0 ≤ (σ 55 13).toInt ∧ (σ 55 13).toInt ≤ 999) ∧ (∀ k : Nat, k < 8 → 0 ≤ (σ 62 k).toInt ∧ (σ 62 k).toInt ≤ 3) ∧ (∀ k : Nat, k < 8 → 0 ≤ (σ 67 k).toInt ∧ (σ 67 k).toInt ≤ 3) := id hI104
  have w6 : ∀ k : Nat, k < 5 → 0 ≤ (σ 79 k).toInt ∧ (σ 79 k).toInt ≤ 3 := hI111
  refine lv_iload_n hx hb dX12_theirs_0 rfl (lv_at hl 1 rfl) ?_
  refine lv_i2l (v := a1.toInt64) hx hb dX12_theirs_1 rfl ?_
  refine lv_lconst (v := 0) hx hb dX12_theirs_2 (of_decide_eq_true rfl) ?_
  refine lv_lconst (v := 1) hx hb dX12_theirs_3 (of_decide_eq_true rfl) ?_
  refine jcallS (As := [.long a1.toInt64, .long 0, .long 1]) (rest := []) ⟨hx, hb, hml, hown, hts⟩ hK hP hA hS hZ (c_X12_within l D cI cL ad zz hJ σ τ a1.toInt64 (A1) (jtoL t1) 0 (0) jzl_0 1 (1) jzl_1) cw_RX12_136 ⟨Nat.le_of_ble_eq_true rfl, Nat.le_of_ble_eq_true rfl⟩ rfl rfl rfl hl.1 rfl (Nat.le_of_ble_eq_true rfl) dX12_theirs_4 ⟨Nat.zero_le _, Nat.zero_le _⟩ (fun r8 σ7 τ7 H locs h7 hP hS => ?_)
  obtain ⟨⟨rfl, rfl⟩, h7⟩ := h7
  rcases h7 with h9 | h10
  · obtain ⟨q12, k11⟩ := h9
    have q12 := q12.symm
    subst q12
    refine lv_if_ne (tgt := 12) hx hb dX12_theirs_7 (of_decide_eq_true rfl) (fun _ => ?_) (fun c => absurd c (of_decide_eq_true rfl))
    refine lv_aload_n hx hb dX12_theirs_12 rfl (lv_at hl 0 rfl) ?_
    refine va_get (D := D) hx hb hts inlX12 hown hK hP 55 (jc_55 cI cL ad σ τ) rfl 10 (of_decide_eq_true rfl) (hts _ kw_8_15) (fun _ h9 => h9) rfl dX12_theirs_13 ?_
    refine lv_iconst (v := 5) hx hb dX12_theirs_16 (of_decide_eq_true rfl) ?_
    refine lv_icmp_gt (tgt := 29) hx hb dX12_theirs_17 (of_decide_eq_true rfl) (fun c13 => ?_) (fun c13 => ?_)
    · have kc13 := jlt c13 jz_5 rfl
      refine lv_bipush (v := (-4)) hx hb dX12_theirs_29 (of_decide_eq_true rfl) ?_
      exact by exact hret (-4) σ τ _ _ _ _ rfl ⟨rfl, (fun _ _ => rfl), (fun _ _ => rfl), hI104, hI111, hI119, hs_jKept, hs_jTR, hs_jqSt, (by rw [show σ 62 = σ 62 from rfl]; exact jSo.rfl), (by omega), (by omega), trivial⟩ hP hS dX12_theirs_31
    · have kc13 := jnlt c13 jz_5 rfl
      refine lv_aload_n hx hb dX12_theirs_20 rfl (lv_at hl 0 rfl) ?_
      refine va_get (D := D) hx hb hts inlX12 hown hK hP 55 (jc_55 cI cL ad σ τ) rfl 12 (of_decide_eq_true rfl) (hts _ kw_8_16) (fun _ h9 => h9) rfl dX12_theirs_21 ?_
      refine lv_bipush (v := 8) hx hb dX12_theirs_24 (of_decide_eq_true rfl) ?_
      refine lv_icmp_le (tgt := 32) hx hb dX12_theirs_26 (of_decide_eq_true rfl) (fun c14 => ?_) (fun c14 => ?_)
      · have kc14 := jle c14 rfl jz_8
        refine lv_iconst (v := 0) hx hb dX12_theirs_32 (of_decide_eq_true rfl) ?_
        refine lv_istore_n (lv' := [(2, .int 0), (0, .ref (ad 55)), (1, .int a1)]) hx hb dX12_theirs_33 rfl hl (of_decide_eq_true rfl) rfl (fun ls hl => ?_)
        have lp15 : ∀ (n16 : Nat) (x17 : Int32) (σ18 : Nat → Nat → Int32) (H : Heap) (locs : List Loc) (ls : Array Slot), ((σ18 55 10).toInt - x17.toInt : Int) < n16 → 0 ≤ x17.toInt → x17.toInt ≤ 5 → x17.toInt ≤ (σ18 55 10).toInt → (∀ i : Nat, (i < 79 ∨ 79 < i) → σ18 i = σ i) → jI111 σ18 → (jSo (σ18 79) (σ 62) (x17.toInt)) → jH D cI cL ad σ18 τ H → va_S (jA ad) s.heap H locs → lv_has ls 3 [(2, .int x17), (0, .ref (ad 55)), (1, .int a1)] → W p l e ({ frames := 110, cells := 0, slots := 0, locals := 5231 }) s m args below meth c H locs 0 0 Q (F0 m 34 ls []) := by
          intro n16
          induction n16 with
          | zero => intro x17 σ18 H locs ls h20 h21 h22 h23; exact absurd h20 (by omega)
          | succ n16 ihlp15 =>
            intro x17 σ18 H locs ls h20 h21 h22 h23 f24 p25 q26 hP hS hl
            exact by
             have w27 : ∀ k : Nat, k < 5 → 0 ≤ (σ18 79 k).toInt ∧ (σ18 79 k).toInt ≤ 3 := p25
             have z28 : (σ18 55 10).toInt = (σ 55 10).toInt := (congrArg Int32.toInt (show σ18 55 10 = (σ 55 10) from (congrFun (f24 55 (of_decide_eq_true rfl)) 10)))
             refine lv_iload_n hx hb dX12_theirs_34 rfl (lv_at hl 0 rfl) ?_
             refine lv_aload_n hx hb dX12_theirs_35 rfl (lv_at hl 1 rfl) ?_
             refine va_get (D := D) hx hb hts inlX12 hown hK hP 55 (jc_55 cI cL ad σ18 τ) rfl 10 (of_decide_eq_true rfl) (hts _ kw_8_15) (fun _ h9 => h9) rfl dX12_theirs_36 ?_
             have m29 : σ18 55 10 = (σ 55 10) := (congrFun (f24 55 (of_decide_eq_true rfl)) 10)
             refine jtopr m29 ?_
             refine lv_icmp_ge (tgt := 60) hx hb dX12_theirs_39 (of_decide_eq_true rfl) (fun c30 => ?_) (fun c30 => ?_)
             · have kc30 := jle c30 rfl rfl
               refine lv_aload_n hx hb dX12_theirs_60 rfl (lv_at hl 1 rfl) ?_
               refine lv_iconst (v := (-1)) hx hb dX12_theirs_61 (of_decide_eq_true rfl) ?_
               refine jput (ty := .int) hx hb hts inlX12 tyX12 tyX12_ok nmX12 hown hK hP hJ hA hS (jc_55 cI cL ad σ18 τ) rfl (k := 46) (of_decide_eq_true rfl) (Nat.le_of_ble_eq_true rfl) (jp_55_46 cI cL ad σ18 τ (-1)) (hts _ kw_40_17) (fun _ h9 => h9) rfl (by decide +kernel) rfl rfl dX12_theirs_62 (fun σ31 H locs eσ31 hP hS => ?_)
               refine lv_aload_n hx hb dX12_theirs_65 rfl (lv_at hl 1 rfl) ?_
               refine lv_iconst (v := 0) hx hb dX12_theirs_66 (of_decide_eq_true rfl) ?_
               refine lv_iconst (v := 0) hx hb dX12_theirs_67 (of_decide_eq_true rfl) ?_
               refine lv_iconst (v := 0) hx hb dX12_theirs_68 (of_decide_eq_true rfl) ?_
               have I32 : jI101 σ31 := jI101_fr ((jkp 4 eσ31 (of_decide_eq_true rfl)).trans (congrFun (f24 55 (of_decide_eq_true rfl)) 4)) ((jkp 5 eσ31 (of_decide_eq_true rfl)).trans (congrFun (f24 55 (of_decide_eq_true rfl)) 5)) ((jnp 56 eσ31 (of_decide_eq_true rfl)).trans (f24 56 (of_decide_eq_true rfl))) ((jnp 57 eσ31 (of_decide_eq_true rfl)).trans (f24 57 (of_decide_eq_true rfl))) ((jnp 58 eσ31 (of_decide_eq_true rfl)).trans (f24 58 (of_decide_eq_true rfl))) ((jnp 59 eσ31 (of_decide_eq_true rfl)).trans (f24 59 (of_decide_eq_true rfl))) hI101
               have I33 : jI102 σ31 := jI102_fr ((jkp 6 eσ31 (of_decide_eq_true rfl)).trans (congrFun (f24 55 (of_decide_eq_true rfl)) 6)) ((jnp 60 eσ31 (of_decide_eq_true rfl)).trans (f24 60 (of_decide_eq_true rfl))) ((jnp 61 eσ31 (of_decide_eq_true rfl)).trans (f24 61 (of_decide_eq_true rfl))) hI102
               have I34 : jI103 σ31 := jI103_fr ((jkp 9 eσ31 (of_decide_eq_true rfl)).trans (congrFun (f24 55 (of_decide_eq_true rfl)) 9)) hI103
               have I35 : jI104 σ31 := jI104_fr ((jkp 10 eσ31 (of_decide_eq_true rfl)).trans (congrFun (f24 55 (of_decide_eq_true rfl)) 10)) ((jkp 12 eσ31 (of_decide_eq_true rfl)).trans (congrFun (f24 55 (of_decide_eq_true rfl)) 12)) ((jkp 13 eσ31 (of_decide_eq_true rfl)).trans (congrFun (f24 55 (of_decide_eq_true rfl)) 13)) ((jnp 62 eσ31 (of_decide_eq_true rfl)).trans (f24 62 (of_decide_eq_true rfl))) ((jnp 67 eσ31 (of_decide_eq_true rfl)).trans (f24 67 (of_decide_eq_true rfl))) hI104
               have I36 : jI105 σ31 := jI105_fr ((jkp 15 eσ31 (of_decide_eq_true rfl)).trans (congrFun (f24 55 (of_decide_eq_true rfl)) 15)) ((jnp 65 eσ31 (of_decide_eq_true rfl)).trans (f24 65 (of_decide_eq_true rfl))) hI105
               have I37 : jI106 σ31 := jI106_fr ((jkp 32 eσ31 (of_decide_eq_true rfl)).trans (congrFun (f24 55 (of_decide_eq_true rfl)) 32)) ((jnp 70 eσ31 (of_decide_eq_true rfl)).trans (f24 70 (of_decide_eq_true rfl))) ((jnp 71 eσ31 (of_decide_eq_true rfl)).trans (f24 71 (of_decide_eq_true rfl))) ((jnp 72 eσ31 (of_decide_eq_true rfl)).trans (f24 72 (of_decide_eq_true rfl))) hI106
               have I38 : jI119 σ31 := jI119_fr ((jnp 68 eσ31 (of_decide_eq_true rfl)).trans (f24 68 (of_decide_eq_true rfl))) hI119
               have I39 : jI111 σ31 := jI111_fr (jnp 79 eσ31 (of_decide_eq_true rfl)) p25
               have p40 : jKept σ31 := jKept.fr ((jnp 75 eσ31 (of_decide_eq_true rfl)).trans (f24 75 (of_decide_eq_true rfl))) ((jnp 76 eσ31 (of_decide_eq_true rfl)).trans (f24 76 (of_decide_eq_true rfl))) ((jnp 77 eσ31 (of_decide_eq_true rfl)).trans (f24 77 (of_decide_eq_true rfl))) hs_jKept
               have p41 : jTR σ31 := jTR.fr ((jnp 64 eσ31 (of_decide_eq_true rfl)).trans (f24 64 (of_decide_eq_true rfl))) ((jnp 65 eσ31 (of_decide_eq_true rfl)).trans (f24 65 (of_decide_eq_true rfl))) hs_jTR
               have p42 : jqSt σ31 := jqSt.fr ((jnp 78 eσ31 (of_decide_eq_true rfl)).trans (f24 78 (of_decide_eq_true rfl))) ((jkp 42 eσ31 (of_decide_eq_true rfl)).trans (congrFun (f24 55 (of_decide_eq_true rfl)) 42)) hs_jqSt
               have z43 : (σ31 55 10).toInt = (σ 55 10).toInt := (congrArg Int32.toInt (show σ31 55 10 = (σ 55 10) from ((jkp 10 eσ31 (of_decide_eq_true rfl)).trans m29)))
               have z44 : (σ31 55 12).toInt = (σ 55 12).toInt := (congrArg Int32.toInt (show σ31 55 12 = (σ 55 12) from ((jkp 12 eσ31 (of_decide_eq_true rfl)).trans (congrFun (f24 55 (of_decide_eq_true rfl)) 12))))
               have z45 : (σ31 55 42).toInt = (σ 55 42).toInt := (congrArg Int32.toInt (show σ31 55 42 = (σ 55 42) from ((jkp 42 eσ31 (of_decide_eq_true rfl)).trans (congrFun (f24 55 (of_decide_eq_true rfl)) 42))))
               exact by
                refine jcallVv (As := [.int 0, .int 0, .int 0]) (rest := []) ⟨hx, hb, hml, hown, hts⟩ hK hP hA hS hZ (c_X12_orders_0 l D cI cL ad zz hJ σ31 τ 0 (0) jz_0 0 (0) jz_0 I32 I33 I34 I35 I36 I37 I38 I39 p40 p41 p42 (by omega) (by omega) (by omega) (by omega)) cw_RX12_355 (jc_55 cI cL ad σ31 τ) rfl ⟨Nat.le_of_ble_eq_true rfl, Nat.le_of_ble_eq_true rfl⟩ rfl rfl rfl hl.1 rfl (Nat.le_of_ble_eq_true rfl) dX12_theirs_69 ⟨Nat.zero_le _, Nat.zero_le _⟩ (fun σ46 τ46 H locs h46 hP hS => ?_)
                obtain ⟨rfl, f48, f49, I50, I51, p52, p53, p54, h46⟩ := h46
                obtain ⟨i56, i57, i58, w59, w60⟩ : (1 ≤ (σ46 55 10).toInt ∧ (σ46 55 10).toInt ≤ 8) ∧ (1 ≤ (σ46 55 12).toInt ∧ (σ46 55 12).toInt ≤ 12) ∧ (0 ≤ (σ46 55 13).toInt ∧ (σ46 55 13).toInt ≤ 999) ∧ (∀ k : Nat, k < 8 → 0 ≤ (σ46 62 k).toInt ∧ (σ46 62 k).toInt ≤ 3) ∧ (∀ k : Nat, k < 8 → 0 ≤ (σ46 67 k).toInt ∧ (σ46 67 k).toInt ≤ 3) := id I50
                have z61 : (σ46 55 10).toInt = (σ 55 10).toInt := (congrArg Int32.toInt (show σ46 55 10 = (σ 55 10) from ((f49 10 (of_decide_eq_true rfl)).trans ((jkp 10 eσ31 (of_decide_eq_true rfl)).trans m29))))
                have z62 : (σ46 55 12).toInt = (σ 55 12).toInt := (congrArg Int32.toInt (show σ46 55 12 = (σ 55 12) from ((f49 12 (of_decide_eq_true rfl)).trans ((jkp 12 eσ31 (of_decide_eq_true rfl)).trans (congrFun (f24 55 (of_decide_eq_true rfl)) 12)))))
                have z63 : (σ46 55 13).toInt = (σ 55 13).toInt := (congrArg Int32.toInt (show σ46 55 13 = (σ 55 13) from ((f49 13 (of_decide_eq_true rfl)).trans ((jkp 13 eσ31 (of_decide_eq_true rfl)).trans (congrFun (f24 55 (of_decide_eq_true rfl)) 13)))))
                obtain ⟨k64, k65, h46⟩ := h46
                refine lv_iconst (v := 0) hx hb dX12_theirs_72 (of_decide_eq_true rfl) ?_
                refine lv_istore_n (lv' := [(2, .int 0), (0, .ref (ad 55)), (1, .int a1)]) hx hb dX12_theirs_73 rfl hl (of_decide_eq_true rfl) rfl (fun ls hl => ?_)
                have lp66 : ∀ (n67 : Nat) (x68 : Int32) (σ69 : Nat → Nat → Int32) (H : Heap) (locs : List Loc) (ls : Array Slot), ((σ69 55 10).toInt - x68.toInt : Int) < n67 → 0 ≤ x68.toInt → x68.toInt ≤ 5 → x68.toInt ≤ (σ69 55 10).toInt → (∀ i : Nat, (i < 62 ∨ 62 < i) → σ69 i = σ46 i) → jI104 σ69 → (jSo (σ69 62) (σ46 79) (x68.toInt)) → jH D cI cL ad σ69 τ H → va_S (jA ad) s.heap H locs → lv_has ls 3 [(2, .int x68), (0, .ref (ad 55)), (1, .int a1)] → W p l e ({ frames := 110, cells := 0, slots := 0, locals := 5231 }) s m args below meth c H locs 0 0 Q (F0 m 74 ls []) := by
                  intro n67
                  induction n67 with
                  | zero => intro x68 σ69 H locs ls h71 h72 h73 h74; exact absurd h71 (by omega)
                  | succ n67 ihlp66 =>
                    intro x68 σ69 H locs ls h71 h72 h73 h74 f75 p76 q77 hP hS hl
                    exact by
                     obtain ⟨i78, i79, i80, w81, w82⟩ : (1 ≤ (σ69 55 10).toInt ∧ (σ69 55 10).toInt ≤ 8) ∧ (1 ≤ (σ69 55 12).toInt ∧ (σ69 55 12).toInt ≤ 12) ∧ (0 ≤ (σ69 55 13).toInt ∧ (σ69 55 13).toInt ≤ 999) ∧ (∀ k : Nat, k < 8 → 0 ≤ (σ69 62 k).toInt ∧ (σ69 62 k).toInt ≤ 3) ∧ (∀ k : Nat, k < 8 → 0 ≤ (σ69 67 k).toInt ∧ (σ69 67 k).toInt ≤ 3) := id p76
                     have z83 : (σ69 55 10).toInt = (σ 55 10).toInt := (congrArg Int32.toInt (show σ69 55 10 = (σ 55 10) from ((congrFun (f75 55 (of_decide_eq_true rfl)) 10).trans ((f49 10 (of_decide_eq_true rfl)).trans ((jkp 10 eσ31 (of_decide_eq_true rfl)).trans m29)))))
                     have z84 : (σ69 55 12).toInt = (σ 55 12).toInt := (congrArg Int32.toInt (show σ69 55 12 = (σ 55 12) from ((congrFun (f75 55 (of_decide_eq_true rfl)) 12).trans ((f49 12 (of_decide_eq_true rfl)).trans ((jkp 12 eσ31 (of_decide_eq_true rfl)).trans (congrFun (f24 55 (of_decide_eq_true rfl)) 12))))))
                     have z85 : (σ69 55 13).toInt = (σ 55 13).toInt := (congrArg Int32.toInt (show σ69 55 13 = (σ 55 13) from ((congrFun (f75 55 (of_decide_eq_true rfl)) 13).trans ((f49 13 (of_decide_eq_true rfl)).trans ((jkp 13 eσ31 (of_decide_eq_true rfl)).trans (congrFun (f24 55 (of_decide_eq_true rfl)) 13))))))
                     refine lv_iload_n hx hb dX12_theirs_74 rfl (lv_at hl 0 rfl) ?_
                     refine lv_aload_n hx hb dX12_theirs_75 rfl (lv_at hl 1 rfl) ?_
                     refine va_get (D := D) hx hb hts inlX12 hown hK hP 55 (jc_55 cI cL ad σ69 τ) rfl 10 (of_decide_eq_true rfl) (hts _ kw_8_15) (fun _ h9 => h9) rfl dX12_theirs_76 ?_
                     have m86 : σ69 55 10 = (σ 55 10) := ((congrFun (f75 55 (of_decide_eq_true rfl)) 10).trans ((f49 10 (of_decide_eq_true rfl)).trans ((jkp 10 eσ31 (of_decide_eq_true rfl)).trans m29)))
                     refine jtopr m86 ?_
                     refine lv_icmp_ge (tgt := 100) hx hb dX12_theirs_79 (of_decide_eq_true rfl) (fun c87 => ?_) (fun c87 => ?_)
                     · have kc87 := jle c87 rfl rfl
                       refine lv_iload_n hx hb dX12_theirs_100 rfl (lv_at hl 2 rfl) ?_
                       refine lv_if_ne (tgt := 111) hx hb dX12_theirs_101 (of_decide_eq_true rfl) (fun c88 => ?_) (fun c88 => ?_)
                       · have kc88 := jne c88 t1 jz_0
                         refine lv_aload_n hx hb dX12_theirs_111 rfl (lv_at hl 1 rfl) ?_
                         refine va_get (D := D) hx hb hts inlX12 hown hK hP 55 (jc_55 cI cL ad σ69 τ) rfl 46 (of_decide_eq_true rfl) (hts _ kw_40_17) (fun _ h9 => h9) rfl dX12_theirs_112 ?_
                         have m89 : σ69 55 46 = (σ46 55 46) := (congrFun (f75 55 (of_decide_eq_true rfl)) 46)
                         refine jtopr m89 ?_
                         have I90 : jI111 σ69 := jI111_fr ((f75 79 (of_decide_eq_true rfl)).trans (f48 79 (of_decide_eq_true rfl))) I39
                         have I91 : jI119 σ69 := jI119_fr (f75 68 (of_decide_eq_true rfl)) I51
                         have p92 : jKept σ69 := jKept.fr (f75 75 (of_decide_eq_true rfl)) (f75 76 (of_decide_eq_true rfl)) (f75 77 (of_decide_eq_true rfl)) p52
                         have p93 : jTR σ69 := jTR.fr (f75 64 (of_decide_eq_true rfl)) (f75 65 (of_decide_eq_true rfl)) p53
                         have p94 : jqSt σ69 := jqSt.fr (f75 78 (of_decide_eq_true rfl)) (congrFun (f75 55 (of_decide_eq_true rfl)) 42) p54
                         have z95 : (σ69 55 42).toInt = (σ46 55 42).toInt := (congrArg Int32.toInt (show σ69 55 42 = (σ46 55 42) from (congrFun (f75 55 (of_decide_eq_true rfl)) 42)))
                         exact by exact hret (σ46 55 46) σ69 τ _ _ _ _ rfl ⟨rfl, (fun i hi => ((f75 i (imp_277 i hi)).trans ((f48 i (imp_278 i hi)).trans ((jnp i eσ31 (imp_279 i hi)).trans (f24 i (imp_280 i hi)))))), (fun i hi => ((congrFun (f75 55 (of_decide_eq_true rfl)) i).trans ((f49 i hi).trans ((jkp i eσ31 (imp_275 i hi)).trans (congrFun (f24 55 (of_decide_eq_true rfl)) i))))), p76, I90, I91, p92, p93, p94, (jSo.trans (g := σ46 79) q77 (by rw [show σ46 79 = σ18 79 from ((f48 79 (of_decide_eq_true rfl)).trans (jnp 79 eσ31 (of_decide_eq_true rfl)))]; exact q26) (by omega) (by omega)), (by omega), (by omega), trivial⟩ hP hS dX12_theirs_115
                       · have kc88 := jeq c88 t1 jz_0
                         refine lv_aload_n hx hb dX12_theirs_104 rfl (lv_at hl 1 rfl) ?_
                         refine va_get (D := D) hx hb hts inlX12 hown hK hP 55 (jc_55 cI cL ad σ69 τ) rfl 45 (of_decide_eq_true rfl) (hts _ kw_40_18) (fun _ h9 => h9) rfl dX12_theirs_105 ?_
                         have m96 : σ69 55 45 = (σ46 55 45) := (congrFun (f75 55 (of_decide_eq_true rfl)) 45)
                         refine jtopr m96 ?_
                         refine lv_goto (tgt := 115) hx hb dX12_theirs_108 (of_decide_eq_true rfl) ?_
                         have I97 : jI111 σ69 := jI111_fr ((f75 79 (of_decide_eq_true rfl)).trans (f48 79 (of_decide_eq_true rfl))) I39
                         have I98 : jI119 σ69 := jI119_fr (f75 68 (of_decide_eq_true rfl)) I51
                         have p99 : jKept σ69 := jKept.fr (f75 75 (of_decide_eq_true rfl)) (f75 76 (of_decide_eq_true rfl)) (f75 77 (of_decide_eq_true rfl)) p52
                         have p100 : jTR σ69 := jTR.fr (f75 64 (of_decide_eq_true rfl)) (f75 65 (of_decide_eq_true rfl)) p53
                         have p101 : jqSt σ69 := jqSt.fr (f75 78 (of_decide_eq_true rfl)) (congrFun (f75 55 (of_decide_eq_true rfl)) 42) p54
                         have z102 : (σ69 55 42).toInt = (σ46 55 42).toInt := (congrArg Int32.toInt (show σ69 55 42 = (σ46 55 42) from (congrFun (f75 55 (of_decide_eq_true rfl)) 42)))
                         exact by exact hret (σ46 55 45) σ69 τ _ _ _ _ rfl ⟨rfl, (fun i hi => ((f75 i (imp_277 i hi)).trans ((f48 i (imp_278 i hi)).trans ((jnp i eσ31 (imp_279 i hi)).trans (f24 i (imp_280 i hi)))))), (fun i hi => ((congrFun (f75 55 (of_decide_eq_true rfl)) i).trans ((f49 i hi).trans ((jkp i eσ31 (imp_275 i hi)).trans (congrFun (f24 55 (of_decide_eq_true rfl)) i))))), p76, I97, I98, p99, p100, p101, (jSo.trans (g := σ46 79) q77 (by rw [show σ46 79 = σ18 79 from ((f48 79 (of_decide_eq_true rfl)).trans (jnp 79 eσ31 (of_decide_eq_true rfl)))]; exact q26) (by omega) (by omega)), (by omega), (by omega), trivial⟩ hP hS dX12_theirs_115
                     · have kc87 := jnle c87 rfl rfl
                       refine lv_aload_n hx hb dX12_theirs_82 rfl (lv_at hl 1 rfl) ?_
                       refine va_get (D := D) hx hb hts inlX12 hown hK hP 55 (jc_55 cI cL ad σ69 τ) rfl 11 (of_decide_eq_true rfl) (hts _ kw_7_8) (fun _ h9 => h9) rfl dX12_theirs_83 ?_
                       refine lv_iload_n hx hb dX12_theirs_86 rfl (lv_at hl 0 rfl) ?_
                       refine lv_aload_n hx hb dX12_theirs_87 rfl (lv_at hl 1 rfl) ?_
                       refine va_get (D := D) hx hb hts inlX12 hown hK hP 55 (jc_55 cI cL ad σ69 τ) rfl 44 (of_decide_eq_true rfl) (hts _ kw_8_4) (fun _ h9 => h9) rfl dX12_theirs_88 ?_
                       refine lv_iload_n hx hb dX12_theirs_91 rfl (lv_at hl 0 rfl) ?_
                       exact by
                        refine jald hx hb hK hP (jc_79 cI cL ad σ69 τ) (jin rfl (by omega) (by omega)) dX12_theirs_92 ?_
                        have w103 : ∀ k : Nat, k < 5 → 0 ≤ (σ69 79 k).toInt ∧ (σ69 79 k).toInt ≤ 3 := (jrr_fr (f75 79 (of_decide_eq_true rfl)) (jrr_fr (f48 79 (of_decide_eq_true rfl)) (jrr_fr (jnp 79 eσ31 (of_decide_eq_true rfl)) w27)))
                        have g104 := w103 _ (jnat (x := x68) rfl (n := 5) (by omega) (of_decide_eq_true rfl))
                        refine jtopr (y := (σ18 79 x68.toNatClampNeg)) (by rw [f75 79 (of_decide_eq_true rfl), f48 79 (of_decide_eq_true rfl), jnp 79 eσ31 (of_decide_eq_true rfl)]) ?_
                        rw [f75 79 (of_decide_eq_true rfl), f48 79 (of_decide_eq_true rfl), jnp 79 eσ31 (of_decide_eq_true rfl)] at g104
                        refine jast hx hb hK hP hJ hA hS (jc_62 cI cL ad σ69 τ) (ja_62 cI cL ad σ69 τ _ _) (jin rfl (by omega) (by omega)) dX12_theirs_93 (fun σ105 H locs eσ105 hP hS => ?_)
                        obtain ⟨x106, ex106⟩ : ∃ y : Int32, y = x68 + 1 := ⟨_, rfl⟩
                        have tx106 : x106.toInt = x68.toInt + 1 := (jadd ex106 rfl jz_1 (by omega) (by omega)).trans (by omega)
                        refine lv_iinc (v := x106) (lv' := [(2, .int x106), (0, .ref (ad 55)), (1, .int a1)]) hx hb dX12_theirs_94 hl (k := 0) rfl (by rw [ex106]; rfl) (of_decide_eq_true rfl) rfl (fun ls hl => ?_)
                        exact by
                         refine lv_goto (tgt := 74) hx hb dX12_theirs_97 (of_decide_eq_true rfl) ?_
                         have z107 : (σ105 55 10).toInt = (σ 55 10).toInt := (congrArg Int32.toInt (show σ105 55 10 = (σ 55 10) from ((congrFun (jnp 55 eσ105 (of_decide_eq_true rfl)) 10).trans m86)))
                         have z108 : (σ105 55 12).toInt = (σ 55 12).toInt := (congrArg Int32.toInt (show σ105 55 12 = (σ 55 12) from ((congrFun (jnp 55 eσ105 (of_decide_eq_true rfl)) 12).trans ((congrFun (f75 55 (of_decide_eq_true rfl)) 12).trans ((f49 12 (of_decide_eq_true rfl)).trans ((jkp 12 eσ31 (of_decide_eq_true rfl)).trans (congrFun (f24 55 (of_decide_eq_true rfl)) 12)))))))
                         have z109 : (σ105 55 13).toInt = (σ 55 13).toInt := (congrArg Int32.toInt (show σ105 55 13 = (σ 55 13) from ((congrFun (jnp 55 eσ105 (of_decide_eq_true rfl)) 13).trans ((congrFun (f75 55 (of_decide_eq_true rfl)) 13).trans ((f49 13 (of_decide_eq_true rfl)).trans ((jkp 13 eσ31 (of_decide_eq_true rfl)).trans (congrFun (f24 55 (of_decide_eq_true rfl)) 13)))))))
                         have w110 : ∀ k : Nat, k < 8 → 0 ≤ (σ105 62 k).toInt ∧ (σ105 62 k).toInt ≤ 3 := (by rw [eσ105]; exact jrr_up w81 (by omega) (by omega))
                         have w111 : ∀ k : Nat, k < 8 → 0 ≤ (σ105 67 k).toInt ∧ (σ105 67 k).toInt ≤ 3 := (jrr_fr (jnp 67 eσ105 (of_decide_eq_true rfl)) w82)
                         have I112 : jI104 σ105 := ⟨(by omega), (by omega), (by omega), w110, w111⟩
                         exact by exact ihlp66 x106 σ105 _ _ ls (by have h90 := tx106; omega) (by have h90 := tx106; omega) (by have h90 := tx106; omega) (by have h90 := tx106; omega) (fun i hi => ((jnp i eσ105 (imp_237 i hi)).trans (f75 i hi)))   I112 (jSo.step q77 (by omega) (by rw [eσ105, jup_row, jnc (rfl : x68.toInt = x68.toInt)]) (by omega) (by rw [show σ46 79 = σ18 79 from ((f48 79 (of_decide_eq_true rfl)).trans (jnp 79 eσ31 (of_decide_eq_true rfl)))]; (try rw [jnc (show x68.toInt = x68.toInt by omega)]); try rfl) (by have h9 := tx106; omega)) hP hS (lv_sub hl [0, 1, 2] rfl)
                exact by exact lp66 1000000 0 σ46 _ _ ls (by have h90 := jz_0; omega) (by have h90 := jz_0; omega) (by have h90 := jz_0; omega) (by have h90 := jz_0; omega) (fun _ _ => rfl)  I50 (jSo.first (by have h9 := jz_0; omega)) hP hS hl
             · exact by
                have kc30 := jnle c30 rfl rfl
                refine lv_aload_n hx hb dX12_theirs_42 rfl (lv_at hl 1 rfl) ?_
                refine va_get (D := D) hx hb hts inlX12 hown hK hP 55 (jc_55 cI cL ad σ18 τ) rfl 44 (of_decide_eq_true rfl) (hts _ kw_8_4) (fun _ h9 => h9) rfl dX12_theirs_43 ?_
                refine lv_iload_n hx hb dX12_theirs_46 rfl (lv_at hl 0 rfl) ?_
                refine lv_aload_n hx hb dX12_theirs_47 rfl (lv_at hl 1 rfl) ?_
                refine va_get (D := D) hx hb hts inlX12 hown hK hP 55 (jc_55 cI cL ad σ18 τ) rfl 11 (of_decide_eq_true rfl) (hts _ kw_7_8) (fun _ h9 => h9) rfl dX12_theirs_48 ?_
                refine lv_iload_n hx hb dX12_theirs_51 rfl (lv_at hl 0 rfl) ?_
                refine jald hx hb hK hP (jc_62 cI cL ad σ18 τ) (jin rfl (by omega) (by omega)) dX12_theirs_52 ?_
                have w113 : ∀ k : Nat, k < 8 → 0 ≤ (σ18 62 k).toInt ∧ (σ18 62 k).toInt ≤ 3 := (jrr_fr (f24 62 (of_decide_eq_true rfl)) w4)
                exact by
                 have g114 := w113 _ (jnat (x := x17) rfl (n := 8) (by omega) (of_decide_eq_true rfl))
                 refine jtopr (y := (σ 62 x17.toNatClampNeg)) (by rw [f24 62 (of_decide_eq_true rfl)]) ?_
                 rw [f24 62 (of_decide_eq_true rfl)] at g114
                 refine jast hx hb hK hP hJ hA hS (jc_79 cI cL ad σ18 τ) (ja_79 cI cL ad σ18 τ _ _) (jin rfl (by omega) (by omega)) dX12_theirs_53 (fun σ115 H locs eσ115 hP hS => ?_)
                 obtain ⟨x116, ex116⟩ : ∃ y : Int32, y = x17 + 1 := ⟨_, rfl⟩
                 have tx116 : x116.toInt = x17.toInt + 1 := (jadd ex116 rfl jz_1 (by omega) (by omega)).trans (by omega)
                 refine lv_iinc (v := x116) (lv' := [(2, .int x116), (0, .ref (ad 55)), (1, .int a1)]) hx hb dX12_theirs_54 hl (k := 0) rfl (by rw [ex116]; rfl) (of_decide_eq_true rfl) rfl (fun ls hl => ?_)
                 refine lv_goto (tgt := 34) hx hb dX12_theirs_57 (of_decide_eq_true rfl) ?_
                 have z117 : (σ115 55 10).toInt = (σ 55 10).toInt := (congrArg Int32.toInt (show σ115 55 10 = (σ 55 10) from ((congrFun (jnp 55 eσ115 (of_decide_eq_true rfl)) 10).trans m29)))
                 exact by
                  have w118 : ∀ k : Nat, k < 5 → 0 ≤ (σ115 79 k).toInt ∧ (σ115 79 k).toInt ≤ 3 := (by rw [eσ115]; exact jrr_up w27 (by omega) (by omega))
                  have I119 : jI111 σ115 := w118
                  exact by exact ihlp15 x116 σ115 _ _ ls (by have h90 := tx116; omega) (by have h90 := tx116; omega) (by have h90 := tx116; omega) (by have h90 := tx116; omega) (fun i hi => ((jnp i eσ115 (imp_281 i hi)).trans (f24 i hi)))   I119 (jSo.step q26 (by omega) (by rw [eσ115, jup_row, jnc (rfl : x17.toInt = x17.toInt)]) (by omega) (by (try rw [jnc (show x17.toInt = x17.toInt by omega)]); try rfl) (by have h9 := tx116; omega)) hP hS (lv_sub hl [0, 1, 2] rfl)
        exact by exact lp15 1000000 0 σ _ _ ls (by have h90 := jz_0; omega) (by have h90 := jz_0; omega) (by have h90 := jz_0; omega) (by have h90 := jz_0; omega) (fun _ _ => rfl)  hI111 (jSo.first (by have h9 := jz_0; omega)) hP hS hl
      · have kc14 := jnle c14 rfl jz_8
        refine lv_bipush (v := (-4)) hx hb dX12_theirs_29 (of_decide_eq_true rfl) ?_
        exact by exact hret (-4) σ τ _ _ _ _ rfl ⟨rfl, (fun _ _ => rfl), (fun _ _ => rfl), hI104, hI111, hI119, hs_jKept, hs_jTR, hs_jqSt, (by rw [show σ 62 = σ 62 from rfl]; exact jSo.rfl), (by omega), (by omega), trivial⟩ hP hS dX12_theirs_31
  · obtain ⟨q121, k120⟩ := h10
    have q121 := q121.symm
    subst q121
    refine lv_if_ne (tgt := 12) hx hb dX12_theirs_7 (of_decide_eq_true rfl) (fun c => absurd (of_decide_eq_true rfl) c) (fun _ => ?_)
    refine lv_iconst (v := (-1)) hx hb dX12_theirs_10 (of_decide_eq_true rfl) ?_
    exact by exact hret (-1) σ τ _ _ _ _ rfl ⟨rfl, (fun _ _ => rfl), (fun _ _ => rfl), hI104, hI111, hI119, hs_jKept, hs_jTR, hs_jqSt, (by rw [show σ 62 = σ 62 from rfl]; exact jSo.rfl), (by omega), (by omega), trivial⟩ hP hS dX12_theirs_11
set_option maxHeartbeats 4000000 in
set_option maxRecDepth 100000 in
theorem c_X12_isShelf (l : Launch) (D : va_G) (cI cL : ClassId) (ad zz : Nat → Nat) (hJ : jD ad) (σ : Nat → Nat → Int32) (τ : Nat → Nat → Int64) (a1 : Int32) (A1 : Int) (t1 : a1.toInt = A1) : jM l yX12_isShelf cX12_isShelf 1 (some .boolean) ({ frames := 1, cells := 0, slots := 0, locals := 25 }) D cI cL ad zz [.int a1] σ τ (fun r σ' τ' => (σ = σ' ∧ τ = τ') ∧ ((r = 1 ∧ (0 ≤ A1 ∧ A1 ≤ 5)) ∨ (r = 0 ∧ ((A1 < 0) ∨ (5 < A1))))) := by
  refine jM.of hJ (by decide +kernel) (nt := .boolean) rfl (Nat.le_of_ble_eq_true rfl) ?_
  intro p e s m args below meth c Q ls hC hret hl hP
  obtain ⟨hx, hb, hr, hml, hown, hts, hK, -, hlocks, hZ⟩ := hC
  have hown : s.vm.findClass RX12 = some m.cls := hown
  have hS : va_S (jA ad) s.heap s.heap [] := va_S.rf
  have hA : ∀ q, jA ad q → jA ad q := fun _ h => h
  have hl : lv_has ls 1 [(0, .int a1)] := hl
  have g1 := jrg t1
  refine lv_iload_n hx hb dX12_isShelf_0 rfl (lv_at hl 0 rfl) ?_
  refine lv_i2l (v := a1.toInt64) hx hb dX12_isShelf_1 rfl ?_
  refine lv_lconst (v := 0) hx hb dX12_isShelf_2 (of_decide_eq_true rfl) ?_
  refine lv_ldc2 (v := 5) hx hb hown (hts _ kw_43_20) dX12_isShelf_3 ?_
  refine jcallS (As := [.long a1.toInt64, .long 0, .long 5]) (rest := []) ⟨hx, hb, hml, hown, hts⟩ hK hP hA hS hZ (c_X12_within l D cI cL ad zz hJ σ τ a1.toInt64 (A1) (jtoL t1) 0 (0) jzl_0 5 (5) jzl_5) cw_RX12_136 ⟨Nat.le_of_ble_eq_true rfl, Nat.le_of_ble_eq_true rfl⟩ rfl rfl rfl hl.1 rfl (Nat.le_of_ble_eq_true rfl) dX12_isShelf_6 ⟨Nat.zero_le _, Nat.zero_le _⟩ (fun r2 σ1 τ1 H locs h1 hP hS => ?_)
  obtain ⟨⟨rfl, rfl⟩, h1⟩ := h1
  rcases h1 with h3 | h4
  · obtain ⟨q6, k5⟩ := h3
    have q6 := q6.symm
    subst q6
    exact hret 1 σ τ _ _ _ _ rfl ⟨⟨rfl, rfl⟩, Or.inl ⟨rfl, (by have h9 := jz_1; omega)⟩⟩ hP hS dX12_isShelf_9
  · obtain ⟨q8, k7⟩ := h4
    have q8 := q8.symm
    subst q8
    exact hret 0 σ τ _ _ _ _ rfl ⟨⟨rfl, rfl⟩, Or.inr (⟨rfl, (by have h9 := jz_0; omega)⟩)⟩ hP hS dX12_isShelf_9
set_option maxHeartbeats 4000000 in
set_option maxRecDepth 100000 in
theorem c_X12_books (l : Launch) (D : va_G) (cI cL : ClassId) (ad zz : Nat → Nat) (hJ : jD ad) (σ : Nat → Nat → Int32) (τ : Nat → Nat → Int64) (a1 : Int32) (A1 : Int) (t1 : a1.toInt = A1) (a2 : Int32) (A2 : Int) (t2 : a2.toInt = A2) (hI102 : jI102 σ) (hI104 : jI104 σ) (hI107 : jI107 σ) (hI110 : jI110 σ) (hI119 : jI119 σ) (hs_jBook : jBook σ) : jM l yX12_books cX12_books 6 (some .int) ({ frames := 4, cells := 0, slots := 0, locals := 85 }) D cI cL ad zz [.ref (ad 55), .int a1, .int a2] σ τ (fun r σ' τ' => τ = τ' ∧ (∀ i : Nat, (i < 55 ∨ 55 < i) ∧ (i < 68 ∨ 69 < i) ∧ (i < 80 ∨ 81 < i) → σ' i = σ i) ∧ (∀ k : Nat, (k < 25 ∨ 25 < k) ∧ (k < 26 ∨ 26 < k) ∧ (k < 27 ∨ 27 < k) ∧ (k < 47 ∨ 47 < k) → σ' 55 k = σ 55 k) ∧ (jI107 σ') ∧ (jI119 σ') ∧ (jBook σ') ∧ (((σ 55 30).toInt = -1 → (σ 55 31).toInt = -1 → jOk (σ 56) → jBb (A1 < 0 ∨ 5 < A1) (0 ≤ ((σ 86 a1.toNatClampNeg).toInt) ∧ ((σ 86 a1.toNatClampNeg).toInt) ≠ 20) (r.toInt) ((σ 55 47).toInt) ((σ' 55 47).toInt) (σ 80) (σ' 80) (σ 81) (σ' 81) (jBs (fun k : Nat => τ 88 (60 * (A1) + (A2) + (k : Int)).toNat) (if ((σ 86 a1.toNatClampNeg).toInt) = 20 ∧ 0 ≤ A2 then ((σ 87 a1.toNatClampNeg).toInt) - (A2) else 0) ((σ 55 6).toInt) ((σ 55 10).toInt) ((σ 55 12).toInt) (σ 56) (σ' 80) (σ' 81) ((σ' 55 47).toInt)))) ∧ True) := by
  refine jM.of hJ (by decide +kernel) (nt := .int) rfl (Nat.le_of_ble_eq_true rfl) ?_
  intro p e s m args below meth c Q ls hC hret hl hP
  obtain ⟨hx, hb, hr, hml, hown, hts, hK, -, hlocks, hZ⟩ := hC
  have hown : s.vm.findClass RX12 = some m.cls := hown
  have hS : va_S (jA ad) s.heap s.heap [] := va_S.rf
  have hA : ∀ q, jA ad q → jA ad q := fun _ h => h
  have hl : lv_has ls 6 [(0, .ref (ad 55)), (1, .int a1), (2, .int a2)] := hl
  have g1 := jrg t1
  have g2 := jrg t2
  obtain ⟨i1, i2, w3⟩ : (0 ≤ (σ 55 47).toInt ∧ (σ 55 47).toInt ≤ 12) ∧ ((σ 55 47).toInt ≤ (σ 55 12).toInt) ∧ (∀ k : Nat, k < 12 → 0 ≤ (σ 80 k).toInt ∧ (σ 80 k).toInt ≤ 3) := id hI107
  obtain ⟨w4, w5⟩ : (∀ k : Nat, k < 6 → (-1) ≤ (σ 86 k).toInt ∧ (σ 86 k).toInt ≤ 24) ∧ (∀ k : Nat, k < 6 → 0 ≤ (σ 87 k).toInt ∧ (σ 87 k).toInt ≤ 60) := id hI110
  refine lv_iload_n hx hb dX12_books_0 rfl (lv_at hl 1 rfl) ?_
  refine jcallS (As := [.int a1]) (rest := []) ⟨hx, hb, hml, hown, hts⟩ hK hP hA hS hZ (c_X12_isShelf l D cI cL ad zz hJ σ τ a1 (A1) t1) cw_RX12_361 ⟨Nat.le_of_ble_eq_true rfl, Nat.le_of_ble_eq_true rfl⟩ rfl rfl rfl hl.1 rfl (Nat.le_of_ble_eq_true rfl) dX12_books_1 ⟨Nat.zero_le _, Nat.zero_le _⟩ (fun r7 σ6 τ6 H locs h6 hP hS => ?_)
  obtain ⟨⟨rfl, rfl⟩, h6⟩ := h6
  rcases h6 with h8 | h9
  · obtain ⟨q11, k10⟩ := h8
    have q11 := q11.symm
    subst q11
    refine lv_if_ne (tgt := 9) hx hb dX12_books_4 (of_decide_eq_true rfl) (fun _ => ?_) (fun c => absurd c (of_decide_eq_true rfl))
    refine lv_aload_n hx hb dX12_books_9 rfl (lv_at hl 0 rfl) ?_
    refine va_get (D := D) hx hb hts inlX12 hown hK hP 55 (jc_55 cI cL ad σ τ) rfl 58 (of_decide_eq_true rfl) (hts _ kw_8_11) (fun _ h9 => h9) rfl dX12_books_10 ?_
    refine lv_iload_n hx hb dX12_books_13 rfl (lv_at hl 1 rfl) ?_
    exact by
     refine jald hx hb hK hP (jc_86 cI cL ad σ τ) (jin t1 (by omega) (by omega)) dX12_books_14 ?_
     have g12 := w4 _ (jnat (x := a1) t1 (n := 6) (by omega) (of_decide_eq_true rfl))
     refine jtopr (y := (σ 86 a1.toNatClampNeg)) rfl ?_
     refine lv_if_lt (tgt := 32) hx hb dX12_books_15 (of_decide_eq_true rfl) (fun c13 => ?_) (fun c13 => ?_)
     · have kc13 := jlt c13 rfl jz_0
       refine lv_aload_n hx hb dX12_books_32 rfl (lv_at hl 0 rfl) ?_
       refine lv_iconst (v := 0) hx hb dX12_books_33 (of_decide_eq_true rfl) ?_
       refine jput (ty := .int) hx hb hts inlX12 tyX12 tyX12_ok nmX12 hown hK hP hJ hA hS (jc_55 cI cL ad σ τ) rfl (k := 47) (of_decide_eq_true rfl) (Nat.le_of_ble_eq_true rfl) (jp_55_47 cI cL ad σ τ 0) (hts _ kw_15_15) (fun _ h9 => h9) rfl (by decide +kernel) rfl rfl dX12_books_34 (fun σ14 H locs eσ14 hP hS => ?_)
       have z15 : (σ14 55 47).toInt = 0 := ((congrArg Int32.toInt (show σ14 55 47 = 0 from (jsp eσ14))).trans jz_0)
       exact by
        have p16 : jBook σ14 := jBook.nil (by omega)
        refine lv_aload_n hx hb dX12_books_37 rfl (lv_at hl 0 rfl) ?_
        refine va_get (D := D) hx hb hts inlX12 hown hK hP 55 (jc_55 cI cL ad σ14 τ) rfl 58 (of_decide_eq_true rfl) (hts _ kw_8_11) (fun _ h9 => h9) rfl dX12_books_38 ?_
        refine lv_iload_n hx hb dX12_books_41 rfl (lv_at hl 1 rfl) ?_
        refine jald hx hb hK hP (jc_86 cI cL ad σ14 τ) (jin t1 (by omega) (by omega)) dX12_books_42 ?_
        refine jtopr (y := (σ 86 a1.toNatClampNeg)) (by rw [jnp 86 eσ14 (of_decide_eq_true rfl)]) ?_
        refine lv_bipush (v := 20) hx hb dX12_books_43 (of_decide_eq_true rfl) ?_
        refine lv_icmp_ne (tgt := 56) hx hb dX12_books_45 (of_decide_eq_true rfl) (fun c17 => ?_) (fun c => absurd (jeq c rfl jz_20) (by omega))
        have kc17 := jne c17 rfl jz_20
        exact by
         refine lv_iconst (v := 0) hx hb dX12_books_56 (of_decide_eq_true rfl) ?_
         refine lv_istore_n (lv' := [(3, .int 0), (0, .ref (ad 55)), (1, .int a1), (2, .int a2)]) hx hb dX12_books_57 rfl hl (of_decide_eq_true rfl) rfl (fun ls hl => ?_)
         have z23 : (σ14 55 12).toInt = (σ 55 12).toInt := (congrArg Int32.toInt (show σ14 55 12 = (σ 55 12) from (jkp 12 eσ14 (of_decide_eq_true rfl))))
         have w24 : ∀ k : Nat, k < 12 → 0 ≤ (σ14 80 k).toInt ∧ (σ14 80 k).toInt ≤ 3 := (jrr_fr (jnp 80 eσ14 (of_decide_eq_true rfl)) w3)
         have I25 : jI107 σ14 := ⟨(by omega), (by omega), w24⟩
         have I26 : jI119 σ14 := jI119_fr (jnp 68 eσ14 (of_decide_eq_true rfl)) hI119
         have lp18 : ∀ (n19 : Nat) (x20 : Int32) (σ22 : Nat → Nat → Int32) (H : Heap) (locs : List Loc) (ls : Array Slot), (-(2 * (σ22 55 47).toInt) + x20.toInt + 26 : Int) < n19 → 0 ≤ x20.toInt → x20.toInt ≤ 1 → ((x20.toInt = 0) ∨ (0 ≤ A2)) → (σ22 55 47).toInt ≤ 12 → (∀ i : Nat, (i < 55 ∨ 55 < i) ∧ (i < 68 ∨ 69 < i) ∧ (i < 80 ∨ 81 < i) → σ22 i = σ14 i) → (∀ k : Nat, (k < 25 ∨ 25 < k) ∧ (k < 26 ∨ 26 < k) ∧ (k < 27 ∨ 27 < k) ∧ (k < 47 ∨ 47 < k) → σ22 55 k = σ14 55 k) → jBook σ22 → jI107 σ22 → jI119 σ22 → (((σ 55 30).toInt = -1 → (σ 55 31).toInt = -1 → jOk (σ 56) → jBf (fun k : Nat => τ 88 (60 * (A1) + (A2) + (k : Int)).toNat) (if ((σ 86 a1.toNatClampNeg).toInt) = 20 ∧ 0 ≤ A2 then ((σ 87 a1.toNatClampNeg).toInt) - (A2) else 0) ((σ 55 6).toInt) ((σ 55 10).toInt) ((σ 55 12).toInt) (σ 56) (σ22 80) (σ22 81) ((σ22 55 47).toInt) ∧ ((x20 : Int32).toInt = 0 → ¬ jBe (fun k : Nat => τ 88 (60 * (A1) + (A2) + (k : Int)).toNat) (if ((σ 86 a1.toNatClampNeg).toInt) = 20 ∧ 0 ≤ A2 then ((σ 87 a1.toNatClampNeg).toInt) - (A2) else 0) ((σ 55 6).toInt) ((σ 55 10).toInt) ((σ 55 12).toInt) (σ 56) (σ22 80) (σ22 81) ((σ22 55 47).toInt).toNat)) ∧ ((x20 : Int32).toInt = 0 ∨ (((σ 86 a1.toNatClampNeg).toInt) = 20 ∧ 0 ≤ A2))) → jH D cI cL ad σ22 τ H → va_S (jA ad) s.heap H locs → lv_has ls 6 [(3, .int x20), (0, .ref (ad 55)), (1, .int a1), (2, .int a2)] → W p l e ({ frames := 4, cells := 0, slots := 0, locals := 85 }) s m args below meth c H locs 0 0 Q (F0 m 58 ls []) := by
           intro n19
           induction n19 with
           | zero => intro x20 σ22 H locs ls h28 h29 h30 h31 h32; exact absurd h28 (by omega)
           | succ n19 ihlp18 =>
             intro x20 σ22 H locs ls h28 h29 h30 h31 h32 f33 f34 p35 p36 p37 q38 hP hS hl
             exact by
              obtain ⟨i39, i40, w41⟩ : (0 ≤ (σ22 55 47).toInt ∧ (σ22 55 47).toInt ≤ 12) ∧ ((σ22 55 47).toInt ≤ (σ22 55 12).toInt) ∧ (∀ k : Nat, k < 12 → 0 ≤ (σ22 80 k).toInt ∧ (σ22 80 k).toInt ≤ 3) := id p36
              have z42 : (σ22 55 12).toInt = (σ 55 12).toInt := (congrArg Int32.toInt (show σ22 55 12 = (σ 55 12) from ((f34 12 (of_decide_eq_true rfl)).trans (jkp 12 eσ14 (of_decide_eq_true rfl)))))
              have k43 := q38.2
              refine lv_iload_n hx hb dX12_books_58 rfl (lv_at hl 0 rfl) ?_
              refine lv_if_eq (tgt := 145) hx hb dX12_books_59 (of_decide_eq_true rfl) (fun c44 => ?_) (fun c44 => ?_)
              · have kc44 := jeq c44 rfl jz_0
                refine lv_aload_n hx hb dX12_books_145 rfl (lv_at hl 1 rfl) ?_
                refine va_get (D := D) hx hb hts inlX12 hown hK hP 55 (jc_55 cI cL ad σ22 τ) rfl 47 (of_decide_eq_true rfl) (hts _ kw_15_15) (fun _ h9 => h9) rfl dX12_books_146 ?_
                exact by exact hret (σ22 55 47) σ22 τ _ _ _ _ rfl ⟨rfl, (fun i hi => ((f33 i hi).trans (jnp i eσ14 (imp_215 i hi)))), (fun i hi => ((f34 i hi).trans (jkp i eσ14 (imp_218 i hi)))), p36, p37, p35, (fun wa9 wb9 ok => Or.inr (Or.inr ⟨by omega, by omega, (by omega), ((q38.1 wa9 wb9 ok).1).stop ((q38.1 wa9 wb9 ok).2 (by omega))⟩)), trivial⟩ hP hS dX12_books_149
              · have kc44 := jne c44 rfl jz_0
                refine lv_iload_n hx hb dX12_books_62 rfl (lv_at hl 3 rfl) ?_
                refine lv_aload_n hx hb dX12_books_63 rfl (lv_at hl 1 rfl) ?_
                refine va_get (D := D) hx hb hts inlX12 hown hK hP 55 (jc_55 cI cL ad σ22 τ) rfl 59 (of_decide_eq_true rfl) (hts _ kw_8_12) (fun _ h9 => h9) rfl dX12_books_64 ?_
                refine lv_iload_n hx hb dX12_books_67 rfl (lv_at hl 2 rfl) ?_
                exact by
                 refine jald hx hb hK hP (jc_87 cI cL ad σ22 τ) (jin t1 (by omega) (by omega)) dX12_books_68 ?_
                 have w45 : ∀ k : Nat, k < 6 → 0 ≤ (σ22 87 k).toInt ∧ (σ22 87 k).toInt ≤ 60 := (jrr_fr (f33 87 (of_decide_eq_true rfl)) (jrr_fr (jnp 87 eσ14 (of_decide_eq_true rfl)) w5))
                 have g46 := w45 _ (jnat (x := a1) t1 (n := 6) (by omega) (of_decide_eq_true rfl))
                 refine jtopr (y := (σ 87 a1.toNatClampNeg)) (by rw [f33 87 (of_decide_eq_true rfl), jnp 87 eσ14 (of_decide_eq_true rfl)]) ?_
                 rw [f33 87 (of_decide_eq_true rfl), jnp 87 eσ14 (of_decide_eq_true rfl)] at g46
                 refine lv_aload_n hx hb dX12_books_69 rfl (lv_at hl 1 rfl) ?_
                 refine va_get (D := D) hx hb hts inlX12 hown hK hP 55 (jc_55 cI cL ad σ22 τ) rfl 47 (of_decide_eq_true rfl) (hts _ kw_15_15) (fun _ h9 => h9) rfl dX12_books_70 ?_
                 have g47 := jrg (rfl : (σ 87 a1.toNatClampNeg).toInt = (σ 87 a1.toNatClampNeg).toInt)
                 have g48 := jrg (rfl : (σ22 55 47).toInt = (σ22 55 47).toInt)
                 exact by
                  refine lv_isub hx hb dX12_books_73 ?_
                  refine lv_topi (fun x49 ex49 => ?_)
                  have tx49 : x49.toInt = (σ 87 a1.toNatClampNeg).toInt - (σ22 55 47).toInt := (jsub ex49 rfl rfl (by omega) (by omega)).trans (by omega)
                  refine lv_icmp_ge (tgt := 96) hx hb dX12_books_74 (of_decide_eq_true rfl) (fun c50 => ?_) (fun c50 => ?_)
                  · have kc50 := jle c50 tx49 t2
                    refine lv_ldc2 (v := (-1)) hx hb hown (hts _ kw_43_16) dX12_books_96 ?_
                    refine lv_lstore (lv' := [(4, .long (-1)), (3, .int x20), (0, .ref (ad 55)), (1, .int a1), (2, .int a2)]) hx hb dX12_books_99 hl (of_decide_eq_true rfl) rfl (fun ls hl => ?_)
                    refine lv_lload hx hb dX12_books_101 (lv_at hl 0 rfl) ?_
                    refine lv_lconst (v := 0) hx hb dX12_books_103 (of_decide_eq_true rfl) ?_
                    exact by
                     refine W.lcmp hx hb dX12_books_104 ?_
                     refine lv_if_lt (tgt := 140) hx hb dX12_books_105 (of_decide_eq_true rfl) (fun c51 => ?_) (fun c => absurd (jcnlt c jzl_m1 jzl_0) (by omega))
                     have kc51 := jclt c51 jzl_m1 jzl_0
                     refine lv_iconst (v := 0) hx hb dX12_books_140 (of_decide_eq_true rfl) ?_
                     refine lv_istore_n (lv' := [(3, .int 0), (4, .long (-1)), (0, .ref (ad 55)), (1, .int a1), (2, .int a2)]) hx hb dX12_books_141 rfl hl (of_decide_eq_true rfl) rfl (fun ls hl => ?_)
                     refine lv_goto (tgt := 58) hx hb dX12_books_142 (of_decide_eq_true rfl) ?_
                     exact by exact ihlp18 0 σ22 _ _ ls (by have h90 := jz_0; omega) (by have h90 := jz_0; omega) (by have h90 := jz_0; omega) (by have h90 := jz_0; omega) (by have h90 := jz_0; omega) (fun i hi => (f33 i hi)) (fun i hi => (f34 i hi))  p35 p36 p37 (⟨fun wa9 wb9 ok => by
                           have hq := q38.1 wa9 wb9 ok
                           exact by exact ⟨hq.1, fun _ w => by have e := w.1; rw [if_pos (by omega)] at e; omega⟩, (by have h9 := jz_0; omega)⟩) hP hS (lv_sub hl [0, 2, 3, 4] rfl)
                  · exact by
                     have kc50 := jnle c50 tx49 t2
                     refine lv_aload_n hx hb dX12_books_77 rfl (lv_at hl 1 rfl) ?_
                     refine va_get (D := D) hx hb hts inlX12 hown hK hP 55 (jc_55 cI cL ad σ22 τ) rfl 60 (of_decide_eq_true rfl) (hts _ kw_8_13) (fun _ h9 => h9) rfl dX12_books_78 ?_
                     refine lv_bipush (v := 60) hx hb dX12_books_81 (of_decide_eq_true rfl) ?_
                     refine lv_iload_n hx hb dX12_books_83 rfl (lv_at hl 2 rfl) ?_
                     refine lv_imul hx hb dX12_books_84 ?_
                     refine lv_topi (fun x52 ex52 => ?_)
                     have tx52 : x52.toInt = 60 * A1 := (jmul ex52 jz_60 t1 (by omega) (by omega)).trans (by omega)
                     refine lv_iload_n hx hb dX12_books_85 rfl (lv_at hl 3 rfl) ?_
                     exact by
                      refine lv_iadd hx hb dX12_books_86 ?_
                      refine lv_topi (fun x53 ex53 => ?_)
                      have tx53 : x53.toInt = 60 * A1 + A2 := (jadd ex53 tx52 t2 (by omega) (by omega)).trans (by omega)
                      refine lv_aload_n hx hb dX12_books_87 rfl (lv_at hl 1 rfl) ?_
                      refine va_get (D := D) hx hb hts inlX12 hown hK hP 55 (jc_55 cI cL ad σ22 τ) rfl 47 (of_decide_eq_true rfl) (hts _ kw_15_15) (fun _ h9 => h9) rfl dX12_books_88 ?_
                      refine lv_iadd hx hb dX12_books_91 ?_
                      refine lv_topi (fun x54 ex54 => ?_)
                      have tx54 : x54.toInt = 60 * A1 + A2 + (σ22 55 47).toInt := (jadd ex54 tx53 rfl (by omega) (by omega)).trans (by omega)
                      refine jaldL hx hb hK hP (jc_88 cI cL ad σ22 τ) (jin tx54 (by omega) (by omega)) dX12_books_92 ?_
                      exact by
                       refine lv_topl (fun lx55 elx55 => ?_)
                       refine lv_goto (tgt := 99) hx hb dX12_books_93 (of_decide_eq_true rfl) ?_
                       refine lv_lstore (lv' := [(4, .long lx55), (3, .int x20), (0, .ref (ad 55)), (1, .int a1), (2, .int a2)]) hx hb dX12_books_99 hl (of_decide_eq_true rfl) rfl (fun ls hl => ?_)
                       refine lv_lload hx hb dX12_books_101 (lv_at hl 0 rfl) ?_
                       refine lv_lconst (v := 0) hx hb dX12_books_103 (of_decide_eq_true rfl) ?_
                       refine W.lcmp hx hb dX12_books_104 ?_
                       refine lv_if_lt (tgt := 140) hx hb dX12_books_105 (of_decide_eq_true rfl) (fun c56 => ?_) (fun c56 => ?_)
                       · have kc56 := jclt c56 rfl jzl_0
                         refine lv_iconst (v := 0) hx hb dX12_books_140 (of_decide_eq_true rfl) ?_
                         refine lv_istore_n (lv' := [(3, .int 0), (4, .long lx55), (0, .ref (ad 55)), (1, .int a1), (2, .int a2)]) hx hb dX12_books_141 rfl hl (of_decide_eq_true rfl) rfl (fun ls hl => ?_)
                         refine lv_goto (tgt := 58) hx hb dX12_books_142 (of_decide_eq_true rfl) ?_
                         exact by exact ihlp18 0 σ22 _ _ ls (by have h90 := jz_0; omega) (by have h90 := jz_0; omega) (by have h90 := jz_0; omega) (by have h90 := jz_0; omega) (by have h90 := jz_0; omega) (fun i hi => (f33 i hi)) (fun i hi => (f34 i hi))  p35 p36 p37 (⟨fun wa9 wb9 ok => by
                               have hq := q38.1 wa9 wb9 ok
                               have hE : (τ 88 (60 * (A1) + (A2) + ((((σ22 55 47).toInt).toNat : Nat) : Int)).toNat).toInt = lx55.toInt := by rw [elx55, jnc (show x54.toInt = 60 * (A1) + (A2) + ((((σ22 55 47).toInt).toNat : Nat) : Int) by have h9 := tx54; omega)]
                               refine ⟨hq.1, fun _ w => ?_⟩
                               obtain ⟨w1, w2, w3, b, w4, w5⟩ := w
                               have w2 : 0 ≤ (τ 88 (60 * (A1) + (A2) + ((((σ22 55 47).toInt).toNat : Nat) : Int)).toNat).toInt ∧ (τ 88 (60 * (A1) + (A2) + ((((σ22 55 47).toInt).toNat : Nat) : Int)).toNat).toInt < 20 := w2
                               have w3 : (τ 88 (60 * (A1) + (A2) + ((((σ22 55 47).toInt).toNat : Nat) : Int)).toNat).toInt % 10 < (σ 55 6).toInt := w3
                               have w4 : b.toInt = (τ 88 (60 * (A1) + (A2) + ((((σ22 55 47).toInt).toNat : Nat) : Int)).toNat).toInt % 10 := w4
                               omega, (by have h9 := jz_0; omega)⟩) hP hS (lv_sub hl [0, 2, 3, 4] rfl)
                       · exact by
                          have kc56 := jcnlt c56 rfl jzl_0
                          refine lv_lload hx hb dX12_books_108 (lv_at hl 0 rfl) ?_
                          refine lv_ldc2 (v := 20) hx hb hown (hts _ kw_9_12) dX12_books_110 ?_
                          refine W.lcmp hx hb dX12_books_113 ?_
                          refine lv_if_ge (tgt := 140) hx hb dX12_books_114 (of_decide_eq_true rfl) (fun c57 => ?_) (fun c57 => ?_)
                          · have kc57 := jcge c57 rfl jzl_20
                            refine lv_iconst (v := 0) hx hb dX12_books_140 (of_decide_eq_true rfl) ?_
                            refine lv_istore_n (lv' := [(3, .int 0), (4, .long lx55), (0, .ref (ad 55)), (1, .int a1), (2, .int a2)]) hx hb dX12_books_141 rfl hl (of_decide_eq_true rfl) rfl (fun ls hl => ?_)
                            refine lv_goto (tgt := 58) hx hb dX12_books_142 (of_decide_eq_true rfl) ?_
                            exact by exact ihlp18 0 σ22 _ _ ls (by have h90 := jz_0; omega) (by have h90 := jz_0; omega) (by have h90 := jz_0; omega) (by have h90 := jz_0; omega) (by have h90 := jz_0; omega) (fun i hi => (f33 i hi)) (fun i hi => (f34 i hi))  p35 p36 p37 (⟨fun wa9 wb9 ok => by
                                  have hq := q38.1 wa9 wb9 ok
                                  have hE : (τ 88 (60 * (A1) + (A2) + ((((σ22 55 47).toInt).toNat : Nat) : Int)).toNat).toInt = lx55.toInt := by rw [elx55, jnc (show x54.toInt = 60 * (A1) + (A2) + ((((σ22 55 47).toInt).toNat : Nat) : Int) by have h9 := tx54; omega)]
                                  refine ⟨hq.1, fun _ w => ?_⟩
                                  obtain ⟨w1, w2, w3, b, w4, w5⟩ := w
                                  have w2 : 0 ≤ (τ 88 (60 * (A1) + (A2) + ((((σ22 55 47).toInt).toNat : Nat) : Int)).toNat).toInt ∧ (τ 88 (60 * (A1) + (A2) + ((((σ22 55 47).toInt).toNat : Nat) : Int)).toNat).toInt < 20 := w2
                                  have w3 : (τ 88 (60 * (A1) + (A2) + ((((σ22 55 47).toInt).toNat : Nat) : Int)).toNat).toInt % 10 < (σ 55 6).toInt := w3
                                  have w4 : b.toInt = (τ 88 (60 * (A1) + (A2) + ((((σ22 55 47).toInt).toNat : Nat) : Int)).toNat).toInt % 10 := w4
                                  omega, (by have h9 := jz_0; omega)⟩) hP hS (lv_sub hl [0, 2, 3, 4] rfl)
                          · exact by
                             have kc57 := jcnge c57 rfl jzl_20
                             refine lv_aload_n hx hb dX12_books_117 rfl (lv_at hl 2 rfl) ?_
                             refine lv_lload hx hb dX12_books_118 (lv_at hl 0 rfl) ?_
                             refine lv_l2i hx hb dX12_books_120 rfl ?_
                             refine lv_topi (fun x58 ex58 => ?_)
                             have tx58 : x58.toInt = lx55.toInt := jtoI ex58 rfl (by omega) (by omega)
                             refine lv_bipush (v := 10) hx hb dX12_books_121 (of_decide_eq_true rfl) ?_
                             refine lv_irem hx hb dX12_books_123 (of_decide_eq_true rfl) ?_
                             refine lv_topi (fun x59 ex59 => ?_)
                             exact by
                              have tx59 : x59.toInt = (lx55.toInt % 10) := jrem ex59 tx58 jz_10 (by omega)
                              refine lv_lload hx hb dX12_books_124 (lv_at hl 0 rfl) ?_
                              refine lv_l2i hx hb dX12_books_126 rfl ?_
                              refine lv_topi (fun x60 ex60 => ?_)
                              have tx60 : x60.toInt = lx55.toInt := jtoI ex60 rfl (by omega) (by omega)
                              refine lv_bipush (v := 10) hx hb dX12_books_127 (of_decide_eq_true rfl) ?_
                              refine lv_idiv hx hb dX12_books_129 (of_decide_eq_true rfl) ?_
                              refine lv_topi (fun x61 ex61 => ?_)
                              have tx61 : x61.toInt = (lx55.toInt / 10) := jdiv ex61 tx60 jz_10 (by omega) (by omega)
                              exact by
                               have I62 : jI102 σ22 := jI102_fr ((f34 6 (of_decide_eq_true rfl)).trans (jkp 6 eσ14 (of_decide_eq_true rfl))) ((f33 60 (of_decide_eq_true rfl)).trans (jnp 60 eσ14 (of_decide_eq_true rfl))) ((f33 61 (of_decide_eq_true rfl)).trans (jnp 61 eσ14 (of_decide_eq_true rfl))) hI102
                               have I63 : jI104 σ22 := jI104_fr ((f34 10 (of_decide_eq_true rfl)).trans (jkp 10 eσ14 (of_decide_eq_true rfl))) ((f34 12 (of_decide_eq_true rfl)).trans (jkp 12 eσ14 (of_decide_eq_true rfl))) ((f34 13 (of_decide_eq_true rfl)).trans (jkp 13 eσ14 (of_decide_eq_true rfl))) ((f33 62 (of_decide_eq_true rfl)).trans (jnp 62 eσ14 (of_decide_eq_true rfl))) ((f33 67 (of_decide_eq_true rfl)).trans (jnp 67 eσ14 (of_decide_eq_true rfl))) hI104
                               have w64 : ∀ k : Nat, k < 4 → 0 ≤ (σ22 68 k).toInt ∧ (σ22 68 k).toInt ≤ 3 := p37
                               refine jcallV (As := [.int x59, .int x61]) (rest := []) ⟨hx, hb, hml, hown, hts⟩ hK hP hA hS hZ (c_X12_book l D cI cL ad zz hJ σ22 τ x59 ((lx55.toInt % 10)) tx59 x61 ((lx55.toInt / 10)) tx61 I62 I63 p36 w64 p35) cw_RX12_366 (jc_55 cI cL ad σ22 τ) rfl ⟨Nat.le_of_ble_eq_true rfl, Nat.le_of_ble_eq_true rfl⟩ rfl rfl rfl hl.1 rfl (Nat.le_of_ble_eq_true rfl) dX12_books_130 ⟨Nat.zero_le _, Nat.zero_le _⟩ (fun r66 σ65 τ65 H locs h65 hP hS => ?_)
                               obtain ⟨rfl, f67, f68, I69, w70, p71, w72, h65⟩ := h65
                               obtain ⟨i74, i75, w76⟩ : (0 ≤ (σ65 55 47).toInt ∧ (σ65 55 47).toInt ≤ 12) ∧ ((σ65 55 47).toInt ≤ (σ65 55 12).toInt) ∧ (∀ k : Nat, k < 12 → 0 ≤ (σ65 80 k).toInt ∧ (σ65 80 k).toInt ≤ 3) := id I69
                               have z77 : (σ65 55 12).toInt = (σ 55 12).toInt := (congrArg Int32.toInt (show σ65 55 12 = (σ 55 12) from ((f68 12 (of_decide_eq_true rfl)).trans ((f34 12 (of_decide_eq_true rfl)).trans (jkp 12 eσ14 (of_decide_eq_true rfl))))))
                               rcases h65 with h78 | h79
                               · obtain ⟨q82, k80, k81⟩ := h78
                                 exact by
                                  refine lv_if_le (tgt := 140) hx hb dX12_books_133 (of_decide_eq_true rfl) (fun c => absurd (jle c rfl jz_0) (by omega)) (fun c83 => ?_)
                                  have kc83 := jnle c83 rfl jz_0
                                  refine lv_iconst (v := 1) hx hb dX12_books_136 (of_decide_eq_true rfl) ?_
                                  refine lv_goto (tgt := 141) hx hb dX12_books_137 (of_decide_eq_true rfl) ?_
                                  refine lv_istore_n (lv' := [(3, .int 1), (4, .long lx55), (0, .ref (ad 55)), (1, .int a1), (2, .int a2)]) hx hb dX12_books_141 rfl hl (of_decide_eq_true rfl) rfl (fun ls hl => ?_)
                                  refine lv_goto (tgt := 58) hx hb dX12_books_142 (of_decide_eq_true rfl) ?_
                                  have I84 : jI119 σ65 := w70
                                  have z86 : (σ22 55 6).toInt = (σ 55 6).toInt := (congrArg Int32.toInt (show σ22 55 6 = (σ 55 6) from ((f34 6 (of_decide_eq_true rfl)).trans (jkp 6 eσ14 (of_decide_eq_true rfl)))))
                                  have z87 : (σ22 55 10).toInt = (σ 55 10).toInt := (congrArg Int32.toInt (show σ22 55 10 = (σ 55 10) from ((f34 10 (of_decide_eq_true rfl)).trans (jkp 10 eσ14 (of_decide_eq_true rfl)))))
                                  have z88 : (σ22 55 30).toInt = (σ 55 30).toInt := (congrArg Int32.toInt (show σ22 55 30 = (σ 55 30) from ((f34 30 (of_decide_eq_true rfl)).trans (jkp 30 eσ14 (of_decide_eq_true rfl)))))
                                  have z89 : (σ22 55 31).toInt = (σ 55 31).toInt := (congrArg Int32.toInt (show σ22 55 31 = (σ 55 31) from ((f34 31 (of_decide_eq_true rfl)).trans (jkp 31 eσ14 (of_decide_eq_true rfl)))))
                                  exact by exact ihlp18 1 σ65 _ _ ls (by have h90 := jz_1; omega) (by have h90 := jz_1; omega) (by have h90 := jz_1; omega) (by have h90 := jz_1; omega) (by have h90 := jz_1; omega) (fun i hi => ((f67 i hi).trans (f33 i hi))) (fun i hi => ((f68 i hi).trans (f34 i hi)))  p71 I69 I84 (⟨fun wa9 wb9 ok => by
                                        have hq := q38.1 wa9 wb9 ok
                                        have hE : (τ 88 (60 * (A1) + (A2) + ((((σ22 55 47).toInt).toNat : Nat) : Int)).toNat).toInt = lx55.toInt := by rw [elx55, jnc (show x54.toInt = 60 * (A1) + (A2) + ((((σ22 55 47).toInt).toNat : Nat) : Int) by have h9 := tx54; omega)]
                                        have hb := w72
                                        rw [show (σ22 55 6).toInt = (σ 55 6).toInt from by omega, show (σ22 55 10).toInt = (σ 55 10).toInt from by omega, show (σ22 55 12).toInt = (σ 55 12).toInt from by omega, show (σ22 55 30).toInt = (σ 55 30).toInt from by omega, show (σ22 55 31).toInt = (σ 55 31).toInt from by omega, show σ22 56 = σ 56 from ((f33 56 (of_decide_eq_true rfl)).trans (jnp 56 eσ14 (of_decide_eq_true rfl)))] at hb
                                        have hb := hb wa9 wb9 ok
                                        rcases hb with ⟨b1, b2, b3, b4, b5⟩ | ⟨b1, b2, b3, b4, b5, b6⟩ | ⟨b1, b2, b3, b4, b5, b6⟩
                                        · exact absurd b1 (by omega)
                                        · exact absurd b1 (by omega)
                                        · exact by exact ⟨hq.1.step b5 b6 (by rw [if_pos (by omega)]; omega) (by show 0 ≤ _ ∧ _ < (20 : Int); rw [hE]; omega) (by show _ % 10 < _; rw [hE]; have h9 := tx59; omega) (by show _ = _ % 10; rw [hE]; have h9 := tx59; omega) (by show _ = _ / 10; rw [hE]; have h9 := tx61; omega) b3 (by omega), fun h => False.elim (by have h9 := jz_1; omega)⟩, (by have h9 := jz_1; omega)⟩) hP hS (lv_sub hl [0, 2, 3, 4] rfl)
                               · obtain ⟨q92, k90, k91⟩ := h79
                                 exact by
                                  refine lv_if_le (tgt := 140) hx hb dX12_books_133 (of_decide_eq_true rfl) (fun c93 => ?_) (fun c => absurd (jnle c rfl jz_0) (by omega))
                                  have kc93 := jle c93 rfl jz_0
                                  refine lv_iconst (v := 0) hx hb dX12_books_140 (of_decide_eq_true rfl) ?_
                                  refine lv_istore_n (lv' := [(3, .int 0), (4, .long lx55), (0, .ref (ad 55)), (1, .int a1), (2, .int a2)]) hx hb dX12_books_141 rfl hl (of_decide_eq_true rfl) rfl (fun ls hl => ?_)
                                  refine lv_goto (tgt := 58) hx hb dX12_books_142 (of_decide_eq_true rfl) ?_
                                  have I94 : jI119 σ65 := w70
                                  have z96 : (σ22 55 6).toInt = (σ 55 6).toInt := (congrArg Int32.toInt (show σ22 55 6 = (σ 55 6) from ((f34 6 (of_decide_eq_true rfl)).trans (jkp 6 eσ14 (of_decide_eq_true rfl)))))
                                  have z97 : (σ22 55 10).toInt = (σ 55 10).toInt := (congrArg Int32.toInt (show σ22 55 10 = (σ 55 10) from ((f34 10 (of_decide_eq_true rfl)).trans (jkp 10 eσ14 (of_decide_eq_true rfl)))))
                                  have z98 : (σ22 55 30).toInt = (σ 55 30).toInt := (congrArg Int32.toInt (show σ22 55 30 = (σ 55 30) from ((f34 30 (of_decide_eq_true rfl)).trans (jkp 30 eσ14 (of_decide_eq_true rfl)))))
                                  have z99 : (σ22 55 31).toInt = (σ 55 31).toInt := (congrArg Int32.toInt (show σ22 55 31 = (σ 55 31) from ((f34 31 (of_decide_eq_true rfl)).trans (jkp 31 eσ14 (of_decide_eq_true rfl)))))
                                  exact by exact ihlp18 0 σ65 _ _ ls (by have h90 := jz_0; omega) (by have h90 := jz_0; omega) (by have h90 := jz_0; omega) (by have h90 := jz_0; omega) (by have h90 := jz_0; omega) (fun i hi => ((f67 i hi).trans (f33 i hi))) (fun i hi => ((f68 i hi).trans (f34 i hi)))  p71 I69 I94 (⟨fun wa9 wb9 ok => by
                                        have hq := q38.1 wa9 wb9 ok
                                        have hE : (τ 88 (60 * (A1) + (A2) + ((((σ22 55 47).toInt).toNat : Nat) : Int)).toNat).toInt = lx55.toInt := by rw [elx55, jnc (show x54.toInt = 60 * (A1) + (A2) + ((((σ22 55 47).toInt).toNat : Nat) : Int) by have h9 := tx54; omega)]
                                        have hb := w72
                                        rw [show (σ22 55 6).toInt = (σ 55 6).toInt from by omega, show (σ22 55 10).toInt = (σ 55 10).toInt from by omega, show (σ22 55 12).toInt = (σ 55 12).toInt from by omega, show (σ22 55 30).toInt = (σ 55 30).toInt from by omega, show (σ22 55 31).toInt = (σ 55 31).toInt from by omega, show σ22 56 = σ 56 from ((f33 56 (of_decide_eq_true rfl)).trans (jnp 56 eσ14 (of_decide_eq_true rfl)))] at hb
                                        have hb := hb wa9 wb9 ok
                                        rcases hb with ⟨b1, b2, b3, b4, b5⟩ | ⟨b1, b2, b3, b4, b5, b6⟩ | ⟨b1, b2, b3, b4, b5, b6⟩
                                        · rw [b3, b4, b5]
                                          refine ⟨hq.1, fun _ w => ?_⟩
                                          obtain ⟨w1, w2, w3, b, w4, w5⟩ := w
                                          have w2 : 0 ≤ (τ 88 (60 * (A1) + (A2) + ((((σ22 55 47).toInt).toNat : Nat) : Int)).toNat).toInt ∧ (τ 88 (60 * (A1) + (A2) + ((((σ22 55 47).toInt).toNat : Nat) : Int)).toNat).toInt < 20 := w2
                                          have w3 : (τ 88 (60 * (A1) + (A2) + ((((σ22 55 47).toInt).toNat : Nat) : Int)).toNat).toInt % 10 < (σ 55 6).toInt := w3
                                          have w4 : b.toInt = (τ 88 (60 * (A1) + (A2) + ((((σ22 55 47).toInt).toNat : Nat) : Int)).toNat).toInt % 10 := w4
                                          exact b2 ⟨by have h9 := tx59; omega, by have h9 := tx59; omega, by have h9 := tx61; omega, by have h9 := tx61; omega⟩
                                        · rw [b4, b5, b6]
                                          refine ⟨hq.1, fun _ w => ?_⟩
                                          obtain ⟨w1, w2, w3, b, w4, w5⟩ := w
                                          have w2 : 0 ≤ (τ 88 (60 * (A1) + (A2) + ((((σ22 55 47).toInt).toNat : Nat) : Int)).toNat).toInt ∧ (τ 88 (60 * (A1) + (A2) + ((((σ22 55 47).toInt).toNat : Nat) : Int)).toNat).toInt < 20 := w2
                                          have w3 : (τ 88 (60 * (A1) + (A2) + ((((σ22 55 47).toInt).toNat : Nat) : Int)).toNat).toInt % 10 < (σ 55 6).toInt := w3
                                          have w4 : b.toInt = (τ 88 (60 * (A1) + (A2) + ((((σ22 55 47).toInt).toNat : Nat) : Int)).toNat).toInt % 10 := w4
                                          rw [show (((σ22 55 47).toInt).toNat : Int) = (σ22 55 47).toInt by omega, show b = x59 from Int32.toInt_inj.mp (by have h9 := tx59; omega)] at w5
                                          exact b3 w5
                                        · exact by exact absurd b1 (by omega), (by have h9 := jz_0; omega)⟩) hP hS (lv_sub hl [0, 2, 3, 4] rfl)
         exact by exact lp18 1000000 0 σ14 _ _ ls (by have h90 := jz_0; omega) (by have h90 := jz_0; omega) (by have h90 := jz_0; omega) (by have h90 := jz_0; omega) (by have h90 := jz_0; omega) (fun _ _ => rfl) (fun _ _ => rfl)  p16 I25 I26 ⟨fun wa9 wb9 ok => ⟨jBf.first (by omega), (fun _ w => by have e := w.1; rw [if_neg (by omega)] at e; omega)⟩, (by have h9 := jz_0; omega)⟩ hP hS hl
     · exact by
        have kc13 := jnlt c13 rfl jz_0
        refine lv_aload_n hx hb dX12_books_18 rfl (lv_at hl 0 rfl) ?_
        refine va_get (D := D) hx hb hts inlX12 hown hK hP 55 (jc_55 cI cL ad σ τ) rfl 58 (of_decide_eq_true rfl) (hts _ kw_8_11) (fun _ h9 => h9) rfl dX12_books_19 ?_
        refine lv_iload_n hx hb dX12_books_22 rfl (lv_at hl 1 rfl) ?_
        refine jald hx hb hK hP (jc_86 cI cL ad σ τ) (jin t1 (by omega) (by omega)) dX12_books_23 ?_
        have g100 := w4 _ (jnat (x := a1) t1 (n := 6) (by omega) (of_decide_eq_true rfl))
        refine jtopr (y := (σ 86 a1.toNatClampNeg)) rfl ?_
        refine lv_bipush (v := 20) hx hb dX12_books_24 (of_decide_eq_true rfl) ?_
        refine lv_icmp_eq (tgt := 32) hx hb dX12_books_26 (of_decide_eq_true rfl) (fun c101 => ?_) (fun c101 => ?_)
        · exact by
           have kc101 := jeq c101 rfl jz_20
           refine lv_aload_n hx hb dX12_books_32 rfl (lv_at hl 0 rfl) ?_
           refine lv_iconst (v := 0) hx hb dX12_books_33 (of_decide_eq_true rfl) ?_
           refine jput (ty := .int) hx hb hts inlX12 tyX12 tyX12_ok nmX12 hown hK hP hJ hA hS (jc_55 cI cL ad σ τ) rfl (k := 47) (of_decide_eq_true rfl) (Nat.le_of_ble_eq_true rfl) (jp_55_47 cI cL ad σ τ 0) (hts _ kw_15_15) (fun _ h9 => h9) rfl (by decide +kernel) rfl rfl dX12_books_34 (fun σ102 H locs eσ102 hP hS => ?_)
           have z103 : (σ102 55 47).toInt = 0 := ((congrArg Int32.toInt (show σ102 55 47 = 0 from (jsp eσ102))).trans jz_0)
           have p104 : jBook σ102 := jBook.nil (by omega)
           refine lv_aload_n hx hb dX12_books_37 rfl (lv_at hl 0 rfl) ?_
           refine va_get (D := D) hx hb hts inlX12 hown hK hP 55 (jc_55 cI cL ad σ102 τ) rfl 58 (of_decide_eq_true rfl) (hts _ kw_8_11) (fun _ h9 => h9) rfl dX12_books_38 ?_
           refine lv_iload_n hx hb dX12_books_41 rfl (lv_at hl 1 rfl) ?_
           exact by
            refine jald hx hb hK hP (jc_86 cI cL ad σ102 τ) (jin t1 (by omega) (by omega)) dX12_books_42 ?_
            refine jtopr (y := (σ 86 a1.toNatClampNeg)) (by rw [jnp 86 eσ102 (of_decide_eq_true rfl)]) ?_
            refine lv_bipush (v := 20) hx hb dX12_books_43 (of_decide_eq_true rfl) ?_
            refine lv_icmp_ne (tgt := 56) hx hb dX12_books_45 (of_decide_eq_true rfl) (fun c => absurd (jne c rfl jz_20) (by omega)) (fun c105 => ?_)
            have kc105 := jeq c105 rfl jz_20
            refine lv_iload_n hx hb dX12_books_48 rfl (lv_at hl 2 rfl) ?_
            refine lv_if_lt (tgt := 56) hx hb dX12_books_49 (of_decide_eq_true rfl) (fun c106 => ?_) (fun c106 => ?_)
            · have kc106 := jlt c106 t2 jz_0
              refine lv_iconst (v := 0) hx hb dX12_books_56 (of_decide_eq_true rfl) ?_
              exact by
               refine lv_istore_n (lv' := [(3, .int 0), (0, .ref (ad 55)), (1, .int a1), (2, .int a2)]) hx hb dX12_books_57 rfl hl (of_decide_eq_true rfl) rfl (fun ls hl => ?_)
               have z112 : (σ102 55 12).toInt = (σ 55 12).toInt := (congrArg Int32.toInt (show σ102 55 12 = (σ 55 12) from (jkp 12 eσ102 (of_decide_eq_true rfl))))
               have w113 : ∀ k : Nat, k < 12 → 0 ≤ (σ102 80 k).toInt ∧ (σ102 80 k).toInt ≤ 3 := (jrr_fr (jnp 80 eσ102 (of_decide_eq_true rfl)) w3)
               have I114 : jI107 σ102 := ⟨(by omega), (by omega), w113⟩
               have I115 : jI119 σ102 := jI119_fr (jnp 68 eσ102 (of_decide_eq_true rfl)) hI119
               have lp107 : ∀ (n108 : Nat) (x109 : Int32) (σ111 : Nat → Nat → Int32) (H : Heap) (locs : List Loc) (ls : Array Slot), (-(2 * (σ111 55 47).toInt) + x109.toInt + 26 : Int) < n108 → 0 ≤ x109.toInt → x109.toInt ≤ 1 → ((x109.toInt = 0) ∨ (0 ≤ A2)) → (σ111 55 47).toInt ≤ 12 → (∀ i : Nat, (i < 55 ∨ 55 < i) ∧ (i < 68 ∨ 69 < i) ∧ (i < 80 ∨ 81 < i) → σ111 i = σ102 i) → (∀ k : Nat, (k < 25 ∨ 25 < k) ∧ (k < 26 ∨ 26 < k) ∧ (k < 27 ∨ 27 < k) ∧ (k < 47 ∨ 47 < k) → σ111 55 k = σ102 55 k) → jBook σ111 → jI107 σ111 → jI119 σ111 → (((σ 55 30).toInt = -1 → (σ 55 31).toInt = -1 → jOk (σ 56) → jBf (fun k : Nat => τ 88 (60 * (A1) + (A2) + (k : Int)).toNat) (if ((σ 86 a1.toNatClampNeg).toInt) = 20 ∧ 0 ≤ A2 then ((σ 87 a1.toNatClampNeg).toInt) - (A2) else 0) ((σ 55 6).toInt) ((σ 55 10).toInt) ((σ 55 12).toInt) (σ 56) (σ111 80) (σ111 81) ((σ111 55 47).toInt) ∧ ((x109 : Int32).toInt = 0 → ¬ jBe (fun k : Nat => τ 88 (60 * (A1) + (A2) + (k : Int)).toNat) (if ((σ 86 a1.toNatClampNeg).toInt) = 20 ∧ 0 ≤ A2 then ((σ 87 a1.toNatClampNeg).toInt) - (A2) else 0) ((σ 55 6).toInt) ((σ 55 10).toInt) ((σ 55 12).toInt) (σ 56) (σ111 80) (σ111 81) ((σ111 55 47).toInt).toNat)) ∧ ((x109 : Int32).toInt = 0 ∨ (((σ 86 a1.toNatClampNeg).toInt) = 20 ∧ 0 ≤ A2))) → jH D cI cL ad σ111 τ H → va_S (jA ad) s.heap H locs → lv_has ls 6 [(3, .int x109), (0, .ref (ad 55)), (1, .int a1), (2, .int a2)] → W p l e ({ frames := 4, cells := 0, slots := 0, locals := 85 }) s m args below meth c H locs 0 0 Q (F0 m 58 ls []) := by
                 intro n108
                 induction n108 with
                 | zero => intro x109 σ111 H locs ls h117 h118 h119 h120 h121; exact absurd h117 (by omega)
                 | succ n108 ihlp107 =>
                   intro x109 σ111 H locs ls h117 h118 h119 h120 h121 f122 f123 p124 p125 p126 q127 hP hS hl
                   exact by
                    obtain ⟨i128, i129, w130⟩ : (0 ≤ (σ111 55 47).toInt ∧ (σ111 55 47).toInt ≤ 12) ∧ ((σ111 55 47).toInt ≤ (σ111 55 12).toInt) ∧ (∀ k : Nat, k < 12 → 0 ≤ (σ111 80 k).toInt ∧ (σ111 80 k).toInt ≤ 3) := id p125
                    have z131 : (σ111 55 12).toInt = (σ 55 12).toInt := (congrArg Int32.toInt (show σ111 55 12 = (σ 55 12) from ((f123 12 (of_decide_eq_true rfl)).trans (jkp 12 eσ102 (of_decide_eq_true rfl)))))
                    have k132 := q127.2
                    refine lv_iload_n hx hb dX12_books_58 rfl (lv_at hl 0 rfl) ?_
                    refine lv_if_eq (tgt := 145) hx hb dX12_books_59 (of_decide_eq_true rfl) (fun c133 => ?_) (fun c => absurd (jne c rfl jz_0) (by omega))
                    have kc133 := jeq c133 rfl jz_0
                    refine lv_aload_n hx hb dX12_books_145 rfl (lv_at hl 1 rfl) ?_
                    refine va_get (D := D) hx hb hts inlX12 hown hK hP 55 (jc_55 cI cL ad σ111 τ) rfl 47 (of_decide_eq_true rfl) (hts _ kw_15_15) (fun _ h9 => h9) rfl dX12_books_146 ?_
                    exact by exact hret (σ111 55 47) σ111 τ _ _ _ _ rfl ⟨rfl, (fun i hi => ((f122 i hi).trans (jnp i eσ102 (imp_215 i hi)))), (fun i hi => ((f123 i hi).trans (jkp i eσ102 (imp_218 i hi)))), p125, p126, p124, (fun wa9 wb9 ok => Or.inr (Or.inr ⟨by omega, by omega, (by omega), ((q127.1 wa9 wb9 ok).1).stop ((q127.1 wa9 wb9 ok).2 (by omega))⟩)), trivial⟩ hP hS dX12_books_149
               exact by exact lp107 1000000 0 σ102 _ _ ls (by have h90 := jz_0; omega) (by have h90 := jz_0; omega) (by have h90 := jz_0; omega) (by have h90 := jz_0; omega) (by have h90 := jz_0; omega) (fun _ _ => rfl) (fun _ _ => rfl)  p104 I114 I115 ⟨fun wa9 wb9 ok => ⟨jBf.first (by omega), (fun _ w => by have e := w.1; rw [if_neg (by omega)] at e; omega)⟩, (by have h9 := jz_0; omega)⟩ hP hS hl
            · exact by
               have kc106 := jnlt c106 t2 jz_0
               refine lv_iconst (v := 1) hx hb dX12_books_52 (of_decide_eq_true rfl) ?_
               refine lv_goto (tgt := 57) hx hb dX12_books_53 (of_decide_eq_true rfl) ?_
               refine lv_istore_n (lv' := [(3, .int 1), (0, .ref (ad 55)), (1, .int a1), (2, .int a2)]) hx hb dX12_books_57 rfl hl (of_decide_eq_true rfl) rfl (fun ls hl => ?_)
               have z139 : (σ102 55 12).toInt = (σ 55 12).toInt := (congrArg Int32.toInt (show σ102 55 12 = (σ 55 12) from (jkp 12 eσ102 (of_decide_eq_true rfl))))
               have w140 : ∀ k : Nat, k < 12 → 0 ≤ (σ102 80 k).toInt ∧ (σ102 80 k).toInt ≤ 3 := (jrr_fr (jnp 80 eσ102 (of_decide_eq_true rfl)) w3)
               have I141 : jI107 σ102 := ⟨(by omega), (by omega), w140⟩
               have I142 : jI119 σ102 := jI119_fr (jnp 68 eσ102 (of_decide_eq_true rfl)) hI119
               have lp134 : ∀ (n135 : Nat) (x136 : Int32) (σ138 : Nat → Nat → Int32) (H : Heap) (locs : List Loc) (ls : Array Slot), (-(2 * (σ138 55 47).toInt) + x136.toInt + 26 : Int) < n135 → 0 ≤ x136.toInt → x136.toInt ≤ 1 → ((x136.toInt = 0) ∨ (0 ≤ A2)) → (σ138 55 47).toInt ≤ 12 → (∀ i : Nat, (i < 55 ∨ 55 < i) ∧ (i < 68 ∨ 69 < i) ∧ (i < 80 ∨ 81 < i) → σ138 i = σ102 i) → (∀ k : Nat, (k < 25 ∨ 25 < k) ∧ (k < 26 ∨ 26 < k) ∧ (k < 27 ∨ 27 < k) ∧ (k < 47 ∨ 47 < k) → σ138 55 k = σ102 55 k) → jBook σ138 → jI107 σ138 → jI119 σ138 → (((σ 55 30).toInt = -1 → (σ 55 31).toInt = -1 → jOk (σ 56) → jBf (fun k : Nat => τ 88 (60 * (A1) + (A2) + (k : Int)).toNat) (if ((σ 86 a1.toNatClampNeg).toInt) = 20 ∧ 0 ≤ A2 then ((σ 87 a1.toNatClampNeg).toInt) - (A2) else 0) ((σ 55 6).toInt) ((σ 55 10).toInt) ((σ 55 12).toInt) (σ 56) (σ138 80) (σ138 81) ((σ138 55 47).toInt) ∧ ((x136 : Int32).toInt = 0 → ¬ jBe (fun k : Nat => τ 88 (60 * (A1) + (A2) + (k : Int)).toNat) (if ((σ 86 a1.toNatClampNeg).toInt) = 20 ∧ 0 ≤ A2 then ((σ 87 a1.toNatClampNeg).toInt) - (A2) else 0) ((σ 55 6).toInt) ((σ 55 10).toInt) ((σ 55 12).toInt) (σ 56) (σ138 80) (σ138 81) ((σ138 55 47).toInt).toNat)) ∧ ((x136 : Int32).toInt = 0 ∨ (((σ 86 a1.toNatClampNeg).toInt) = 20 ∧ 0 ≤ A2))) → jH D cI cL ad σ138 τ H → va_S (jA ad) s.heap H locs → lv_has ls 6 [(3, .int x136), (0, .ref (ad 55)), (1, .int a1), (2, .int a2)] → W p l e ({ frames := 4, cells := 0, slots := 0, locals := 85 }) s m args below meth c H locs 0 0 Q (F0 m 58 ls []) := by
                 intro n135
                 induction n135 with
                 | zero => intro x136 σ138 H locs ls h144 h145 h146 h147 h148; exact absurd h144 (by omega)
                 | succ n135 ihlp134 =>
                   intro x136 σ138 H locs ls h144 h145 h146 h147 h148 f149 f150 p151 p152 p153 q154 hP hS hl
                   exact by
                    obtain ⟨i155, i156, w157⟩ : (0 ≤ (σ138 55 47).toInt ∧ (σ138 55 47).toInt ≤ 12) ∧ ((σ138 55 47).toInt ≤ (σ138 55 12).toInt) ∧ (∀ k : Nat, k < 12 → 0 ≤ (σ138 80 k).toInt ∧ (σ138 80 k).toInt ≤ 3) := id p152
                    have z158 : (σ138 55 12).toInt = (σ 55 12).toInt := (congrArg Int32.toInt (show σ138 55 12 = (σ 55 12) from ((f150 12 (of_decide_eq_true rfl)).trans (jkp 12 eσ102 (of_decide_eq_true rfl)))))
                    have k159 := q154.2
                    refine lv_iload_n hx hb dX12_books_58 rfl (lv_at hl 0 rfl) ?_
                    refine lv_if_eq (tgt := 145) hx hb dX12_books_59 (of_decide_eq_true rfl) (fun c160 => ?_) (fun c160 => ?_)
                    · have kc160 := jeq c160 rfl jz_0
                      refine lv_aload_n hx hb dX12_books_145 rfl (lv_at hl 1 rfl) ?_
                      refine va_get (D := D) hx hb hts inlX12 hown hK hP 55 (jc_55 cI cL ad σ138 τ) rfl 47 (of_decide_eq_true rfl) (hts _ kw_15_15) (fun _ h9 => h9) rfl dX12_books_146 ?_
                      exact by exact hret (σ138 55 47) σ138 τ _ _ _ _ rfl ⟨rfl, (fun i hi => ((f149 i hi).trans (jnp i eσ102 (imp_215 i hi)))), (fun i hi => ((f150 i hi).trans (jkp i eσ102 (imp_218 i hi)))), p152, p153, p151, (fun wa9 wb9 ok => Or.inr (Or.inr ⟨by omega, by omega, (by omega), ((q154.1 wa9 wb9 ok).1).stop ((q154.1 wa9 wb9 ok).2 (by omega))⟩)), trivial⟩ hP hS dX12_books_149
                    · have kc160 := jne c160 rfl jz_0
                      refine lv_iload_n hx hb dX12_books_62 rfl (lv_at hl 3 rfl) ?_
                      refine lv_aload_n hx hb dX12_books_63 rfl (lv_at hl 1 rfl) ?_
                      refine va_get (D := D) hx hb hts inlX12 hown hK hP 55 (jc_55 cI cL ad σ138 τ) rfl 59 (of_decide_eq_true rfl) (hts _ kw_8_12) (fun _ h9 => h9) rfl dX12_books_64 ?_
                      refine lv_iload_n hx hb dX12_books_67 rfl (lv_at hl 2 rfl) ?_
                      exact by
                       refine jald hx hb hK hP (jc_87 cI cL ad σ138 τ) (jin t1 (by omega) (by omega)) dX12_books_68 ?_
                       have w161 : ∀ k : Nat, k < 6 → 0 ≤ (σ138 87 k).toInt ∧ (σ138 87 k).toInt ≤ 60 := (jrr_fr (f149 87 (of_decide_eq_true rfl)) (jrr_fr (jnp 87 eσ102 (of_decide_eq_true rfl)) w5))
                       have g162 := w161 _ (jnat (x := a1) t1 (n := 6) (by omega) (of_decide_eq_true rfl))
                       refine jtopr (y := (σ 87 a1.toNatClampNeg)) (by rw [f149 87 (of_decide_eq_true rfl), jnp 87 eσ102 (of_decide_eq_true rfl)]) ?_
                       rw [f149 87 (of_decide_eq_true rfl), jnp 87 eσ102 (of_decide_eq_true rfl)] at g162
                       refine lv_aload_n hx hb dX12_books_69 rfl (lv_at hl 1 rfl) ?_
                       refine va_get (D := D) hx hb hts inlX12 hown hK hP 55 (jc_55 cI cL ad σ138 τ) rfl 47 (of_decide_eq_true rfl) (hts _ kw_15_15) (fun _ h9 => h9) rfl dX12_books_70 ?_
                       have g163 := jrg (rfl : (σ 87 a1.toNatClampNeg).toInt = (σ 87 a1.toNatClampNeg).toInt)
                       have g164 := jrg (rfl : (σ138 55 47).toInt = (σ138 55 47).toInt)
                       exact by
                        refine lv_isub hx hb dX12_books_73 ?_
                        refine lv_topi (fun x165 ex165 => ?_)
                        have tx165 : x165.toInt = (σ 87 a1.toNatClampNeg).toInt - (σ138 55 47).toInt := (jsub ex165 rfl rfl (by omega) (by omega)).trans (by omega)
                        refine lv_icmp_ge (tgt := 96) hx hb dX12_books_74 (of_decide_eq_true rfl) (fun c166 => ?_) (fun c166 => ?_)
                        · have kc166 := jle c166 tx165 t2
                          refine lv_ldc2 (v := (-1)) hx hb hown (hts _ kw_43_16) dX12_books_96 ?_
                          refine lv_lstore (lv' := [(4, .long (-1)), (3, .int x136), (0, .ref (ad 55)), (1, .int a1), (2, .int a2)]) hx hb dX12_books_99 hl (of_decide_eq_true rfl) rfl (fun ls hl => ?_)
                          refine lv_lload hx hb dX12_books_101 (lv_at hl 0 rfl) ?_
                          refine lv_lconst (v := 0) hx hb dX12_books_103 (of_decide_eq_true rfl) ?_
                          exact by
                           refine W.lcmp hx hb dX12_books_104 ?_
                           refine lv_if_lt (tgt := 140) hx hb dX12_books_105 (of_decide_eq_true rfl) (fun c167 => ?_) (fun c => absurd (jcnlt c jzl_m1 jzl_0) (by omega))
                           have kc167 := jclt c167 jzl_m1 jzl_0
                           refine lv_iconst (v := 0) hx hb dX12_books_140 (of_decide_eq_true rfl) ?_
                           refine lv_istore_n (lv' := [(3, .int 0), (4, .long (-1)), (0, .ref (ad 55)), (1, .int a1), (2, .int a2)]) hx hb dX12_books_141 rfl hl (of_decide_eq_true rfl) rfl (fun ls hl => ?_)
                           refine lv_goto (tgt := 58) hx hb dX12_books_142 (of_decide_eq_true rfl) ?_
                           exact by exact ihlp134 0 σ138 _ _ ls (by have h90 := jz_0; omega) (by have h90 := jz_0; omega) (by have h90 := jz_0; omega) (by have h90 := jz_0; omega) (by have h90 := jz_0; omega) (fun i hi => (f149 i hi)) (fun i hi => (f150 i hi))  p151 p152 p153 (⟨fun wa9 wb9 ok => by
                                 have hq := q154.1 wa9 wb9 ok
                                 exact by exact ⟨hq.1, fun _ w => by have e := w.1; rw [if_pos (by omega)] at e; omega⟩, (by have h9 := jz_0; omega)⟩) hP hS (lv_sub hl [0, 2, 3, 4] rfl)
                        · exact by
                           have kc166 := jnle c166 tx165 t2
                           refine lv_aload_n hx hb dX12_books_77 rfl (lv_at hl 1 rfl) ?_
                           refine va_get (D := D) hx hb hts inlX12 hown hK hP 55 (jc_55 cI cL ad σ138 τ) rfl 60 (of_decide_eq_true rfl) (hts _ kw_8_13) (fun _ h9 => h9) rfl dX12_books_78 ?_
                           refine lv_bipush (v := 60) hx hb dX12_books_81 (of_decide_eq_true rfl) ?_
                           refine lv_iload_n hx hb dX12_books_83 rfl (lv_at hl 2 rfl) ?_
                           refine lv_imul hx hb dX12_books_84 ?_
                           refine lv_topi (fun x168 ex168 => ?_)
                           have tx168 : x168.toInt = 60 * A1 := (jmul ex168 jz_60 t1 (by omega) (by omega)).trans (by omega)
                           refine lv_iload_n hx hb dX12_books_85 rfl (lv_at hl 3 rfl) ?_
                           exact by
                            refine lv_iadd hx hb dX12_books_86 ?_
                            refine lv_topi (fun x169 ex169 => ?_)
                            have tx169 : x169.toInt = 60 * A1 + A2 := (jadd ex169 tx168 t2 (by omega) (by omega)).trans (by omega)
                            refine lv_aload_n hx hb dX12_books_87 rfl (lv_at hl 1 rfl) ?_
                            refine va_get (D := D) hx hb hts inlX12 hown hK hP 55 (jc_55 cI cL ad σ138 τ) rfl 47 (of_decide_eq_true rfl) (hts _ kw_15_15) (fun _ h9 => h9) rfl dX12_books_88 ?_
                            refine lv_iadd hx hb dX12_books_91 ?_
                            refine lv_topi (fun x170 ex170 => ?_)
                            have tx170 : x170.toInt = 60 * A1 + A2 + (σ138 55 47).toInt := (jadd ex170 tx169 rfl (by omega) (by omega)).trans (by omega)
                            refine jaldL hx hb hK hP (jc_88 cI cL ad σ138 τ) (jin tx170 (by omega) (by omega)) dX12_books_92 ?_
                            exact by
                             refine lv_topl (fun lx171 elx171 => ?_)
                             refine lv_goto (tgt := 99) hx hb dX12_books_93 (of_decide_eq_true rfl) ?_
                             refine lv_lstore (lv' := [(4, .long lx171), (3, .int x136), (0, .ref (ad 55)), (1, .int a1), (2, .int a2)]) hx hb dX12_books_99 hl (of_decide_eq_true rfl) rfl (fun ls hl => ?_)
                             refine lv_lload hx hb dX12_books_101 (lv_at hl 0 rfl) ?_
                             refine lv_lconst (v := 0) hx hb dX12_books_103 (of_decide_eq_true rfl) ?_
                             refine W.lcmp hx hb dX12_books_104 ?_
                             refine lv_if_lt (tgt := 140) hx hb dX12_books_105 (of_decide_eq_true rfl) (fun c172 => ?_) (fun c172 => ?_)
                             · have kc172 := jclt c172 rfl jzl_0
                               refine lv_iconst (v := 0) hx hb dX12_books_140 (of_decide_eq_true rfl) ?_
                               refine lv_istore_n (lv' := [(3, .int 0), (4, .long lx171), (0, .ref (ad 55)), (1, .int a1), (2, .int a2)]) hx hb dX12_books_141 rfl hl (of_decide_eq_true rfl) rfl (fun ls hl => ?_)
                               refine lv_goto (tgt := 58) hx hb dX12_books_142 (of_decide_eq_true rfl) ?_
                               exact by exact ihlp134 0 σ138 _ _ ls (by have h90 := jz_0; omega) (by have h90 := jz_0; omega) (by have h90 := jz_0; omega) (by have h90 := jz_0; omega) (by have h90 := jz_0; omega) (fun i hi => (f149 i hi)) (fun i hi => (f150 i hi))  p151 p152 p153 (⟨fun wa9 wb9 ok => by
                                     have hq := q154.1 wa9 wb9 ok
                                     have hE : (τ 88 (60 * (A1) + (A2) + ((((σ138 55 47).toInt).toNat : Nat) : Int)).toNat).toInt = lx171.toInt := by rw [elx171, jnc (show x170.toInt = 60 * (A1) + (A2) + ((((σ138 55 47).toInt).toNat : Nat) : Int) by have h9 := tx170; omega)]
                                     refine ⟨hq.1, fun _ w => ?_⟩
                                     obtain ⟨w1, w2, w3, b, w4, w5⟩ := w
                                     have w2 : 0 ≤ (τ 88 (60 * (A1) + (A2) + ((((σ138 55 47).toInt).toNat : Nat) : Int)).toNat).toInt ∧ (τ 88 (60 * (A1) + (A2) + ((((σ138 55 47).toInt).toNat : Nat) : Int)).toNat).toInt < 20 := w2
                                     have w3 : (τ 88 (60 * (A1) + (A2) + ((((σ138 55 47).toInt).toNat : Nat) : Int)).toNat).toInt % 10 < (σ 55 6).toInt := w3
                                     have w4 : b.toInt = (τ 88 (60 * (A1) + (A2) + ((((σ138 55 47).toInt).toNat : Nat) : Int)).toNat).toInt % 10 := w4
                                     omega, (by have h9 := jz_0; omega)⟩) hP hS (lv_sub hl [0, 2, 3, 4] rfl)
                             · exact by
                                have kc172 := jcnlt c172 rfl jzl_0
                                refine lv_lload hx hb dX12_books_108 (lv_at hl 0 rfl) ?_
                                refine lv_ldc2 (v := 20) hx hb hown (hts _ kw_9_12) dX12_books_110 ?_
                                refine W.lcmp hx hb dX12_books_113 ?_
                                refine lv_if_ge (tgt := 140) hx hb dX12_books_114 (of_decide_eq_true rfl) (fun c173 => ?_) (fun c173 => ?_)
                                · have kc173 := jcge c173 rfl jzl_20
                                  refine lv_iconst (v := 0) hx hb dX12_books_140 (of_decide_eq_true rfl) ?_
                                  refine lv_istore_n (lv' := [(3, .int 0), (4, .long lx171), (0, .ref (ad 55)), (1, .int a1), (2, .int a2)]) hx hb dX12_books_141 rfl hl (of_decide_eq_true rfl) rfl (fun ls hl => ?_)
                                  refine lv_goto (tgt := 58) hx hb dX12_books_142 (of_decide_eq_true rfl) ?_
                                  exact by exact ihlp134 0 σ138 _ _ ls (by have h90 := jz_0; omega) (by have h90 := jz_0; omega) (by have h90 := jz_0; omega) (by have h90 := jz_0; omega) (by have h90 := jz_0; omega) (fun i hi => (f149 i hi)) (fun i hi => (f150 i hi))  p151 p152 p153 (⟨fun wa9 wb9 ok => by
                                        have hq := q154.1 wa9 wb9 ok
                                        have hE : (τ 88 (60 * (A1) + (A2) + ((((σ138 55 47).toInt).toNat : Nat) : Int)).toNat).toInt = lx171.toInt := by rw [elx171, jnc (show x170.toInt = 60 * (A1) + (A2) + ((((σ138 55 47).toInt).toNat : Nat) : Int) by have h9 := tx170; omega)]
                                        refine ⟨hq.1, fun _ w => ?_⟩
                                        obtain ⟨w1, w2, w3, b, w4, w5⟩ := w
                                        have w2 : 0 ≤ (τ 88 (60 * (A1) + (A2) + ((((σ138 55 47).toInt).toNat : Nat) : Int)).toNat).toInt ∧ (τ 88 (60 * (A1) + (A2) + ((((σ138 55 47).toInt).toNat : Nat) : Int)).toNat).toInt < 20 := w2
                                        have w3 : (τ 88 (60 * (A1) + (A2) + ((((σ138 55 47).toInt).toNat : Nat) : Int)).toNat).toInt % 10 < (σ 55 6).toInt := w3
                                        have w4 : b.toInt = (τ 88 (60 * (A1) + (A2) + ((((σ138 55 47).toInt).toNat : Nat) : Int)).toNat).toInt % 10 := w4
                                        omega, (by have h9 := jz_0; omega)⟩) hP hS (lv_sub hl [0, 2, 3, 4] rfl)
                                · exact by
                                   have kc173 := jcnge c173 rfl jzl_20
                                   refine lv_aload_n hx hb dX12_books_117 rfl (lv_at hl 2 rfl) ?_
                                   refine lv_lload hx hb dX12_books_118 (lv_at hl 0 rfl) ?_
                                   refine lv_l2i hx hb dX12_books_120 rfl ?_
                                   refine lv_topi (fun x174 ex174 => ?_)
                                   have tx174 : x174.toInt = lx171.toInt := jtoI ex174 rfl (by omega) (by omega)
                                   refine lv_bipush (v := 10) hx hb dX12_books_121 (of_decide_eq_true rfl) ?_
                                   refine lv_irem hx hb dX12_books_123 (of_decide_eq_true rfl) ?_
                                   refine lv_topi (fun x175 ex175 => ?_)
                                   exact by
                                    have tx175 : x175.toInt = (lx171.toInt % 10) := jrem ex175 tx174 jz_10 (by omega)
                                    refine lv_lload hx hb dX12_books_124 (lv_at hl 0 rfl) ?_
                                    refine lv_l2i hx hb dX12_books_126 rfl ?_
                                    refine lv_topi (fun x176 ex176 => ?_)
                                    have tx176 : x176.toInt = lx171.toInt := jtoI ex176 rfl (by omega) (by omega)
                                    refine lv_bipush (v := 10) hx hb dX12_books_127 (of_decide_eq_true rfl) ?_
                                    refine lv_idiv hx hb dX12_books_129 (of_decide_eq_true rfl) ?_
                                    refine lv_topi (fun x177 ex177 => ?_)
                                    have tx177 : x177.toInt = (lx171.toInt / 10) := jdiv ex177 tx176 jz_10 (by omega) (by omega)
                                    exact by
                                     have I178 : jI102 σ138 := jI102_fr ((f150 6 (of_decide_eq_true rfl)).trans (jkp 6 eσ102 (of_decide_eq_true rfl))) ((f149 60 (of_decide_eq_true rfl)).trans (jnp 60 eσ102 (of_decide_eq_true rfl))) ((f149 61 (of_decide_eq_true rfl)).trans (jnp 61 eσ102 (of_decide_eq_true rfl))) hI102
                                     have I179 : jI104 σ138 := jI104_fr ((f150 10 (of_decide_eq_true rfl)).trans (jkp 10 eσ102 (of_decide_eq_true rfl))) ((f150 12 (of_decide_eq_true rfl)).trans (jkp 12 eσ102 (of_decide_eq_true rfl))) ((f150 13 (of_decide_eq_true rfl)).trans (jkp 13 eσ102 (of_decide_eq_true rfl))) ((f149 62 (of_decide_eq_true rfl)).trans (jnp 62 eσ102 (of_decide_eq_true rfl))) ((f149 67 (of_decide_eq_true rfl)).trans (jnp 67 eσ102 (of_decide_eq_true rfl))) hI104
                                     have w180 : ∀ k : Nat, k < 4 → 0 ≤ (σ138 68 k).toInt ∧ (σ138 68 k).toInt ≤ 3 := p153
                                     refine jcallV (As := [.int x175, .int x177]) (rest := []) ⟨hx, hb, hml, hown, hts⟩ hK hP hA hS hZ (c_X12_book l D cI cL ad zz hJ σ138 τ x175 ((lx171.toInt % 10)) tx175 x177 ((lx171.toInt / 10)) tx177 I178 I179 p152 w180 p151) cw_RX12_366 (jc_55 cI cL ad σ138 τ) rfl ⟨Nat.le_of_ble_eq_true rfl, Nat.le_of_ble_eq_true rfl⟩ rfl rfl rfl hl.1 rfl (Nat.le_of_ble_eq_true rfl) dX12_books_130 ⟨Nat.zero_le _, Nat.zero_le _⟩ (fun r182 σ181 τ181 H locs h181 hP hS => ?_)
                                     obtain ⟨rfl, f183, f184, I185, w186, p187, w188, h181⟩ := h181
                                     obtain ⟨i190, i191, w192⟩ : (0 ≤ (σ181 55 47).toInt ∧ (σ181 55 47).toInt ≤ 12) ∧ ((σ181 55 47).toInt ≤ (σ181 55 12).toInt) ∧ (∀ k : Nat, k < 12 → 0 ≤ (σ181 80 k).toInt ∧ (σ181 80 k).toInt ≤ 3) := id I185
                                     have z193 : (σ181 55 12).toInt = (σ 55 12).toInt := (congrArg Int32.toInt (show σ181 55 12 = (σ 55 12) from ((f184 12 (of_decide_eq_true rfl)).trans ((f150 12 (of_decide_eq_true rfl)).trans (jkp 12 eσ102 (of_decide_eq_true rfl))))))
                                     rcases h181 with h194 | h195
                                     · obtain ⟨q198, k196, k197⟩ := h194
                                       exact by
                                        refine lv_if_le (tgt := 140) hx hb dX12_books_133 (of_decide_eq_true rfl) (fun c => absurd (jle c rfl jz_0) (by omega)) (fun c199 => ?_)
                                        have kc199 := jnle c199 rfl jz_0
                                        refine lv_iconst (v := 1) hx hb dX12_books_136 (of_decide_eq_true rfl) ?_
                                        refine lv_goto (tgt := 141) hx hb dX12_books_137 (of_decide_eq_true rfl) ?_
                                        refine lv_istore_n (lv' := [(3, .int 1), (4, .long lx171), (0, .ref (ad 55)), (1, .int a1), (2, .int a2)]) hx hb dX12_books_141 rfl hl (of_decide_eq_true rfl) rfl (fun ls hl => ?_)
                                        refine lv_goto (tgt := 58) hx hb dX12_books_142 (of_decide_eq_true rfl) ?_
                                        have I200 : jI119 σ181 := w186
                                        have z202 : (σ138 55 6).toInt = (σ 55 6).toInt := (congrArg Int32.toInt (show σ138 55 6 = (σ 55 6) from ((f150 6 (of_decide_eq_true rfl)).trans (jkp 6 eσ102 (of_decide_eq_true rfl)))))
                                        have z203 : (σ138 55 10).toInt = (σ 55 10).toInt := (congrArg Int32.toInt (show σ138 55 10 = (σ 55 10) from ((f150 10 (of_decide_eq_true rfl)).trans (jkp 10 eσ102 (of_decide_eq_true rfl)))))
                                        have z204 : (σ138 55 30).toInt = (σ 55 30).toInt := (congrArg Int32.toInt (show σ138 55 30 = (σ 55 30) from ((f150 30 (of_decide_eq_true rfl)).trans (jkp 30 eσ102 (of_decide_eq_true rfl)))))
                                        have z205 : (σ138 55 31).toInt = (σ 55 31).toInt := (congrArg Int32.toInt (show σ138 55 31 = (σ 55 31) from ((f150 31 (of_decide_eq_true rfl)).trans (jkp 31 eσ102 (of_decide_eq_true rfl)))))
                                        exact by exact ihlp134 1 σ181 _ _ ls (by have h90 := jz_1; omega) (by have h90 := jz_1; omega) (by have h90 := jz_1; omega) (by have h90 := jz_1; omega) (by have h90 := jz_1; omega) (fun i hi => ((f183 i hi).trans (f149 i hi))) (fun i hi => ((f184 i hi).trans (f150 i hi)))  p187 I185 I200 (⟨fun wa9 wb9 ok => by
                                              have hq := q154.1 wa9 wb9 ok
                                              have hE : (τ 88 (60 * (A1) + (A2) + ((((σ138 55 47).toInt).toNat : Nat) : Int)).toNat).toInt = lx171.toInt := by rw [elx171, jnc (show x170.toInt = 60 * (A1) + (A2) + ((((σ138 55 47).toInt).toNat : Nat) : Int) by have h9 := tx170; omega)]
                                              have hb := w188
                                              rw [show (σ138 55 6).toInt = (σ 55 6).toInt from by omega, show (σ138 55 10).toInt = (σ 55 10).toInt from by omega, show (σ138 55 12).toInt = (σ 55 12).toInt from by omega, show (σ138 55 30).toInt = (σ 55 30).toInt from by omega, show (σ138 55 31).toInt = (σ 55 31).toInt from by omega, show σ138 56 = σ 56 from ((f149 56 (of_decide_eq_true rfl)).trans (jnp 56 eσ102 (of_decide_eq_true rfl)))] at hb
                                              have hb := hb wa9 wb9 ok
                                              rcases hb with ⟨b1, b2, b3, b4, b5⟩ | ⟨b1, b2, b3, b4, b5, b6⟩ | ⟨b1, b2, b3, b4, b5, b6⟩
                                              · exact absurd b1 (by omega)
                                              · exact absurd b1 (by omega)
                                              · exact by exact ⟨hq.1.step b5 b6 (by rw [if_pos (by omega)]; omega) (by show 0 ≤ _ ∧ _ < (20 : Int); rw [hE]; omega) (by show _ % 10 < _; rw [hE]; have h9 := tx175; omega) (by show _ = _ % 10; rw [hE]; have h9 := tx175; omega) (by show _ = _ / 10; rw [hE]; have h9 := tx177; omega) b3 (by omega), fun h => False.elim (by have h9 := jz_1; omega)⟩, (by have h9 := jz_1; omega)⟩) hP hS (lv_sub hl [0, 2, 3, 4] rfl)
                                     · obtain ⟨q208, k206, k207⟩ := h195
                                       exact by
                                        refine lv_if_le (tgt := 140) hx hb dX12_books_133 (of_decide_eq_true rfl) (fun c209 => ?_) (fun c => absurd (jnle c rfl jz_0) (by omega))
                                        have kc209 := jle c209 rfl jz_0
                                        refine lv_iconst (v := 0) hx hb dX12_books_140 (of_decide_eq_true rfl) ?_
                                        refine lv_istore_n (lv' := [(3, .int 0), (4, .long lx171), (0, .ref (ad 55)), (1, .int a1), (2, .int a2)]) hx hb dX12_books_141 rfl hl (of_decide_eq_true rfl) rfl (fun ls hl => ?_)
                                        refine lv_goto (tgt := 58) hx hb dX12_books_142 (of_decide_eq_true rfl) ?_
                                        have I210 : jI119 σ181 := w186
                                        have z212 : (σ138 55 6).toInt = (σ 55 6).toInt := (congrArg Int32.toInt (show σ138 55 6 = (σ 55 6) from ((f150 6 (of_decide_eq_true rfl)).trans (jkp 6 eσ102 (of_decide_eq_true rfl)))))
                                        have z213 : (σ138 55 10).toInt = (σ 55 10).toInt := (congrArg Int32.toInt (show σ138 55 10 = (σ 55 10) from ((f150 10 (of_decide_eq_true rfl)).trans (jkp 10 eσ102 (of_decide_eq_true rfl)))))
                                        have z214 : (σ138 55 30).toInt = (σ 55 30).toInt := (congrArg Int32.toInt (show σ138 55 30 = (σ 55 30) from ((f150 30 (of_decide_eq_true rfl)).trans (jkp 30 eσ102 (of_decide_eq_true rfl)))))
                                        have z215 : (σ138 55 31).toInt = (σ 55 31).toInt := (congrArg Int32.toInt (show σ138 55 31 = (σ 55 31) from ((f150 31 (of_decide_eq_true rfl)).trans (jkp 31 eσ102 (of_decide_eq_true rfl)))))
                                        exact by exact ihlp134 0 σ181 _ _ ls (by have h90 := jz_0; omega) (by have h90 := jz_0; omega) (by have h90 := jz_0; omega) (by have h90 := jz_0; omega) (by have h90 := jz_0; omega) (fun i hi => ((f183 i hi).trans (f149 i hi))) (fun i hi => ((f184 i hi).trans (f150 i hi)))  p187 I185 I210 (⟨fun wa9 wb9 ok => by
                                              have hq := q154.1 wa9 wb9 ok
                                              have hE : (τ 88 (60 * (A1) + (A2) + ((((σ138 55 47).toInt).toNat : Nat) : Int)).toNat).toInt = lx171.toInt := by rw [elx171, jnc (show x170.toInt = 60 * (A1) + (A2) + ((((σ138 55 47).toInt).toNat : Nat) : Int) by have h9 := tx170; omega)]
                                              have hb := w188
                                              rw [show (σ138 55 6).toInt = (σ 55 6).toInt from by omega, show (σ138 55 10).toInt = (σ 55 10).toInt from by omega, show (σ138 55 12).toInt = (σ 55 12).toInt from by omega, show (σ138 55 30).toInt = (σ 55 30).toInt from by omega, show (σ138 55 31).toInt = (σ 55 31).toInt from by omega, show σ138 56 = σ 56 from ((f149 56 (of_decide_eq_true rfl)).trans (jnp 56 eσ102 (of_decide_eq_true rfl)))] at hb
                                              have hb := hb wa9 wb9 ok
                                              rcases hb with ⟨b1, b2, b3, b4, b5⟩ | ⟨b1, b2, b3, b4, b5, b6⟩ | ⟨b1, b2, b3, b4, b5, b6⟩
                                              · rw [b3, b4, b5]
                                                refine ⟨hq.1, fun _ w => ?_⟩
                                                obtain ⟨w1, w2, w3, b, w4, w5⟩ := w
                                                have w2 : 0 ≤ (τ 88 (60 * (A1) + (A2) + ((((σ138 55 47).toInt).toNat : Nat) : Int)).toNat).toInt ∧ (τ 88 (60 * (A1) + (A2) + ((((σ138 55 47).toInt).toNat : Nat) : Int)).toNat).toInt < 20 := w2
                                                have w3 : (τ 88 (60 * (A1) + (A2) + ((((σ138 55 47).toInt).toNat : Nat) : Int)).toNat).toInt % 10 < (σ 55 6).toInt := w3
                                                have w4 : b.toInt = (τ 88 (60 * (A1) + (A2) + ((((σ138 55 47).toInt).toNat : Nat) : Int)).toNat).toInt % 10 := w4
                                                exact b2 ⟨by have h9 := tx175; omega, by have h9 := tx175; omega, by have h9 := tx177; omega, by have h9 := tx177; omega⟩
                                              · rw [b4, b5, b6]
                                                refine ⟨hq.1, fun _ w => ?_⟩
                                                obtain ⟨w1, w2, w3, b, w4, w5⟩ := w
                                                have w2 : 0 ≤ (τ 88 (60 * (A1) + (A2) + ((((σ138 55 47).toInt).toNat : Nat) : Int)).toNat).toInt ∧ (τ 88 (60 * (A1) + (A2) + ((((σ138 55 47).toInt).toNat : Nat) : Int)).toNat).toInt < 20 := w2
                                                have w3 : (τ 88 (60 * (A1) + (A2) + ((((σ138 55 47).toInt).toNat : Nat) : Int)).toNat).toInt % 10 < (σ 55 6).toInt := w3
                                                have w4 : b.toInt = (τ 88 (60 * (A1) + (A2) + ((((σ138 55 47).toInt).toNat : Nat) : Int)).toNat).toInt % 10 := w4
                                                rw [show (((σ138 55 47).toInt).toNat : Int) = (σ138 55 47).toInt by omega, show b = x175 from Int32.toInt_inj.mp (by have h9 := tx175; omega)] at w5
                                                exact b3 w5
                                              · exact by exact absurd b1 (by omega), (by have h9 := jz_0; omega)⟩) hP hS (lv_sub hl [0, 2, 3, 4] rfl)
               exact by exact lp134 1000000 1 σ102 _ _ ls (by have h90 := jz_1; omega) (by have h90 := jz_1; omega) (by have h90 := jz_1; omega) (by have h90 := jz_1; omega) (by have h90 := jz_1; omega) (fun _ _ => rfl) (fun _ _ => rfl)  p104 I141 I142 ⟨fun wa9 wb9 ok => ⟨jBf.first (by omega), (fun h => False.elim (by have h9 := jz_1; omega))⟩, (by have h9 := jz_1; omega)⟩ hP hS hl
        · exact by
           have kc101 := jne c101 rfl jz_20
           refine lv_bipush (v := (-12)) hx hb dX12_books_29 (of_decide_eq_true rfl) ?_
           exact hret (-12) σ τ _ _ _ _ rfl ⟨rfl, (fun _ _ => rfl), (fun _ _ => rfl), hI107, hI119, hs_jBook, (fun wa9 wb9 ok => Or.inr (Or.inl ⟨(by have h9 := jz_m12; omega), by omega, ⟨by omega, by omega⟩, rfl, rfl, rfl⟩)), trivial⟩ hP hS dX12_books_31
  · obtain ⟨q217, k216⟩ := h9
    have q217 := q217.symm
    subst q217
    refine lv_if_ne (tgt := 9) hx hb dX12_books_4 (of_decide_eq_true rfl) (fun c => absurd (of_decide_eq_true rfl) c) (fun _ => ?_)
    refine lv_iconst (v := (-1)) hx hb dX12_books_7 (of_decide_eq_true rfl) ?_
    exact hret (-1) σ τ _ _ _ _ rfl ⟨rfl, (fun _ _ => rfl), (fun _ _ => rfl), hI107, hI119, hs_jBook, (fun wa9 wb9 ok => Or.inl ⟨(by have h9 := jz_m1; omega), by omega, rfl, rfl, rfl⟩), trivial⟩ hP hS dX12_books_8
set_option maxHeartbeats 4000000 in
set_option maxRecDepth 100000 in
theorem c_X12_costOf (l : Launch) (D : va_G) (cI cL : ClassId) (ad zz : Nat → Nat) (hJ : jD ad) (σ : Nat → Nat → Int32) (τ : Nat → Nat → Int64) (a1 : Int32) (A1 : Int) (t1 : a1.toInt = A1) (hI101 : jI101 σ) (hI102 : jI102 σ) (hI103 : jI103 σ) (hI104 : jI104 σ) (hI105 : jI105 σ) (hI106 : jI106 σ) (hI107 : jI107 σ) (hI119 : jI119 σ) (hs_jKept : jKept σ) (hs_jBook : jBook σ) (hs_jTR : jTR σ) (hs_jqSt : jqSt σ) (hp0 : 0 ≤ A1) (hp1 : A1 < (σ 55 47).toInt) (hp2 : (σ 55 12).toInt - A1 ≤ 8) (hp3 : 0 ≤ (σ 55 42).toInt ∧ (σ 55 42).toInt ≤ 999999998) : jM l yX12_costOf cX12_costOf 3 (some .int) ({ frames := 103, cells := 0, slots := 0, locals := 5061 }) D cI cL ad zz [.ref (ad 55), .int a1] σ τ (fun r σ' τ' => τ = τ' ∧ (∀ i : Nat, (i < 55 ∨ 55 < i) ∧ (i < 66 ∨ 66 < i) ∧ (i < 68 ∨ 69 < i) ∧ (i < 74 ∨ 78 < i) → σ' i = σ i) ∧ (∀ k : Nat, (k < 18 ∨ 18 < k) ∧ (k < 19 ∨ 19 < k) ∧ (k < 20 ∨ 20 < k) ∧ (k < 21 ∨ 21 < k) ∧ (k < 22 ∨ 22 < k) ∧ (k < 25 ∨ 25 < k) ∧ (k < 26 ∨ 26 < k) ∧ (k < 27 ∨ 27 < k) ∧ (k < 37 ∨ 37 < k) ∧ (k < 42 ∨ 42 < k) → σ' 55 k = σ 55 k) ∧ (jI119 σ') ∧ (jKept σ') ∧ (jBook σ') ∧ (jTR σ') ∧ (jqSt σ') ∧ ((σ 55 42).toInt ≤ (σ' 55 42).toInt) ∧ ((σ' 55 42).toInt ≤ (σ 55 42).toInt + 1) ∧ True) := by
  refine jM.of hJ (by decide +kernel) (nt := .int) rfl (Nat.le_of_ble_eq_true rfl) ?_
  intro p e s m args below meth c Q ls hC hret hl hP
  obtain ⟨hx, hb, hr, hml, hown, hts, hK, -, hlocks, hZ⟩ := hC
  have hown : s.vm.findClass RX12 = some m.cls := hown
  have hS : va_S (jA ad) s.heap s.heap [] := va_S.rf
  have hA : ∀ q, jA ad q → jA ad q := fun _ h => h
  have hl : lv_has ls 3 [(0, .ref (ad 55)), (1, .int a1)] := hl
  have g1 := jrg t1
  obtain ⟨i1, w2, w3⟩ : (0 ≤ (σ 55 6).toInt ∧ (σ 55 6).toInt ≤ 4) ∧ (∀ k : Nat, k < 4 → 0 ≤ (σ 60 k).toInt ∧ (σ 60 k).toInt ≤ 50) ∧ (∀ k : Nat, k < 4 → 0 ≤ (σ 61 k).toInt ∧ (σ 61 k).toInt ≤ 20) := id hI102
  obtain ⟨i4, i5, i6, w7, w8⟩ : (1 ≤ (σ 55 10).toInt ∧ (σ 55 10).toInt ≤ 8) ∧ (1 ≤ (σ 55 12).toInt ∧ (σ 55 12).toInt ≤ 12) ∧ (0 ≤ (σ 55 13).toInt ∧ (σ 55 13).toInt ≤ 999) ∧ (∀ k : Nat, k < 8 → 0 ≤ (σ 62 k).toInt ∧ (σ 62 k).toInt ≤ 3) ∧ (∀ k : Nat, k < 8 → 0 ≤ (σ 67 k).toInt ∧ (σ 67 k).toInt ≤ 3) := id hI104
  obtain ⟨i9, i10, w11⟩ : (0 ≤ (σ 55 47).toInt ∧ (σ 55 47).toInt ≤ 12) ∧ ((σ 55 47).toInt ≤ (σ 55 12).toInt) ∧ (∀ k : Nat, k < 12 → 0 ≤ (σ 80 k).toInt ∧ (σ 80 k).toInt ≤ 3) := id hI107
  refine lv_aload_n hx hb dX12_costOf_0 rfl (lv_at hl 0 rfl) ?_
  refine lv_iload_n hx hb dX12_costOf_1 rfl (lv_at hl 1 rfl) ?_
  have w12 : ∀ k : Nat, k < 4 → 0 ≤ (σ 68 k).toInt ∧ (σ 68 k).toInt ≤ 3 := hI119
  exact by
   refine jcallVv (As := [.int a1]) (rest := []) ⟨hx, hb, hml, hown, hts⟩ hK hP hA hS hZ (c_X12_goThroughBook l D cI cL ad zz hJ σ τ a1 (A1) t1 hI102 hI104 hI107 w12 hs_jBook (by omega) (by omega)) cw_RX12_334 (jc_55 cI cL ad σ τ) rfl ⟨Nat.le_of_ble_eq_true rfl, Nat.le_of_ble_eq_true rfl⟩ rfl rfl rfl hl.1 rfl (Nat.le_of_ble_eq_true rfl) dX12_costOf_2 ⟨Nat.zero_le _, Nat.zero_le _⟩ (fun σ13 τ13 H locs h13 hP hS => ?_)
   obtain ⟨rfl, f15, f16, I17, p18, w19, w20, h13⟩ := h13
   obtain ⟨i22, i23, i24, i25, i26, w27⟩ : (0 ≤ (σ13 55 25).toInt) ∧ ((σ13 55 25).toInt ≤ (σ13 55 10).toInt) ∧ (0 ≤ (σ13 55 26).toInt) ∧ ((σ13 55 26).toInt ≤ (σ13 55 12).toInt) ∧ ((-1) ≤ (σ13 55 27).toInt ∧ (σ13 55 27).toInt ≤ 3) ∧ (∀ k : Nat, k < 4 → 0 ≤ (σ13 68 k).toInt ∧ (σ13 68 k).toInt ≤ 3) := id I17
   have z28 : (σ13 55 10).toInt = (σ 55 10).toInt := (congrArg Int32.toInt (show σ13 55 10 = (σ 55 10) from (f16 10 (of_decide_eq_true rfl))))
   have z29 : (σ13 55 12).toInt = (σ 55 12).toInt := (congrArg Int32.toInt (show σ13 55 12 = (σ 55 12) from (f16 12 (of_decide_eq_true rfl))))
   obtain ⟨k30, k31, k32, h13⟩ := h13
   refine lv_aload_n hx hb dX12_costOf_5 rfl (lv_at hl 0 rfl) ?_
   have p33 : jqSt σ13 := jqSt.fr (f15 78 (of_decide_eq_true rfl)) (f16 42 (of_decide_eq_true rfl)) hs_jqSt
   have z34 : (σ13 55 42).toInt = (σ 55 42).toInt := (congrArg Int32.toInt (show σ13 55 42 = (σ 55 42) from (f16 42 (of_decide_eq_true rfl))))
   exact by
    refine jcallVv (As := []) (rest := []) ⟨hx, hb, hml, hown, hts⟩ hK hP hA hS hZ (c_X12_forgets l D cI cL ad zz hJ σ13 τ p33 (by omega)) cw_RX12_341 (jc_55 cI cL ad σ13 τ) rfl ⟨Nat.le_of_ble_eq_true rfl, Nat.le_of_ble_eq_true rfl⟩ rfl rfl rfl hl.1 rfl (Nat.le_of_ble_eq_true rfl) dX12_costOf_6 ⟨Nat.zero_le _, Nat.zero_le _⟩ (fun σ35 τ35 H locs h35 hP hS => ?_)
    obtain ⟨rfl, f37, f38, p39, w40, h35⟩ := h35
    obtain ⟨k42, h35⟩ := h35
    refine lv_aload_n hx hb dX12_costOf_9 rfl (lv_at hl 0 rfl) ?_
    have I43 : jI102 σ35 := jI102_fr ((f38 6 (of_decide_eq_true rfl)).trans (f16 6 (of_decide_eq_true rfl))) ((f37 60 (of_decide_eq_true rfl)).trans (f15 60 (of_decide_eq_true rfl))) ((f37 61 (of_decide_eq_true rfl)).trans (f15 61 (of_decide_eq_true rfl))) hI102
    have I44 : jI104 σ35 := jI104_fr ((f38 10 (of_decide_eq_true rfl)).trans (f16 10 (of_decide_eq_true rfl))) ((f38 12 (of_decide_eq_true rfl)).trans (f16 12 (of_decide_eq_true rfl))) ((f38 13 (of_decide_eq_true rfl)).trans (f16 13 (of_decide_eq_true rfl))) ((f37 62 (of_decide_eq_true rfl)).trans (f15 62 (of_decide_eq_true rfl))) ((f37 67 (of_decide_eq_true rfl)).trans (f15 67 (of_decide_eq_true rfl))) hI104
    have I45 : jI120 σ35 := jI120_fr (f38 10 (of_decide_eq_true rfl)) (f38 12 (of_decide_eq_true rfl)) (f38 25 (of_decide_eq_true rfl)) (f38 26 (of_decide_eq_true rfl)) (f38 27 (of_decide_eq_true rfl)) (f37 68 (of_decide_eq_true rfl)) I17
    have z46 : (σ35 55 25).toInt = (σ13 55 25).toInt := (congrArg Int32.toInt (show σ35 55 25 = (σ13 55 25) from (f38 25 (of_decide_eq_true rfl))))
    have z47 : (σ35 55 10).toInt = (σ 55 10).toInt := (congrArg Int32.toInt (show σ35 55 10 = (σ 55 10) from ((f38 10 (of_decide_eq_true rfl)).trans (f16 10 (of_decide_eq_true rfl)))))
    have z48 : (σ35 55 26).toInt = (σ13 55 26).toInt := (congrArg Int32.toInt (show σ35 55 26 = (σ13 55 26) from (f38 26 (of_decide_eq_true rfl))))
    have z49 : (σ35 55 12).toInt = (σ 55 12).toInt := (congrArg Int32.toInt (show σ35 55 12 = (σ 55 12) from ((f38 12 (of_decide_eq_true rfl)).trans (f16 12 (of_decide_eq_true rfl)))))
    refine jcallV (As := []) (rest := []) ⟨hx, hb, hml, hown, hts⟩ hK hP hA hS hZ (c_X12_isEnded l D cI cL ad zz hJ σ35 τ I43 I44 I45) cw_RX12_307 (jc_55 cI cL ad σ35 τ) rfl ⟨Nat.le_of_ble_eq_true rfl, Nat.le_of_ble_eq_true rfl⟩ rfl rfl rfl hl.1 rfl (Nat.le_of_ble_eq_true rfl) dX12_costOf_10 ⟨Nat.zero_le _, Nat.zero_le _⟩ (fun r51 σ50 τ50 H locs h50 hP hS => ?_)
    obtain ⟨⟨rfl, rfl⟩, h50⟩ := h50
    rcases h50 with h52 | h53
    · obtain ⟨q55, k54⟩ := h52
      have q55 := q55.symm
      subst q55
      refine lv_if_eq (tgt := 20) hx hb dX12_costOf_13 (of_decide_eq_true rfl) (fun c => absurd c (of_decide_eq_true rfl)) (fun _ => ?_)
      refine lv_iconst (v := 0) hx hb dX12_costOf_16 (of_decide_eq_true rfl) ?_
      refine lv_goto (tgt := 24) hx hb dX12_costOf_17 (of_decide_eq_true rfl) ?_
      refine lv_istore_n (lv' := [(2, .int 0), (0, .ref (ad 55)), (1, .int a1)]) hx hb dX12_costOf_24 rfl hl (of_decide_eq_true rfl) rfl (fun ls hl => ?_)
      refine lv_aload_n hx hb dX12_costOf_25 rfl (lv_at hl 1 rfl) ?_
      refine lv_aload_n hx hb dX12_costOf_26 rfl (lv_at hl 1 rfl) ?_
      refine va_get (D := D) hx hb hts inlX12 hown hK hP 55 (jc_55 cI cL ad σ35 τ) rfl 48 (of_decide_eq_true rfl) (hts _ kw_8_5) (fun _ h9 => h9) rfl dX12_costOf_27 ?_
      refine lv_iload_n hx hb dX12_costOf_30 rfl (lv_at hl 2 rfl) ?_
      exact by
       refine jald hx hb hK hP (jc_80 cI cL ad σ35 τ) (jin t1 (by omega) (by omega)) dX12_costOf_31 ?_
       have w56 : ∀ k : Nat, k < 12 → 0 ≤ (σ35 80 k).toInt ∧ (σ35 80 k).toInt ≤ 3 := (jrr_fr (f37 80 (of_decide_eq_true rfl)) (jrr_fr (f15 80 (of_decide_eq_true rfl)) w11))
       have g57 := w56 _ (jnat (x := a1) t1 (n := 12) (by omega) (of_decide_eq_true rfl))
       refine lv_topi (fun x58 ex58 => ?_)
       rw [← ex58] at g57
       have I59 : jI101 σ35 := jI101_fr ((f38 4 (of_decide_eq_true rfl)).trans (f16 4 (of_decide_eq_true rfl))) ((f38 5 (of_decide_eq_true rfl)).trans (f16 5 (of_decide_eq_true rfl))) ((f37 56 (of_decide_eq_true rfl)).trans (f15 56 (of_decide_eq_true rfl))) ((f37 57 (of_decide_eq_true rfl)).trans (f15 57 (of_decide_eq_true rfl))) ((f37 58 (of_decide_eq_true rfl)).trans (f15 58 (of_decide_eq_true rfl))) ((f37 59 (of_decide_eq_true rfl)).trans (f15 59 (of_decide_eq_true rfl))) hI101
       have I60 : jI103 σ35 := jI103_fr ((f38 9 (of_decide_eq_true rfl)).trans (f16 9 (of_decide_eq_true rfl))) hI103
       have I61 : jI105 σ35 := jI105_fr ((f38 15 (of_decide_eq_true rfl)).trans (f16 15 (of_decide_eq_true rfl))) ((f37 65 (of_decide_eq_true rfl)).trans (f15 65 (of_decide_eq_true rfl))) hI105
       have I62 : jI106 σ35 := jI106_fr ((f38 32 (of_decide_eq_true rfl)).trans (f16 32 (of_decide_eq_true rfl))) ((f37 70 (of_decide_eq_true rfl)).trans (f15 70 (of_decide_eq_true rfl))) ((f37 71 (of_decide_eq_true rfl)).trans (f15 71 (of_decide_eq_true rfl))) ((f37 72 (of_decide_eq_true rfl)).trans (f15 72 (of_decide_eq_true rfl))) hI106
       exact by
        have p63 : jKept σ35 := jKept.fr ((f37 75 (of_decide_eq_true rfl)).trans (f15 75 (of_decide_eq_true rfl))) ((f37 76 (of_decide_eq_true rfl)).trans (f15 76 (of_decide_eq_true rfl))) ((f37 77 (of_decide_eq_true rfl)).trans (f15 77 (of_decide_eq_true rfl))) hs_jKept
        have p64 : jTR σ35 := jTR.fr ((f37 64 (of_decide_eq_true rfl)).trans (f15 64 (of_decide_eq_true rfl))) ((f37 65 (of_decide_eq_true rfl)).trans (f15 65 (of_decide_eq_true rfl))) hs_jTR
        refine jcallV (As := [.int x58]) (rest := []) ⟨hx, hb, hml, hown, hts⟩ hK hP hA hS hZ ((c_X12_bests l D cI cL ad zz hJ 8).1 σ35 τ x58 (x58.toInt) rfl I59 I43 I60 I44 I61 I62 I45 p63 p64 p39 (by omega) (by omega) (by omega) (by omega)) cw_RX12_318 (jc_55 cI cL ad σ35 τ) rfl ⟨Nat.le_of_ble_eq_true rfl, Nat.le_of_ble_eq_true rfl⟩ rfl rfl rfl hl.1 rfl (Nat.le_of_ble_eq_true rfl) dX12_costOf_32 ⟨Nat.zero_le _, Nat.zero_le _⟩ (fun r66 σ65 τ65 H locs h65 hP hS => ?_)
        obtain ⟨rfl, f67, f68, p69, p70, p71, w72, h65⟩ := h65
        have h74 := h65
        obtain ⟨q76, k75⟩ := h74
        refine lv_iload_n hx hb dX12_costOf_35 rfl (lv_at hl 0 rfl) ?_
        refine lv_isub hx hb dX12_costOf_36 ?_
        refine jtopr (y := r66) (by rw [Int32.sub_zero]) ?_
        exact by
         have w77 : ∀ k : Nat, k < 4 → 0 ≤ (σ65 68 k).toInt ∧ (σ65 68 k).toInt ≤ 3 := (jrr_fr (f67 68 (of_decide_eq_true rfl)) (jrr_fr (f37 68 (of_decide_eq_true rfl)) w27))
         have I78 : jI119 σ65 := w77
         have p79 : jBook σ65 := jBook.fr ((f68 47 (of_decide_eq_true rfl)).trans (f38 47 (of_decide_eq_true rfl))) ((f68 10 (of_decide_eq_true rfl)).trans (f38 10 (of_decide_eq_true rfl))) ((f67 81 (of_decide_eq_true rfl)).trans (f37 81 (of_decide_eq_true rfl))) p18
         have z80 : (σ65 55 42).toInt = (σ35 55 42).toInt := (congrArg Int32.toInt (show σ65 55 42 = (σ35 55 42) from (f68 42 (of_decide_eq_true rfl))))
         exact by exact hret r66 σ65 τ _ _ _ _ rfl ⟨rfl, (fun i hi => ((f67 i (imp_258 i hi)).trans ((f37 i (imp_259 i hi)).trans (f15 i (imp_256 i hi))))), (fun i hi => ((f68 i (imp_260 i hi)).trans ((f38 i (imp_261 i hi)).trans (f16 i (imp_257 i hi))))), I78, p69, p79, p70, p71, (by omega), (by omega), trivial⟩ hP hS dX12_costOf_37
    · obtain ⟨q84, k81, k82, k83⟩ := h53
      have q84 := q84.symm
      subst q84
      obtain ⟨B85, k86, k87, w88⟩ := k83
      have z89 : (σ35 55 6).toInt = (σ 55 6).toInt := (congrArg Int32.toInt (show σ35 55 6 = (σ 55 6) from ((f38 6 (of_decide_eq_true rfl)).trans (f16 6 (of_decide_eq_true rfl)))))
      refine lv_if_eq (tgt := 20) hx hb dX12_costOf_13 (of_decide_eq_true rfl) (fun _ => ?_) (fun c => absurd (of_decide_eq_true rfl) c)
      refine lv_aload_n hx hb dX12_costOf_20 rfl (lv_at hl 0 rfl) ?_
      have p90 : jmb σ35 B85 = 1 := (jmb_fr rfl rfl rfl rfl rfl B85).trans w88
      have I91 : jI101 σ35 := jI101_fr ((f38 4 (of_decide_eq_true rfl)).trans (f16 4 (of_decide_eq_true rfl))) ((f38 5 (of_decide_eq_true rfl)).trans (f16 5 (of_decide_eq_true rfl))) ((f37 56 (of_decide_eq_true rfl)).trans (f15 56 (of_decide_eq_true rfl))) ((f37 57 (of_decide_eq_true rfl)).trans (f15 57 (of_decide_eq_true rfl))) ((f37 58 (of_decide_eq_true rfl)).trans (f15 58 (of_decide_eq_true rfl))) ((f37 59 (of_decide_eq_true rfl)).trans (f15 59 (of_decide_eq_true rfl))) hI101
      have I92 : jI103 σ35 := jI103_fr ((f38 9 (of_decide_eq_true rfl)).trans (f16 9 (of_decide_eq_true rfl))) hI103
      have I93 : jI105 σ35 := jI105_fr ((f38 15 (of_decide_eq_true rfl)).trans (f16 15 (of_decide_eq_true rfl))) ((f37 65 (of_decide_eq_true rfl)).trans (f15 65 (of_decide_eq_true rfl))) hI105
      have I94 : jI106 σ35 := jI106_fr ((f38 32 (of_decide_eq_true rfl)).trans (f16 32 (of_decide_eq_true rfl))) ((f37 70 (of_decide_eq_true rfl)).trans (f15 70 (of_decide_eq_true rfl))) ((f37 71 (of_decide_eq_true rfl)).trans (f15 71 (of_decide_eq_true rfl))) ((f37 72 (of_decide_eq_true rfl)).trans (f15 72 (of_decide_eq_true rfl))) hI106
      have p95 : jKept σ35 := jKept.fr ((f37 75 (of_decide_eq_true rfl)).trans (f15 75 (of_decide_eq_true rfl))) ((f37 76 (of_decide_eq_true rfl)).trans (f15 76 (of_decide_eq_true rfl))) ((f37 77 (of_decide_eq_true rfl)).trans (f15 77 (of_decide_eq_true rfl))) hs_jKept
      have p96 : jTR σ35 := jTR.fr ((f37 64 (of_decide_eq_true rfl)).trans (f15 64 (of_decide_eq_true rfl))) ((f37 65 (of_decide_eq_true rfl)).trans (f15 65 (of_decide_eq_true rfl))) hs_jTR
      exact by
       refine jcallV (As := []) (rest := []) ⟨hx, hb, hml, hown, hts⟩ hK hP hA hS hZ ((c_X12_bests l D cI cL ad zz hJ 8).2.2 σ35 τ B85 p90 I91 I43 I92 I44 I93 I94 I45 p95 p96 p39 (by omega) (by omega) (by omega) (by omega)) cw_RX12_280 (jc_55 cI cL ad σ35 τ) rfl ⟨Nat.le_of_ble_eq_true rfl, Nat.le_of_ble_eq_true rfl⟩ rfl rfl rfl hl.1 rfl (Nat.le_of_ble_eq_true rfl) dX12_costOf_21 ⟨Nat.zero_le _, Nat.zero_le _⟩ (fun r98 σ97 τ97 H locs h97 hP hS => ?_)
       obtain ⟨rfl, f99, f100, p101, p102, p103, w104, h97⟩ := h97
       obtain ⟨k106, h97⟩ := h97
       have h107 := h97
       obtain ⟨q109, k108⟩ := h107
       refine lv_istore_n (lv' := [(2, .int r98), (0, .ref (ad 55)), (1, .int a1)]) hx hb dX12_costOf_24 rfl hl (of_decide_eq_true rfl) rfl (fun ls hl => ?_)
       refine lv_aload_n hx hb dX12_costOf_25 rfl (lv_at hl 1 rfl) ?_
       refine lv_aload_n hx hb dX12_costOf_26 rfl (lv_at hl 1 rfl) ?_
       refine va_get (D := D) hx hb hts inlX12 hown hK hP 55 (jc_55 cI cL ad σ97 τ) rfl 48 (of_decide_eq_true rfl) (hts _ kw_8_5) (fun _ h9 => h9) rfl dX12_costOf_27 ?_
       refine lv_iload_n hx hb dX12_costOf_30 rfl (lv_at hl 2 rfl) ?_
       exact by
        refine jald hx hb hK hP (jc_80 cI cL ad σ97 τ) (jin t1 (by omega) (by omega)) dX12_costOf_31 ?_
        have w110 : ∀ k : Nat, k < 12 → 0 ≤ (σ97 80 k).toInt ∧ (σ97 80 k).toInt ≤ 3 := (jrr_fr (f99 80 (of_decide_eq_true rfl)) (jrr_fr (f37 80 (of_decide_eq_true rfl)) (jrr_fr (f15 80 (of_decide_eq_true rfl)) w11)))
        have g111 := w110 _ (jnat (x := a1) t1 (n := 12) (by omega) (of_decide_eq_true rfl))
        refine lv_topi (fun x112 ex112 => ?_)
        rw [← ex112] at g111
        have I113 : jI101 σ97 := jI101_fr (f100 4 (of_decide_eq_true rfl)) (f100 5 (of_decide_eq_true rfl)) (f99 56 (of_decide_eq_true rfl)) (f99 57 (of_decide_eq_true rfl)) (f99 58 (of_decide_eq_true rfl)) (f99 59 (of_decide_eq_true rfl)) I91
        have I114 : jI102 σ97 := jI102_fr (f100 6 (of_decide_eq_true rfl)) (f99 60 (of_decide_eq_true rfl)) (f99 61 (of_decide_eq_true rfl)) I43
        have I115 : jI103 σ97 := jI103_fr (f100 9 (of_decide_eq_true rfl)) I92
        have I116 : jI104 σ97 := jI104_fr (f100 10 (of_decide_eq_true rfl)) (f100 12 (of_decide_eq_true rfl)) (f100 13 (of_decide_eq_true rfl)) (f99 62 (of_decide_eq_true rfl)) (f99 67 (of_decide_eq_true rfl)) I44
        exact by
         have I117 : jI105 σ97 := jI105_fr (f100 15 (of_decide_eq_true rfl)) (f99 65 (of_decide_eq_true rfl)) I93
         have I118 : jI106 σ97 := jI106_fr (f100 32 (of_decide_eq_true rfl)) (f99 70 (of_decide_eq_true rfl)) (f99 71 (of_decide_eq_true rfl)) (f99 72 (of_decide_eq_true rfl)) I94
         have I119 : jI120 σ97 := jI120_fr (f100 10 (of_decide_eq_true rfl)) (f100 12 (of_decide_eq_true rfl)) (f100 25 (of_decide_eq_true rfl)) (f100 26 (of_decide_eq_true rfl)) (f100 27 (of_decide_eq_true rfl)) (f99 68 (of_decide_eq_true rfl)) I45
         have z120 : (σ97 55 25).toInt = (σ13 55 25).toInt := (congrArg Int32.toInt (show σ97 55 25 = (σ13 55 25) from ((f100 25 (of_decide_eq_true rfl)).trans (f38 25 (of_decide_eq_true rfl)))))
         have z121 : (σ97 55 10).toInt = (σ 55 10).toInt := (congrArg Int32.toInt (show σ97 55 10 = (σ 55 10) from ((f100 10 (of_decide_eq_true rfl)).trans ((f38 10 (of_decide_eq_true rfl)).trans (f16 10 (of_decide_eq_true rfl))))))
         have z122 : (σ97 55 26).toInt = (σ13 55 26).toInt := (congrArg Int32.toInt (show σ97 55 26 = (σ13 55 26) from ((f100 26 (of_decide_eq_true rfl)).trans (f38 26 (of_decide_eq_true rfl)))))
         have z123 : (σ97 55 12).toInt = (σ 55 12).toInt := (congrArg Int32.toInt (show σ97 55 12 = (σ 55 12) from ((f100 12 (of_decide_eq_true rfl)).trans ((f38 12 (of_decide_eq_true rfl)).trans (f16 12 (of_decide_eq_true rfl))))))
         refine jcallV (As := [.int x112]) (rest := []) ⟨hx, hb, hml, hown, hts⟩ hK hP hA hS hZ ((c_X12_bests l D cI cL ad zz hJ 8).1 σ97 τ x112 (x112.toInt) rfl I113 I114 I115 I116 I117 I118 I119 p101 p102 p103 (by omega) (by omega) (by omega) (by omega)) cw_RX12_318 (jc_55 cI cL ad σ97 τ) rfl ⟨Nat.le_of_ble_eq_true rfl, Nat.le_of_ble_eq_true rfl⟩ rfl rfl rfl hl.1 rfl (Nat.le_of_ble_eq_true rfl) dX12_costOf_32 ⟨Nat.zero_le _, Nat.zero_le _⟩ (fun r125 σ124 τ124 H locs h124 hP hS => ?_)
         obtain ⟨rfl, f126, f127, p128, p129, p130, w131, h124⟩ := h124
         exact by
          have h133 := h124
          obtain ⟨q135, k134⟩ := h133
          refine lv_iload_n hx hb dX12_costOf_35 rfl (lv_at hl 0 rfl) ?_
          have g136 := jrg (rfl : r125.toInt = r125.toInt)
          have g137 := jrg (rfl : r98.toInt = r98.toInt)
          refine lv_isub hx hb dX12_costOf_36 ?_
          refine lv_topi (fun x138 ex138 => ?_)
          have tx138 : x138.toInt = r125.toInt - r98.toInt := (jsub ex138 rfl rfl (by omega) (by omega)).trans (by omega)
          have w139 : ∀ k : Nat, k < 4 → 0 ≤ (σ124 68 k).toInt ∧ (σ124 68 k).toInt ≤ 3 := (jrr_fr (f126 68 (of_decide_eq_true rfl)) (jrr_fr (f99 68 (of_decide_eq_true rfl)) (jrr_fr (f37 68 (of_decide_eq_true rfl)) w27)))
          exact by
           have I140 : jI119 σ124 := w139
           have p141 : jBook σ124 := jBook.fr ((f127 47 (of_decide_eq_true rfl)).trans ((f100 47 (of_decide_eq_true rfl)).trans (f38 47 (of_decide_eq_true rfl)))) ((f127 10 (of_decide_eq_true rfl)).trans ((f100 10 (of_decide_eq_true rfl)).trans (f38 10 (of_decide_eq_true rfl)))) ((f126 81 (of_decide_eq_true rfl)).trans ((f99 81 (of_decide_eq_true rfl)).trans (f37 81 (of_decide_eq_true rfl)))) p18
           have z142 : (σ124 55 42).toInt = (σ35 55 42).toInt := (congrArg Int32.toInt (show σ124 55 42 = (σ35 55 42) from ((f127 42 (of_decide_eq_true rfl)).trans (f100 42 (of_decide_eq_true rfl)))))
           exact by exact hret x138 σ124 τ _ _ _ _ rfl ⟨rfl, (fun i hi => ((f126 i (imp_258 i hi)).trans ((f99 i (imp_258 i hi)).trans ((f37 i (imp_259 i hi)).trans (f15 i (imp_256 i hi)))))), (fun i hi => ((f127 i (imp_260 i hi)).trans ((f100 i (imp_260 i hi)).trans ((f38 i (imp_261 i hi)).trans (f16 i (imp_257 i hi)))))), I140, p128, p141, p129, p130, (by omega), (by omega), trivial⟩ hP hS dX12_costOf_37
