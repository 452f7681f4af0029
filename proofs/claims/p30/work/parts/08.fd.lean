set_option maxHeartbeats 4000000 in
set_option maxRecDepth 100000 in
theorem c_X12_theirs (l : Launch) (D : va_G) (cI cL : ClassId) (ad zz : Nat → Nat) (hJ : jD ad) (σ : Nat → Nat → Int32) (τ : Nat → Nat → Int64) (a1 : Int32) (A1 : Int) (t1 : a1.toInt = A1) (hI101 : jI101 σ) (hI102 : jI102 σ) (hI103 : jI103 σ) (hI104 : jI104 σ) (hI105 : jI105 σ) (hI106 : jI106 σ) (hI119 : jI119 σ) (hI111 : jI111 σ) (hs_jKept : jKept σ) : jM l yX12_theirs cX12_theirs 3 (some .int) ({ frames := 110, cells := 0, slots := 0, locals := 5231 }) D cI cL ad zz [.ref (ad 55), .int a1] σ τ (fun r σ' τ' => τ = τ' ∧ (∀ i : Nat, (i < 55 ∨ 55 < i) ∧ (i < 62 ∨ 62 < i) ∧ (i < 66 ∨ 66 < i) ∧ (i < 68 ∨ 69 < i) ∧ (i < 74 ∨ 79 < i) → σ' i = σ i) ∧ (∀ k : Nat, (k < 18 ∨ 18 < k) ∧ (k < 19 ∨ 19 < k) ∧ (k < 20 ∨ 20 < k) ∧ (k < 21 ∨ 21 < k) ∧ (k < 22 ∨ 22 < k) ∧ (k < 25 ∨ 25 < k) ∧ (k < 26 ∨ 26 < k) ∧ (k < 27 ∨ 27 < k) ∧ (k < 37 ∨ 37 < k) ∧ (k < 42 ∨ 42 < k) ∧ (k < 45 ∨ 45 < k) ∧ (k < 46 ∨ 46 < k) → σ' 55 k = σ 55 k) ∧ (jI104 σ') ∧ (jI111 σ') ∧ (jI119 σ') ∧ (jKept σ') ∧ (jSo (σ' 62) (σ 62) ((σ 55 10).toInt)) ∧ True) := by
  refine jM.of hJ (by decide +kernel) (nt := .int) rfl (Nat.le_of_ble_eq_true rfl) ?_
  intro p e s m args below meth c Q ls hC hret hl hP
  obtain ⟨hx, hb, hr, hml, hown, hts, hK, -, hlocks, hZ⟩ := hC
  have hown : s.vm.findClass RX12 = some m.cls := hown
  have hS : va_S (jA ad) s.heap s.heap [] := va_S.rf
  have hA : ∀ q, jA ad q → jA ad q := fun _ h => h
  have hl : lv_has ls 3 [(0, .ref (ad 55)), (1, .int a1)] := hl
  have g1 := jrg t1
  obtain ⟨i1, i2, i3, w4, w5⟩ : (1 ≤ (σ 55 10).toInt ∧ (σ 55 10).toInt ≤ 8) ∧ (1 ≤ (σ 55 12).toInt ∧ (σ 55 12).toInt ≤ 12) ∧ (0 ≤ (σ 55 13).toInt ∧ (σ 55 13).toInt ≤ 999) ∧ (∀ k : Nat, k < 8 → 0 ≤ (σ 62 k).toInt ∧ (σ 62 k).toInt ≤ 3) ∧ (∀ k : Nat, k < 8 → 0 ≤ (σ 67 k).toInt ∧ (σ 67 k).toInt ≤ 3) := id hI104
  have w6 : ∀ k : Nat, k < 5 → 0 ≤ (σ 79 k).toInt ∧ (σ 79 k).toInt ≤ 3 := hI111
  refine lv_iload_n hx hb dX12_theirs_0 rfl (lv_at hl 1 rfl) ?_
  refine lv_i2l (v := a1.toInt64) hx hb dX12_theirs_1 rfl ?_
  refine lv_lconst (v := 0) hx hb dX12_theirs_2 (by decide) ?_
  refine lv_lconst (v := 1) hx hb dX12_theirs_3 (by decide) ?_
  refine jcallS (As := [.long a1.toInt64, .long 0, .long 1]) (rest := []) ⟨hx, hb, hml, hown, hts⟩ hK hP hA hS hZ (c_X12_within l D cI cL ad zz hJ σ τ a1.toInt64 (A1) (jtoL t1) 0 (0) jzl_0 1 (1) jzl_1) cw_RX12_136 ⟨Nat.le_of_ble_eq_true rfl, Nat.le_of_ble_eq_true rfl⟩ rfl rfl rfl hl.1 rfl (Nat.le_of_ble_eq_true rfl) dX12_theirs_4 ⟨Nat.zero_le _, Nat.zero_le _⟩ (fun r8 σ7 τ7 H locs h7 hP hS => ?_)
  obtain ⟨⟨rfl, rfl⟩, h7⟩ := h7
  rcases h7 with h9 | h10
  · obtain ⟨q12, k11⟩ := h9
    have q12 := q12.symm
    subst q12
    refine lv_if_ne (tgt := 12) hx hb dX12_theirs_7 (by decide) (fun _ => ?_) (fun c => absurd c (by decide))
    refine lv_aload_n hx hb dX12_theirs_12 rfl (lv_at hl 0 rfl) ?_
    refine va_get (D := D) hx hb hts inlX12 hown hK hP 55 (jc_55 cI cL ad σ τ) rfl 10 (by decide) (hts _ kw_8_15) (fun _ h9 => h9) rfl dX12_theirs_13 ?_
    refine lv_iconst (v := 5) hx hb dX12_theirs_16 (by decide) ?_
    refine lv_icmp_gt (tgt := 29) hx hb dX12_theirs_17 (by decide) (fun c13 => ?_) (fun c13 => ?_)
    · have kc13 := jlt c13 jz_5 rfl
      refine lv_bipush (v := (-4)) hx hb dX12_theirs_29 (by decide) ?_
      exact hret (-4) σ τ _ _ _ _ rfl ⟨rfl, (fun _ _ => rfl), (fun _ _ => rfl), hI104, hI111, hI119, hs_jKept, (by rw [show σ 62 = σ 62 from rfl]; exact jSo.rfl), trivial⟩ hP hS dX12_theirs_31
    · have kc13 := jnlt c13 jz_5 rfl
      refine lv_aload_n hx hb dX12_theirs_20 rfl (lv_at hl 0 rfl) ?_
      refine va_get (D := D) hx hb hts inlX12 hown hK hP 55 (jc_55 cI cL ad σ τ) rfl 12 (by decide) (hts _ kw_8_16) (fun _ h9 => h9) rfl dX12_theirs_21 ?_
      refine lv_bipush (v := 8) hx hb dX12_theirs_24 (by decide) ?_
      refine lv_icmp_le (tgt := 32) hx hb dX12_theirs_26 (by decide) (fun c14 => ?_) (fun c14 => ?_)
      · have kc14 := jle c14 rfl jz_8
        refine lv_iconst (v := 0) hx hb dX12_theirs_32 (by decide) ?_
        refine lv_istore_n (lv' := [(2, .int 0), (0, .ref (ad 55)), (1, .int a1)]) hx hb dX12_theirs_33 rfl hl (by decide) rfl (fun ls hl => ?_)
        have lp15 : ∀ (n16 : Nat) (x17 : Int32) (σ18 : Nat → Nat → Int32) (H : Heap) (locs : List Loc) (ls : Array Slot), ((σ18 55 10).toInt - x17.toInt : Int) < n16 → 0 ≤ x17.toInt → x17.toInt ≤ 5 → x17.toInt ≤ (σ18 55 10).toInt → (∀ i : Nat, (i < 79 ∨ 79 < i) → σ18 i = σ i) → jI111 σ18 → (jSo (σ18 79) (σ 62) (x17.toInt)) → jH D cI cL ad σ18 τ H → va_S (jA ad) s.heap H locs → lv_has ls 3 [(2, .int x17), (0, .ref (ad 55)), (1, .int a1)] → W p l e ({ frames := 110, cells := 0, slots := 0, locals := 5231 }) s m args below meth c H locs 0 0 Q (F0 m 34 ls []) := by
          intro n16
          induction n16 with
          | zero => intro x17 σ18 H locs ls h20 h21 h22 h23; exact absurd h20 (by omega)
          | succ n16 ihlp15 =>
            intro x17 σ18 H locs ls h20 h21 h22 h23 f24 p25 q26 hP hS hl
            have w27 : ∀ k : Nat, k < 5 → 0 ≤ (σ18 79 k).toInt ∧ (σ18 79 k).toInt ≤ 3 := p25
            have z28 : (σ18 55 10).toInt = (σ 55 10).toInt := (congrArg Int32.toInt (show σ18 55 10 = (σ 55 10) from (congrFun (f24 55 (by decide)) 10)))
            refine lv_iload_n hx hb dX12_theirs_34 rfl (lv_at hl 0 rfl) ?_
            refine lv_aload_n hx hb dX12_theirs_35 rfl (lv_at hl 1 rfl) ?_
            refine va_get (D := D) hx hb hts inlX12 hown hK hP 55 (jc_55 cI cL ad σ18 τ) rfl 10 (by decide) (hts _ kw_8_15) (fun _ h9 => h9) rfl dX12_theirs_36 ?_
            have m29 : σ18 55 10 = (σ 55 10) := (congrFun (f24 55 (by decide)) 10)
            refine jtopr m29 ?_
            refine lv_icmp_ge (tgt := 60) hx hb dX12_theirs_39 (by decide) (fun c30 => ?_) (fun c30 => ?_)
            · have kc30 := jle c30 rfl rfl
              refine lv_aload_n hx hb dX12_theirs_60 rfl (lv_at hl 1 rfl) ?_
              refine lv_iconst (v := (-1)) hx hb dX12_theirs_61 (by decide) ?_
              refine jput (ty := .int) hx hb hts inlX12 tyX12 tyX12_ok nmX12 hown hK hP hJ hA hS (jc_55 cI cL ad σ18 τ) rfl (k := 46) (by decide) (Nat.le_of_ble_eq_true rfl) (jp_55_46 cI cL ad σ18 τ (-1)) (hts _ kw_40_17) (fun _ h9 => h9) rfl (by decide +kernel) rfl rfl dX12_theirs_62 (fun σ31 H locs eσ31 hP hS => ?_)
              refine lv_aload_n hx hb dX12_theirs_65 rfl (lv_at hl 1 rfl) ?_
              refine lv_iconst (v := 0) hx hb dX12_theirs_66 (by decide) ?_
              refine lv_iconst (v := 0) hx hb dX12_theirs_67 (by decide) ?_
              refine lv_iconst (v := 0) hx hb dX12_theirs_68 (by decide) ?_
              have I32 : jI101 σ31 := jI101_fr ((jkp 4 eσ31 (by decide)).trans (congrFun (f24 55 (by decide)) 4)) ((jkp 5 eσ31 (by decide)).trans (congrFun (f24 55 (by decide)) 5)) ((jnp 56 eσ31 (by decide)).trans (f24 56 (by decide))) ((jnp 57 eσ31 (by decide)).trans (f24 57 (by decide))) ((jnp 58 eσ31 (by decide)).trans (f24 58 (by decide))) ((jnp 59 eσ31 (by decide)).trans (f24 59 (by decide))) hI101
              have I33 : jI102 σ31 := jI102_fr ((jkp 6 eσ31 (by decide)).trans (congrFun (f24 55 (by decide)) 6)) ((jnp 60 eσ31 (by decide)).trans (f24 60 (by decide))) ((jnp 61 eσ31 (by decide)).trans (f24 61 (by decide))) hI102
              have I34 : jI103 σ31 := jI103_fr ((jkp 9 eσ31 (by decide)).trans (congrFun (f24 55 (by decide)) 9)) hI103
              have I35 : jI104 σ31 := jI104_fr ((jkp 10 eσ31 (by decide)).trans (congrFun (f24 55 (by decide)) 10)) ((jkp 12 eσ31 (by decide)).trans (congrFun (f24 55 (by decide)) 12)) ((jkp 13 eσ31 (by decide)).trans (congrFun (f24 55 (by decide)) 13)) ((jnp 62 eσ31 (by decide)).trans (f24 62 (by decide))) ((jnp 67 eσ31 (by decide)).trans (f24 67 (by decide))) hI104
              have I36 : jI105 σ31 := jI105_fr ((jkp 15 eσ31 (by decide)).trans (congrFun (f24 55 (by decide)) 15)) ((jnp 65 eσ31 (by decide)).trans (f24 65 (by decide))) hI105
              have I37 : jI106 σ31 := jI106_fr ((jkp 32 eσ31 (by decide)).trans (congrFun (f24 55 (by decide)) 32)) ((jnp 70 eσ31 (by decide)).trans (f24 70 (by decide))) ((jnp 71 eσ31 (by decide)).trans (f24 71 (by decide))) ((jnp 72 eσ31 (by decide)).trans (f24 72 (by decide))) hI106
              have I38 : jI119 σ31 := jI119_fr ((jnp 68 eσ31 (by decide)).trans (f24 68 (by decide))) hI119
              have I39 : jI111 σ31 := jI111_fr (jnp 79 eσ31 (by decide)) p25
              have p40 : jKept σ31 := jKept.fr ((jnp 75 eσ31 (by decide)).trans (f24 75 (by decide))) ((jnp 76 eσ31 (by decide)).trans (f24 76 (by decide))) ((jnp 77 eσ31 (by decide)).trans (f24 77 (by decide))) hs_jKept
              have z41 : (σ31 55 10).toInt = (σ 55 10).toInt := (congrArg Int32.toInt (show σ31 55 10 = (σ 55 10) from ((jkp 10 eσ31 (by decide)).trans m29)))
              have z42 : (σ31 55 12).toInt = (σ 55 12).toInt := (congrArg Int32.toInt (show σ31 55 12 = (σ 55 12) from ((jkp 12 eσ31 (by decide)).trans (congrFun (f24 55 (by decide)) 12))))
              refine jcallVv (As := [.int 0, .int 0, .int 0]) (rest := []) ⟨hx, hb, hml, hown, hts⟩ hK hP hA hS hZ (c_X12_orders_0 l D cI cL ad zz hJ σ31 τ 0 (0) jz_0 0 (0) jz_0 I32 I33 I34 I35 I36 I37 I38 I39 p40 (by omega) (by omega) (by omega)) cw_RX12_355 (jc_55 cI cL ad σ31 τ) rfl ⟨Nat.le_of_ble_eq_true rfl, Nat.le_of_ble_eq_true rfl⟩ rfl rfl rfl hl.1 rfl (Nat.le_of_ble_eq_true rfl) dX12_theirs_69 ⟨Nat.zero_le _, Nat.zero_le _⟩ (fun σ43 τ43 H locs h43 hP hS => ?_)
              obtain ⟨rfl, f45, f46, I47, I48, p49, h43⟩ := h43
              obtain ⟨i51, i52, i53, w54, w55⟩ : (1 ≤ (σ43 55 10).toInt ∧ (σ43 55 10).toInt ≤ 8) ∧ (1 ≤ (σ43 55 12).toInt ∧ (σ43 55 12).toInt ≤ 12) ∧ (0 ≤ (σ43 55 13).toInt ∧ (σ43 55 13).toInt ≤ 999) ∧ (∀ k : Nat, k < 8 → 0 ≤ (σ43 62 k).toInt ∧ (σ43 62 k).toInt ≤ 3) ∧ (∀ k : Nat, k < 8 → 0 ≤ (σ43 67 k).toInt ∧ (σ43 67 k).toInt ≤ 3) := id I47
              have z56 : (σ43 55 10).toInt = (σ 55 10).toInt := (congrArg Int32.toInt (show σ43 55 10 = (σ 55 10) from ((f46 10 (by decide)).trans ((jkp 10 eσ31 (by decide)).trans m29))))
              have z57 : (σ43 55 12).toInt = (σ 55 12).toInt := (congrArg Int32.toInt (show σ43 55 12 = (σ 55 12) from ((f46 12 (by decide)).trans ((jkp 12 eσ31 (by decide)).trans (congrFun (f24 55 (by decide)) 12)))))
              have z58 : (σ43 55 13).toInt = (σ 55 13).toInt := (congrArg Int32.toInt (show σ43 55 13 = (σ 55 13) from ((f46 13 (by decide)).trans ((jkp 13 eσ31 (by decide)).trans (congrFun (f24 55 (by decide)) 13)))))
              refine lv_iconst (v := 0) hx hb dX12_theirs_72 (by decide) ?_
              refine lv_istore_n (lv' := [(2, .int 0), (0, .ref (ad 55)), (1, .int a1)]) hx hb dX12_theirs_73 rfl hl (by decide) rfl (fun ls hl => ?_)
              have lp59 : ∀ (n60 : Nat) (x61 : Int32) (σ62 : Nat → Nat → Int32) (H : Heap) (locs : List Loc) (ls : Array Slot), ((σ62 55 10).toInt - x61.toInt : Int) < n60 → 0 ≤ x61.toInt → x61.toInt ≤ 5 → x61.toInt ≤ (σ62 55 10).toInt → (∀ i : Nat, (i < 62 ∨ 62 < i) → σ62 i = σ43 i) → jI104 σ62 → (jSo (σ62 62) (σ43 79) (x61.toInt)) → jH D cI cL ad σ62 τ H → va_S (jA ad) s.heap H locs → lv_has ls 3 [(2, .int x61), (0, .ref (ad 55)), (1, .int a1)] → W p l e ({ frames := 110, cells := 0, slots := 0, locals := 5231 }) s m args below meth c H locs 0 0 Q (F0 m 74 ls []) := by
                intro n60
                induction n60 with
                | zero => intro x61 σ62 H locs ls h64 h65 h66 h67; exact absurd h64 (by omega)
                | succ n60 ihlp59 =>
                  intro x61 σ62 H locs ls h64 h65 h66 h67 f68 p69 q70 hP hS hl
                  obtain ⟨i71, i72, i73, w74, w75⟩ : (1 ≤ (σ62 55 10).toInt ∧ (σ62 55 10).toInt ≤ 8) ∧ (1 ≤ (σ62 55 12).toInt ∧ (σ62 55 12).toInt ≤ 12) ∧ (0 ≤ (σ62 55 13).toInt ∧ (σ62 55 13).toInt ≤ 999) ∧ (∀ k : Nat, k < 8 → 0 ≤ (σ62 62 k).toInt ∧ (σ62 62 k).toInt ≤ 3) ∧ (∀ k : Nat, k < 8 → 0 ≤ (σ62 67 k).toInt ∧ (σ62 67 k).toInt ≤ 3) := id p69
                  have z76 : (σ62 55 10).toInt = (σ 55 10).toInt := (congrArg Int32.toInt (show σ62 55 10 = (σ 55 10) from ((congrFun (f68 55 (by decide)) 10).trans ((f46 10 (by decide)).trans ((jkp 10 eσ31 (by decide)).trans m29)))))
                  have z77 : (σ62 55 12).toInt = (σ 55 12).toInt := (congrArg Int32.toInt (show σ62 55 12 = (σ 55 12) from ((congrFun (f68 55 (by decide)) 12).trans ((f46 12 (by decide)).trans ((jkp 12 eσ31 (by decide)).trans (congrFun (f24 55 (by decide)) 12))))))
                  have z78 : (σ62 55 13).toInt = (σ 55 13).toInt := (congrArg Int32.toInt (show σ62 55 13 = (σ 55 13) from ((congrFun (f68 55 (by decide)) 13).trans ((f46 13 (by decide)).trans ((jkp 13 eσ31 (by decide)).trans (congrFun (f24 55 (by decide)) 13))))))
                  refine lv_iload_n hx hb dX12_theirs_74 rfl (lv_at hl 0 rfl) ?_
                  refine lv_aload_n hx hb dX12_theirs_75 rfl (lv_at hl 1 rfl) ?_
                  refine va_get (D := D) hx hb hts inlX12 hown hK hP 55 (jc_55 cI cL ad σ62 τ) rfl 10 (by decide) (hts _ kw_8_15) (fun _ h9 => h9) rfl dX12_theirs_76 ?_
                  have m79 : σ62 55 10 = (σ 55 10) := ((congrFun (f68 55 (by decide)) 10).trans ((f46 10 (by decide)).trans ((jkp 10 eσ31 (by decide)).trans m29)))
                  refine jtopr m79 ?_
                  refine lv_icmp_ge (tgt := 100) hx hb dX12_theirs_79 (by decide) (fun c80 => ?_) (fun c80 => ?_)
                  · have kc80 := jle c80 rfl rfl
                    refine lv_iload_n hx hb dX12_theirs_100 rfl (lv_at hl 2 rfl) ?_
                    refine lv_if_ne (tgt := 111) hx hb dX12_theirs_101 (by decide) (fun c81 => ?_) (fun c81 => ?_)
                    · have kc81 := jne c81 t1 jz_0
                      refine lv_aload_n hx hb dX12_theirs_111 rfl (lv_at hl 1 rfl) ?_
                      refine va_get (D := D) hx hb hts inlX12 hown hK hP 55 (jc_55 cI cL ad σ62 τ) rfl 46 (by decide) (hts _ kw_40_17) (fun _ h9 => h9) rfl dX12_theirs_112 ?_
                      have m82 : σ62 55 46 = (σ43 55 46) := (congrFun (f68 55 (by decide)) 46)
                      refine jtopr m82 ?_
                      have I83 : jI111 σ62 := jI111_fr ((f68 79 (by decide)).trans (f45 79 (by decide))) I39
                      have I84 : jI119 σ62 := jI119_fr (f68 68 (by decide)) I48
                      have p85 : jKept σ62 := jKept.fr (f68 75 (by decide)) (f68 76 (by decide)) (f68 77 (by decide)) p49
                      exact hret (σ43 55 46) σ62 τ _ _ _ _ rfl ⟨rfl, (fun i hi => ((f68 i (imp_277 i hi)).trans ((f45 i (imp_278 i hi)).trans ((jnp i eσ31 (imp_279 i hi)).trans (f24 i (imp_280 i hi)))))), (fun i hi => ((congrFun (f68 55 (by decide)) i).trans ((f46 i hi).trans ((jkp i eσ31 (imp_275 i hi)).trans (congrFun (f24 55 (by decide)) i))))), p69, I83, I84, p85, (jSo.trans (g := σ43 79) q70 (by rw [show σ43 79 = σ18 79 from ((f45 79 (by decide)).trans (jnp 79 eσ31 (by decide)))]; exact q26) (by omega) (by omega)), trivial⟩ hP hS dX12_theirs_115
                    · have kc81 := jeq c81 t1 jz_0
                      refine lv_aload_n hx hb dX12_theirs_104 rfl (lv_at hl 1 rfl) ?_
                      refine va_get (D := D) hx hb hts inlX12 hown hK hP 55 (jc_55 cI cL ad σ62 τ) rfl 45 (by decide) (hts _ kw_40_18) (fun _ h9 => h9) rfl dX12_theirs_105 ?_
                      have m86 : σ62 55 45 = (σ43 55 45) := (congrFun (f68 55 (by decide)) 45)
                      refine jtopr m86 ?_
                      refine lv_goto (tgt := 115) hx hb dX12_theirs_108 (by decide) ?_
                      have I87 : jI111 σ62 := jI111_fr ((f68 79 (by decide)).trans (f45 79 (by decide))) I39
                      have I88 : jI119 σ62 := jI119_fr (f68 68 (by decide)) I48
                      have p89 : jKept σ62 := jKept.fr (f68 75 (by decide)) (f68 76 (by decide)) (f68 77 (by decide)) p49
                      exact hret (σ43 55 45) σ62 τ _ _ _ _ rfl ⟨rfl, (fun i hi => ((f68 i (imp_277 i hi)).trans ((f45 i (imp_278 i hi)).trans ((jnp i eσ31 (imp_279 i hi)).trans (f24 i (imp_280 i hi)))))), (fun i hi => ((congrFun (f68 55 (by decide)) i).trans ((f46 i hi).trans ((jkp i eσ31 (imp_275 i hi)).trans (congrFun (f24 55 (by decide)) i))))), p69, I87, I88, p89, (jSo.trans (g := σ43 79) q70 (by rw [show σ43 79 = σ18 79 from ((f45 79 (by decide)).trans (jnp 79 eσ31 (by decide)))]; exact q26) (by omega) (by omega)), trivial⟩ hP hS dX12_theirs_115
                  · have kc80 := jnle c80 rfl rfl
                    refine lv_aload_n hx hb dX12_theirs_82 rfl (lv_at hl 1 rfl) ?_
                    refine va_get (D := D) hx hb hts inlX12 hown hK hP 55 (jc_55 cI cL ad σ62 τ) rfl 11 (by decide) (hts _ kw_7_8) (fun _ h9 => h9) rfl dX12_theirs_83 ?_
                    refine lv_iload_n hx hb dX12_theirs_86 rfl (lv_at hl 0 rfl) ?_
                    refine lv_aload_n hx hb dX12_theirs_87 rfl (lv_at hl 1 rfl) ?_
                    refine va_get (D := D) hx hb hts inlX12 hown hK hP 55 (jc_55 cI cL ad σ62 τ) rfl 44 (by decide) (hts _ kw_8_4) (fun _ h9 => h9) rfl dX12_theirs_88 ?_
                    refine lv_iload_n hx hb dX12_theirs_91 rfl (lv_at hl 0 rfl) ?_
                    refine jald hx hb hK hP (jc_79 cI cL ad σ62 τ) (jin rfl (by omega) (by omega)) dX12_theirs_92 ?_
                    have w90 : ∀ k : Nat, k < 5 → 0 ≤ (σ62 79 k).toInt ∧ (σ62 79 k).toInt ≤ 3 := (jrr_fr (f68 79 (by decide)) (jrr_fr (f45 79 (by decide)) (jrr_fr (jnp 79 eσ31 (by decide)) w27)))
                    have g91 := w90 _ (jnat (x := x61) rfl (n := 5) (by omega) (by decide))
                    refine jtopr (y := (σ18 79 x61.toNatClampNeg)) (by rw [f68 79 (by decide), f45 79 (by decide), jnp 79 eσ31 (by decide)]) ?_
                    rw [f68 79 (by decide), f45 79 (by decide), jnp 79 eσ31 (by decide)] at g91
                    refine jast hx hb hK hP hJ hA hS (jc_62 cI cL ad σ62 τ) (ja_62 cI cL ad σ62 τ _ _) (jin rfl (by omega) (by omega)) dX12_theirs_93 (fun σ92 H locs eσ92 hP hS => ?_)
                    obtain ⟨x93, ex93⟩ : ∃ y : Int32, y = x61 + 1 := ⟨_, rfl⟩
                    have tx93 : x93.toInt = x61.toInt + 1 := (jadd ex93 rfl jz_1 (by omega) (by omega)).trans (by omega)
                    refine lv_iinc (v := x93) (lv' := [(2, .int x93), (0, .ref (ad 55)), (1, .int a1)]) hx hb dX12_theirs_94 hl (k := 0) rfl (by rw [ex93]; rfl) (by decide) rfl (fun ls hl => ?_)
                    refine lv_goto (tgt := 74) hx hb dX12_theirs_97 (by decide) ?_
                    have z94 : (σ92 55 10).toInt = (σ 55 10).toInt := (congrArg Int32.toInt (show σ92 55 10 = (σ 55 10) from ((congrFun (jnp 55 eσ92 (by decide)) 10).trans m79)))
                    have z95 : (σ92 55 12).toInt = (σ 55 12).toInt := (congrArg Int32.toInt (show σ92 55 12 = (σ 55 12) from ((congrFun (jnp 55 eσ92 (by decide)) 12).trans ((congrFun (f68 55 (by decide)) 12).trans ((f46 12 (by decide)).trans ((jkp 12 eσ31 (by decide)).trans (congrFun (f24 55 (by decide)) 12)))))))
                    have z96 : (σ92 55 13).toInt = (σ 55 13).toInt := (congrArg Int32.toInt (show σ92 55 13 = (σ 55 13) from ((congrFun (jnp 55 eσ92 (by decide)) 13).trans ((congrFun (f68 55 (by decide)) 13).trans ((f46 13 (by decide)).trans ((jkp 13 eσ31 (by decide)).trans (congrFun (f24 55 (by decide)) 13)))))))
                    have w97 : ∀ k : Nat, k < 8 → 0 ≤ (σ92 62 k).toInt ∧ (σ92 62 k).toInt ≤ 3 := (by rw [eσ92]; exact jrr_up w74 (by omega) (by omega))
                    have w98 : ∀ k : Nat, k < 8 → 0 ≤ (σ92 67 k).toInt ∧ (σ92 67 k).toInt ≤ 3 := (jrr_fr (jnp 67 eσ92 (by decide)) w75)
                    have I99 : jI104 σ92 := ⟨(by omega), (by omega), (by omega), w97, w98⟩
                    exact ihlp59 x93 σ92 _ _ ls (by have h90 := tx93; omega) (by have h90 := tx93; omega) (by have h90 := tx93; omega) (by have h90 := tx93; omega) (fun i hi => ((jnp i eσ92 (imp_237 i hi)).trans (f68 i hi)))   I99 (jSo.step q70 (by omega) (by rw [eσ92, jup_row, jnc (rfl : x61.toInt = x61.toInt)]) (by omega) (by rw [show σ43 79 = σ18 79 from ((f45 79 (by decide)).trans (jnp 79 eσ31 (by decide)))]; (try rw [jnc (show x61.toInt = x61.toInt by omega)]); try rfl) (by have h9 := tx93; omega)) hP hS (lv_sub hl [0, 1, 2] rfl)
              exact lp59 1000000 0 σ43 _ _ ls (by have h90 := jz_0; omega) (by have h90 := jz_0; omega) (by have h90 := jz_0; omega) (by have h90 := jz_0; omega) (fun _ _ => rfl)  I47 (jSo.first (by have h9 := jz_0; omega)) hP hS hl
            · have kc30 := jnle c30 rfl rfl
              refine lv_aload_n hx hb dX12_theirs_42 rfl (lv_at hl 1 rfl) ?_
              refine va_get (D := D) hx hb hts inlX12 hown hK hP 55 (jc_55 cI cL ad σ18 τ) rfl 44 (by decide) (hts _ kw_8_4) (fun _ h9 => h9) rfl dX12_theirs_43 ?_
              refine lv_iload_n hx hb dX12_theirs_46 rfl (lv_at hl 0 rfl) ?_
              refine lv_aload_n hx hb dX12_theirs_47 rfl (lv_at hl 1 rfl) ?_
              refine va_get (D := D) hx hb hts inlX12 hown hK hP 55 (jc_55 cI cL ad σ18 τ) rfl 11 (by decide) (hts _ kw_7_8) (fun _ h9 => h9) rfl dX12_theirs_48 ?_
              refine lv_iload_n hx hb dX12_theirs_51 rfl (lv_at hl 0 rfl) ?_
              refine jald hx hb hK hP (jc_62 cI cL ad σ18 τ) (jin rfl (by omega) (by omega)) dX12_theirs_52 ?_
              have w100 : ∀ k : Nat, k < 8 → 0 ≤ (σ18 62 k).toInt ∧ (σ18 62 k).toInt ≤ 3 := (jrr_fr (f24 62 (by decide)) w4)
              have g101 := w100 _ (jnat (x := x17) rfl (n := 8) (by omega) (by decide))
              refine jtopr (y := (σ 62 x17.toNatClampNeg)) (by rw [f24 62 (by decide)]) ?_
              rw [f24 62 (by decide)] at g101
              refine jast hx hb hK hP hJ hA hS (jc_79 cI cL ad σ18 τ) (ja_79 cI cL ad σ18 τ _ _) (jin rfl (by omega) (by omega)) dX12_theirs_53 (fun σ102 H locs eσ102 hP hS => ?_)
              obtain ⟨x103, ex103⟩ : ∃ y : Int32, y = x17 + 1 := ⟨_, rfl⟩
              have tx103 : x103.toInt = x17.toInt + 1 := (jadd ex103 rfl jz_1 (by omega) (by omega)).trans (by omega)
              refine lv_iinc (v := x103) (lv' := [(2, .int x103), (0, .ref (ad 55)), (1, .int a1)]) hx hb dX12_theirs_54 hl (k := 0) rfl (by rw [ex103]; rfl) (by decide) rfl (fun ls hl => ?_)
              refine lv_goto (tgt := 34) hx hb dX12_theirs_57 (by decide) ?_
              have z104 : (σ102 55 10).toInt = (σ 55 10).toInt := (congrArg Int32.toInt (show σ102 55 10 = (σ 55 10) from ((congrFun (jnp 55 eσ102 (by decide)) 10).trans m29)))
              have w105 : ∀ k : Nat, k < 5 → 0 ≤ (σ102 79 k).toInt ∧ (σ102 79 k).toInt ≤ 3 := (by rw [eσ102]; exact jrr_up w27 (by omega) (by omega))
              have I106 : jI111 σ102 := w105
              exact ihlp15 x103 σ102 _ _ ls (by have h90 := tx103; omega) (by have h90 := tx103; omega) (by have h90 := tx103; omega) (by have h90 := tx103; omega) (fun i hi => ((jnp i eσ102 (imp_281 i hi)).trans (f24 i hi)))   I106 (jSo.step q26 (by omega) (by rw [eσ102, jup_row, jnc (rfl : x17.toInt = x17.toInt)]) (by omega) (by (try rw [jnc (show x17.toInt = x17.toInt by omega)]); try rfl) (by have h9 := tx103; omega)) hP hS (lv_sub hl [0, 1, 2] rfl)
        exact lp15 1000000 0 σ _ _ ls (by have h90 := jz_0; omega) (by have h90 := jz_0; omega) (by have h90 := jz_0; omega) (by have h90 := jz_0; omega) (fun _ _ => rfl)  hI111 (jSo.first (by have h9 := jz_0; omega)) hP hS hl
      · have kc14 := jnle c14 rfl jz_8
        refine lv_bipush (v := (-4)) hx hb dX12_theirs_29 (by decide) ?_
        exact hret (-4) σ τ _ _ _ _ rfl ⟨rfl, (fun _ _ => rfl), (fun _ _ => rfl), hI104, hI111, hI119, hs_jKept, (by rw [show σ 62 = σ 62 from rfl]; exact jSo.rfl), trivial⟩ hP hS dX12_theirs_31
  · obtain ⟨q108, k107⟩ := h10
    have q108 := q108.symm
    subst q108
    refine lv_if_ne (tgt := 12) hx hb dX12_theirs_7 (by decide) (fun c => absurd (by decide) c) (fun _ => ?_)
    refine lv_iconst (v := (-1)) hx hb dX12_theirs_10 (by decide) ?_
    exact hret (-1) σ τ _ _ _ _ rfl ⟨rfl, (fun _ _ => rfl), (fun _ _ => rfl), hI104, hI111, hI119, hs_jKept, (by rw [show σ 62 = σ 62 from rfl]; exact jSo.rfl), trivial⟩ hP hS dX12_theirs_11
set_option maxHeartbeats 4000000 in
set_option maxRecDepth 100000 in
theorem c_X12_isShelf (l : Launch) (D : va_G) (cI cL : ClassId) (ad zz : Nat → Nat) (hJ : jD ad) (σ : Nat → Nat → Int32) (τ : Nat → Nat → Int64) (a1 : Int32) (A1 : Int) (t1 : a1.toInt = A1) : jM l yX12_isShelf cX12_isShelf 1 (some .boolean) ({ frames := 1, cells := 0, slots := 0, locals := 25 }) D cI cL ad zz [.int a1] σ τ (fun r σ' τ' => (σ = σ' ∧ τ = τ') ∧ ((r = 1 ∧ (0 ≤ A1 ∧ A1 ≤ 5)) ∨ (r = 0 ∧ ((A1 < 0) ∨ (5 < A1))))) := by
  refine jM.of hJ (by decide +kernel) (nt := .boolean) rfl (Nat.le_of_ble_eq_true rfl) ?_
  intro p e s m args below meth c Q ls hC hret hl hP
  obtain ⟨hx, hb, hr, hml, hown, hts, hK, -, hlocks, hZ⟩ := hC
  have hown : s.vm.findClass RX12 = some m.cls := hown
  have hS : va_S (jA ad) s.heap s.heap [] := va_S.rf
  have hA : ∀ q, jA ad q → jA ad q := fun _ h => h
  have hl : lv_has ls 1 [(0, .int a1)] := hl
  have g1 := jrg t1
  refine lv_iload_n hx hb dX12_isShelf_0 rfl (lv_at hl 0 rfl) ?_
  refine lv_i2l (v := a1.toInt64) hx hb dX12_isShelf_1 rfl ?_
  refine lv_lconst (v := 0) hx hb dX12_isShelf_2 (by decide) ?_
  refine lv_ldc2 (v := 5) hx hb hown (hts _ kw_43_20) dX12_isShelf_3 ?_
  refine jcallS (As := [.long a1.toInt64, .long 0, .long 5]) (rest := []) ⟨hx, hb, hml, hown, hts⟩ hK hP hA hS hZ (c_X12_within l D cI cL ad zz hJ σ τ a1.toInt64 (A1) (jtoL t1) 0 (0) jzl_0 5 (5) jzl_5) cw_RX12_136 ⟨Nat.le_of_ble_eq_true rfl, Nat.le_of_ble_eq_true rfl⟩ rfl rfl rfl hl.1 rfl (Nat.le_of_ble_eq_true rfl) dX12_isShelf_6 ⟨Nat.zero_le _, Nat.zero_le _⟩ (fun r2 σ1 τ1 H locs h1 hP hS => ?_)
  obtain ⟨⟨rfl, rfl⟩, h1⟩ := h1
  rcases h1 with h3 | h4
  · obtain ⟨q6, k5⟩ := h3
    have q6 := q6.symm
    subst q6
    exact hret 1 σ τ _ _ _ _ rfl ⟨⟨rfl, rfl⟩, Or.inl ⟨rfl, (by have h9 := jz_1; omega)⟩⟩ hP hS dX12_isShelf_9
  · obtain ⟨q8, k7⟩ := h4
    have q8 := q8.symm
    subst q8
    exact hret 0 σ τ _ _ _ _ rfl ⟨⟨rfl, rfl⟩, Or.inr (⟨rfl, (by have h9 := jz_0; omega)⟩)⟩ hP hS dX12_isShelf_9
set_option maxHeartbeats 4000000 in
set_option maxRecDepth 100000 in
theorem c_X12_books (l : Launch) (D : va_G) (cI cL : ClassId) (ad zz : Nat → Nat) (hJ : jD ad) (σ : Nat → Nat → Int32) (τ : Nat → Nat → Int64) (a1 : Int32) (A1 : Int) (t1 : a1.toInt = A1) (a2 : Int32) (A2 : Int) (t2 : a2.toInt = A2) (hI102 : jI102 σ) (hI104 : jI104 σ) (hI107 : jI107 σ) (hI110 : jI110 σ) (hI119 : jI119 σ) (hs_jBook : jBook σ) : jM l yX12_books cX12_books 6 (some .int) ({ frames := 4, cells := 0, slots := 0, locals := 85 }) D cI cL ad zz [.ref (ad 55), .int a1, .int a2] σ τ (fun r σ' τ' => τ = τ' ∧ (∀ i : Nat, (i < 55 ∨ 55 < i) ∧ (i < 68 ∨ 69 < i) ∧ (i < 80 ∨ 81 < i) → σ' i = σ i) ∧ (∀ k : Nat, (k < 25 ∨ 25 < k) ∧ (k < 26 ∨ 26 < k) ∧ (k < 27 ∨ 27 < k) ∧ (k < 47 ∨ 47 < k) → σ' 55 k = σ 55 k) ∧ (jI107 σ') ∧ (jI119 σ') ∧ (jBook σ') ∧ True) := by
  refine jM.of hJ (by decide +kernel) (nt := .int) rfl (Nat.le_of_ble_eq_true rfl) ?_
  intro p e s m args below meth c Q ls hC hret hl hP
  obtain ⟨hx, hb, hr, hml, hown, hts, hK, -, hlocks, hZ⟩ := hC
  have hown : s.vm.findClass RX12 = some m.cls := hown
  have hS : va_S (jA ad) s.heap s.heap [] := va_S.rf
  have hA : ∀ q, jA ad q → jA ad q := fun _ h => h
  have hl : lv_has ls 6 [(0, .ref (ad 55)), (1, .int a1), (2, .int a2)] := hl
  have g1 := jrg t1
  have g2 := jrg t2
  obtain ⟨i1, i2, w3⟩ : (0 ≤ (σ 55 47).toInt ∧ (σ 55 47).toInt ≤ 12) ∧ ((σ 55 47).toInt ≤ (σ 55 12).toInt) ∧ (∀ k : Nat, k < 12 → 0 ≤ (σ 80 k).toInt ∧ (σ 80 k).toInt ≤ 3) := id hI107
  obtain ⟨w4, w5⟩ : (∀ k : Nat, k < 6 → (-1) ≤ (σ 86 k).toInt ∧ (σ 86 k).toInt ≤ 24) ∧ (∀ k : Nat, k < 6 → 0 ≤ (σ 87 k).toInt ∧ (σ 87 k).toInt ≤ 60) := id hI110
  refine lv_iload_n hx hb dX12_books_0 rfl (lv_at hl 1 rfl) ?_
  refine jcallS (As := [.int a1]) (rest := []) ⟨hx, hb, hml, hown, hts⟩ hK hP hA hS hZ (c_X12_isShelf l D cI cL ad zz hJ σ τ a1 (A1) t1) cw_RX12_361 ⟨Nat.le_of_ble_eq_true rfl, Nat.le_of_ble_eq_true rfl⟩ rfl rfl rfl hl.1 rfl (Nat.le_of_ble_eq_true rfl) dX12_books_1 ⟨Nat.zero_le _, Nat.zero_le _⟩ (fun r7 σ6 τ6 H locs h6 hP hS => ?_)
  obtain ⟨⟨rfl, rfl⟩, h6⟩ := h6
  rcases h6 with h8 | h9
  · obtain ⟨q11, k10⟩ := h8
    have q11 := q11.symm
    subst q11
    refine lv_if_ne (tgt := 9) hx hb dX12_books_4 (by decide) (fun _ => ?_) (fun c => absurd c (by decide))
    refine lv_aload_n hx hb dX12_books_9 rfl (lv_at hl 0 rfl) ?_
    refine va_get (D := D) hx hb hts inlX12 hown hK hP 55 (jc_55 cI cL ad σ τ) rfl 58 (by decide) (hts _ kw_8_11) (fun _ h9 => h9) rfl dX12_books_10 ?_
    refine lv_iload_n hx hb dX12_books_13 rfl (lv_at hl 1 rfl) ?_
    refine jald hx hb hK hP (jc_86 cI cL ad σ τ) (jin t1 (by omega) (by omega)) dX12_books_14 ?_
    have g12 := w4 _ (jnat (x := a1) t1 (n := 6) (by omega) (by decide))
    refine lv_topi (fun x13 ex13 => ?_)
    rw [← ex13] at g12
    refine lv_if_lt (tgt := 32) hx hb dX12_books_15 (by decide) (fun c14 => ?_) (fun c14 => ?_)
    · have kc14 := jlt c14 rfl jz_0
      refine lv_aload_n hx hb dX12_books_32 rfl (lv_at hl 0 rfl) ?_
      refine lv_iconst (v := 0) hx hb dX12_books_33 (by decide) ?_
      refine jput (ty := .int) hx hb hts inlX12 tyX12 tyX12_ok nmX12 hown hK hP hJ hA hS (jc_55 cI cL ad σ τ) rfl (k := 47) (by decide) (Nat.le_of_ble_eq_true rfl) (jp_55_47 cI cL ad σ τ 0) (hts _ kw_15_15) (fun _ h9 => h9) rfl (by decide +kernel) rfl rfl dX12_books_34 (fun σ15 H locs eσ15 hP hS => ?_)
      have z16 : (σ15 55 47).toInt = 0 := ((congrArg Int32.toInt (show σ15 55 47 = 0 from (jsp eσ15))).trans jz_0)
      have p17 : jBook σ15 := jBook.nil (by omega)
      refine lv_aload_n hx hb dX12_books_37 rfl (lv_at hl 0 rfl) ?_
      refine va_get (D := D) hx hb hts inlX12 hown hK hP 55 (jc_55 cI cL ad σ15 τ) rfl 58 (by decide) (hts _ kw_8_11) (fun _ h9 => h9) rfl dX12_books_38 ?_
      refine lv_iload_n hx hb dX12_books_41 rfl (lv_at hl 1 rfl) ?_
      refine jald hx hb hK hP (jc_86 cI cL ad σ15 τ) (jin t1 (by omega) (by omega)) dX12_books_42 ?_
      have w18 : ∀ k : Nat, k < 6 → (-1) ≤ (σ15 86 k).toInt ∧ (σ15 86 k).toInt ≤ 24 := (jrr_fr (jnp 86 eσ15 (by decide)) w4)
      have g19 := w18 _ (jnat (x := a1) t1 (n := 6) (by omega) (by decide))
      refine lv_topi (fun x20 ex20 => ?_)
      rw [← ex20] at g19
      refine lv_bipush (v := 20) hx hb dX12_books_43 (by decide) ?_
      refine lv_icmp_ne (tgt := 56) hx hb dX12_books_45 (by decide) (fun c21 => ?_) (fun c21 => ?_)
      · have kc21 := jne c21 rfl jz_20
        refine lv_iconst (v := 0) hx hb dX12_books_56 (by decide) ?_
        refine lv_istore_n (lv' := [(3, .int 0), (0, .ref (ad 55)), (1, .int a1), (2, .int a2)]) hx hb dX12_books_57 rfl hl (by decide) rfl (fun ls hl => ?_)
        have z27 : (σ15 55 12).toInt = (σ 55 12).toInt := (congrArg Int32.toInt (show σ15 55 12 = (σ 55 12) from (jkp 12 eσ15 (by decide))))
        have w28 : ∀ k : Nat, k < 12 → 0 ≤ (σ15 80 k).toInt ∧ (σ15 80 k).toInt ≤ 3 := (jrr_fr (jnp 80 eσ15 (by decide)) w3)
        have I29 : jI107 σ15 := ⟨(by omega), (by omega), w28⟩
        have I30 : jI119 σ15 := jI119_fr (jnp 68 eσ15 (by decide)) hI119
        have lp22 : ∀ (n23 : Nat) (x24 : Int32) (σ26 : Nat → Nat → Int32) (H : Heap) (locs : List Loc) (ls : Array Slot), (-(2 * (σ26 55 47).toInt) + x24.toInt + 26 : Int) < n23 → 0 ≤ x24.toInt → x24.toInt ≤ 1 → ((x24.toInt = 0) ∨ (0 ≤ A2)) → (σ26 55 47).toInt ≤ 12 → (∀ i : Nat, (i < 55 ∨ 55 < i) ∧ (i < 68 ∨ 69 < i) ∧ (i < 80 ∨ 81 < i) → σ26 i = σ15 i) → (∀ k : Nat, (k < 25 ∨ 25 < k) ∧ (k < 26 ∨ 26 < k) ∧ (k < 27 ∨ 27 < k) ∧ (k < 47 ∨ 47 < k) → σ26 55 k = σ15 55 k) → jBook σ26 → jI107 σ26 → jI119 σ26 → jH D cI cL ad σ26 τ H → va_S (jA ad) s.heap H locs → lv_has ls 6 [(3, .int x24), (0, .ref (ad 55)), (1, .int a1), (2, .int a2)] → W p l e ({ frames := 4, cells := 0, slots := 0, locals := 85 }) s m args below meth c H locs 0 0 Q (F0 m 58 ls []) := by
          intro n23
          induction n23 with
          | zero => intro x24 σ26 H locs ls h32 h33 h34 h35 h36; exact absurd h32 (by omega)
          | succ n23 ihlp22 =>
            intro x24 σ26 H locs ls h32 h33 h34 h35 h36 f37 f38 p39 p40 p41 hP hS hl
            obtain ⟨i42, i43, w44⟩ : (0 ≤ (σ26 55 47).toInt ∧ (σ26 55 47).toInt ≤ 12) ∧ ((σ26 55 47).toInt ≤ (σ26 55 12).toInt) ∧ (∀ k : Nat, k < 12 → 0 ≤ (σ26 80 k).toInt ∧ (σ26 80 k).toInt ≤ 3) := id p40
            have z45 : (σ26 55 12).toInt = (σ 55 12).toInt := (congrArg Int32.toInt (show σ26 55 12 = (σ 55 12) from ((f38 12 (by decide)).trans (jkp 12 eσ15 (by decide)))))
            refine lv_iload_n hx hb dX12_books_58 rfl (lv_at hl 0 rfl) ?_
            refine lv_if_eq (tgt := 145) hx hb dX12_books_59 (by decide) (fun c46 => ?_) (fun c46 => ?_)
            · have kc46 := jeq c46 rfl jz_0
              refine lv_aload_n hx hb dX12_books_145 rfl (lv_at hl 1 rfl) ?_
              refine va_get (D := D) hx hb hts inlX12 hown hK hP 55 (jc_55 cI cL ad σ26 τ) rfl 47 (by decide) (hts _ kw_15_15) (fun _ h9 => h9) rfl dX12_books_146 ?_
              exact hret (σ26 55 47) σ26 τ _ _ _ _ rfl ⟨rfl, (fun i hi => ((f37 i hi).trans (jnp i eσ15 (imp_215 i hi)))), (fun i hi => ((f38 i hi).trans (jkp i eσ15 (imp_218 i hi)))), p40, p41, p39, trivial⟩ hP hS dX12_books_149
            · have kc46 := jne c46 rfl jz_0
              refine lv_iload_n hx hb dX12_books_62 rfl (lv_at hl 3 rfl) ?_
              refine lv_aload_n hx hb dX12_books_63 rfl (lv_at hl 1 rfl) ?_
              refine va_get (D := D) hx hb hts inlX12 hown hK hP 55 (jc_55 cI cL ad σ26 τ) rfl 59 (by decide) (hts _ kw_8_12) (fun _ h9 => h9) rfl dX12_books_64 ?_
              refine lv_iload_n hx hb dX12_books_67 rfl (lv_at hl 2 rfl) ?_
              refine jald hx hb hK hP (jc_87 cI cL ad σ26 τ) (jin t1 (by omega) (by omega)) dX12_books_68 ?_
              have w47 : ∀ k : Nat, k < 6 → 0 ≤ (σ26 87 k).toInt ∧ (σ26 87 k).toInt ≤ 60 := (jrr_fr (f37 87 (by decide)) (jrr_fr (jnp 87 eσ15 (by decide)) w5))
              have g48 := w47 _ (jnat (x := a1) t1 (n := 6) (by omega) (by decide))
              refine lv_topi (fun x49 ex49 => ?_)
              rw [← ex49] at g48
              refine lv_aload_n hx hb dX12_books_69 rfl (lv_at hl 1 rfl) ?_
              refine va_get (D := D) hx hb hts inlX12 hown hK hP 55 (jc_55 cI cL ad σ26 τ) rfl 47 (by decide) (hts _ kw_15_15) (fun _ h9 => h9) rfl dX12_books_70 ?_
              have g50 := jrg (rfl : x49.toInt = x49.toInt)
              have g51 := jrg (rfl : (σ26 55 47).toInt = (σ26 55 47).toInt)
              refine lv_isub hx hb dX12_books_73 ?_
              refine lv_topi (fun x52 ex52 => ?_)
              have tx52 : x52.toInt = x49.toInt - (σ26 55 47).toInt := (jsub ex52 rfl rfl (by omega) (by omega)).trans (by omega)
              refine lv_icmp_ge (tgt := 96) hx hb dX12_books_74 (by decide) (fun c53 => ?_) (fun c53 => ?_)
              · have kc53 := jle c53 tx52 t2
                refine lv_ldc2 (v := (-1)) hx hb hown (hts _ kw_43_16) dX12_books_96 ?_
                refine lv_lstore (lv' := [(4, .long (-1)), (3, .int x24), (0, .ref (ad 55)), (1, .int a1), (2, .int a2)]) hx hb dX12_books_99 hl (by decide) rfl (fun ls hl => ?_)
                refine lv_lload hx hb dX12_books_101 (lv_at hl 0 rfl) ?_
                refine lv_lconst (v := 0) hx hb dX12_books_103 (by decide) ?_
                refine W.lcmp hx hb dX12_books_104 ?_
                refine lv_if_lt (tgt := 140) hx hb dX12_books_105 (by decide) (fun c54 => ?_) (fun c => absurd (jcnlt c jzl_m1 jzl_0) (by omega))
                have kc54 := jclt c54 jzl_m1 jzl_0
                refine lv_iconst (v := 0) hx hb dX12_books_140 (by decide) ?_
                refine lv_istore_n (lv' := [(3, .int 0), (4, .long (-1)), (0, .ref (ad 55)), (1, .int a1), (2, .int a2)]) hx hb dX12_books_141 rfl hl (by decide) rfl (fun ls hl => ?_)
                refine lv_goto (tgt := 58) hx hb dX12_books_142 (by decide) ?_
                exact ihlp22 0 σ26 _ _ ls (by have h90 := jz_0; omega) (by have h90 := jz_0; omega) (by have h90 := jz_0; omega) (by have h90 := jz_0; omega) (by have h90 := jz_0; omega) (fun i hi => (f37 i hi)) (fun i hi => (f38 i hi))  p39 p40 p41 hP hS (lv_sub hl [0, 2, 3, 4] rfl)
              · have kc53 := jnle c53 tx52 t2
                refine lv_aload_n hx hb dX12_books_77 rfl (lv_at hl 1 rfl) ?_
                refine va_get (D := D) hx hb hts inlX12 hown hK hP 55 (jc_55 cI cL ad σ26 τ) rfl 60 (by decide) (hts _ kw_8_13) (fun _ h9 => h9) rfl dX12_books_78 ?_
                refine lv_bipush (v := 60) hx hb dX12_books_81 (by decide) ?_
                refine lv_iload_n hx hb dX12_books_83 rfl (lv_at hl 2 rfl) ?_
                refine lv_imul hx hb dX12_books_84 ?_
                refine lv_topi (fun x55 ex55 => ?_)
                have tx55 : x55.toInt = 60 * A1 := (jmul ex55 jz_60 t1 (by omega) (by omega)).trans (by omega)
                refine lv_iload_n hx hb dX12_books_85 rfl (lv_at hl 3 rfl) ?_
                refine lv_iadd hx hb dX12_books_86 ?_
                refine lv_topi (fun x56 ex56 => ?_)
                have tx56 : x56.toInt = 60 * A1 + A2 := (jadd ex56 tx55 t2 (by omega) (by omega)).trans (by omega)
                refine lv_aload_n hx hb dX12_books_87 rfl (lv_at hl 1 rfl) ?_
                refine va_get (D := D) hx hb hts inlX12 hown hK hP 55 (jc_55 cI cL ad σ26 τ) rfl 47 (by decide) (hts _ kw_15_15) (fun _ h9 => h9) rfl dX12_books_88 ?_
                refine lv_iadd hx hb dX12_books_91 ?_
                refine lv_topi (fun x57 ex57 => ?_)
                have tx57 : x57.toInt = 60 * A1 + A2 + (σ26 55 47).toInt := (jadd ex57 tx56 rfl (by omega) (by omega)).trans (by omega)
                refine jaldL hx hb hK hP (jc_88 cI cL ad σ26 τ) (jin tx57 (by omega) (by omega)) dX12_books_92 ?_
                refine lv_topl (fun lx58 elx58 => ?_)
                refine lv_goto (tgt := 99) hx hb dX12_books_93 (by decide) ?_
                refine lv_lstore (lv' := [(4, .long lx58), (3, .int x24), (0, .ref (ad 55)), (1, .int a1), (2, .int a2)]) hx hb dX12_books_99 hl (by decide) rfl (fun ls hl => ?_)
                refine lv_lload hx hb dX12_books_101 (lv_at hl 0 rfl) ?_
                refine lv_lconst (v := 0) hx hb dX12_books_103 (by decide) ?_
                refine W.lcmp hx hb dX12_books_104 ?_
                refine lv_if_lt (tgt := 140) hx hb dX12_books_105 (by decide) (fun c59 => ?_) (fun c59 => ?_)
                · have kc59 := jclt c59 rfl jzl_0
                  refine lv_iconst (v := 0) hx hb dX12_books_140 (by decide) ?_
                  refine lv_istore_n (lv' := [(3, .int 0), (4, .long lx58), (0, .ref (ad 55)), (1, .int a1), (2, .int a2)]) hx hb dX12_books_141 rfl hl (by decide) rfl (fun ls hl => ?_)
                  refine lv_goto (tgt := 58) hx hb dX12_books_142 (by decide) ?_
                  exact ihlp22 0 σ26 _ _ ls (by have h90 := jz_0; omega) (by have h90 := jz_0; omega) (by have h90 := jz_0; omega) (by have h90 := jz_0; omega) (by have h90 := jz_0; omega) (fun i hi => (f37 i hi)) (fun i hi => (f38 i hi))  p39 p40 p41 hP hS (lv_sub hl [0, 2, 3, 4] rfl)
                · have kc59 := jcnlt c59 rfl jzl_0
                  refine lv_lload hx hb dX12_books_108 (lv_at hl 0 rfl) ?_
                  refine lv_ldc2 (v := 20) hx hb hown (hts _ kw_9_12) dX12_books_110 ?_
                  refine W.lcmp hx hb dX12_books_113 ?_
                  refine lv_if_ge (tgt := 140) hx hb dX12_books_114 (by decide) (fun c60 => ?_) (fun c60 => ?_)
                  · have kc60 := jcge c60 rfl jzl_20
                    refine lv_iconst (v := 0) hx hb dX12_books_140 (by decide) ?_
                    refine lv_istore_n (lv' := [(3, .int 0), (4, .long lx58), (0, .ref (ad 55)), (1, .int a1), (2, .int a2)]) hx hb dX12_books_141 rfl hl (by decide) rfl (fun ls hl => ?_)
                    refine lv_goto (tgt := 58) hx hb dX12_books_142 (by decide) ?_
                    exact ihlp22 0 σ26 _ _ ls (by have h90 := jz_0; omega) (by have h90 := jz_0; omega) (by have h90 := jz_0; omega) (by have h90 := jz_0; omega) (by have h90 := jz_0; omega) (fun i hi => (f37 i hi)) (fun i hi => (f38 i hi))  p39 p40 p41 hP hS (lv_sub hl [0, 2, 3, 4] rfl)
                  · have kc60 := jcnge c60 rfl jzl_20
                    refine lv_aload_n hx hb dX12_books_117 rfl (lv_at hl 2 rfl) ?_
                    refine lv_lload hx hb dX12_books_118 (lv_at hl 0 rfl) ?_
                    refine lv_l2i hx hb dX12_books_120 rfl ?_
                    refine lv_topi (fun x61 ex61 => ?_)
                    have tx61 : x61.toInt = lx58.toInt := jtoI ex61 rfl (by omega) (by omega)
                    refine lv_bipush (v := 10) hx hb dX12_books_121 (by decide) ?_
                    refine lv_irem hx hb dX12_books_123 (by decide) ?_
                    refine lv_topi (fun x62 ex62 => ?_)
                    have tx62 : x62.toInt = (lx58.toInt % 10) := jrem ex62 tx61 jz_10 (by omega)
                    refine lv_lload hx hb dX12_books_124 (lv_at hl 0 rfl) ?_
                    refine lv_l2i hx hb dX12_books_126 rfl ?_
                    refine lv_topi (fun x63 ex63 => ?_)
                    have tx63 : x63.toInt = lx58.toInt := jtoI ex63 rfl (by omega) (by omega)
                    refine lv_bipush (v := 10) hx hb dX12_books_127 (by decide) ?_
                    refine lv_idiv hx hb dX12_books_129 (by decide) ?_
                    refine lv_topi (fun x64 ex64 => ?_)
                    have tx64 : x64.toInt = (lx58.toInt / 10) := jdiv ex64 tx63 jz_10 (by omega) (by omega)
                    have I65 : jI102 σ26 := jI102_fr ((f38 6 (by decide)).trans (jkp 6 eσ15 (by decide))) ((f37 60 (by decide)).trans (jnp 60 eσ15 (by decide))) ((f37 61 (by decide)).trans (jnp 61 eσ15 (by decide))) hI102
                    have I66 : jI104 σ26 := jI104_fr ((f38 10 (by decide)).trans (jkp 10 eσ15 (by decide))) ((f38 12 (by decide)).trans (jkp 12 eσ15 (by decide))) ((f38 13 (by decide)).trans (jkp 13 eσ15 (by decide))) ((f37 62 (by decide)).trans (jnp 62 eσ15 (by decide))) ((f37 67 (by decide)).trans (jnp 67 eσ15 (by decide))) hI104
                    have w67 : ∀ k : Nat, k < 4 → 0 ≤ (σ26 68 k).toInt ∧ (σ26 68 k).toInt ≤ 3 := p41
                    refine jcallV (As := [.int x62, .int x64]) (rest := []) ⟨hx, hb, hml, hown, hts⟩ hK hP hA hS hZ (c_X12_book l D cI cL ad zz hJ σ26 τ x62 ((lx58.toInt % 10)) tx62 x64 ((lx58.toInt / 10)) tx64 I65 I66 p40 w67 p39) cw_RX12_366 (jc_55 cI cL ad σ26 τ) rfl ⟨Nat.le_of_ble_eq_true rfl, Nat.le_of_ble_eq_true rfl⟩ rfl rfl rfl hl.1 rfl (Nat.le_of_ble_eq_true rfl) dX12_books_130 ⟨Nat.zero_le _, Nat.zero_le _⟩ (fun r69 σ68 τ68 H locs h68 hP hS => ?_)
                    obtain ⟨rfl, f70, f71, I72, w73, p74, h68⟩ := h68
                    obtain ⟨i76, i77, w78⟩ : (0 ≤ (σ68 55 47).toInt ∧ (σ68 55 47).toInt ≤ 12) ∧ ((σ68 55 47).toInt ≤ (σ68 55 12).toInt) ∧ (∀ k : Nat, k < 12 → 0 ≤ (σ68 80 k).toInt ∧ (σ68 80 k).toInt ≤ 3) := id I72
                    have z79 : (σ68 55 12).toInt = (σ 55 12).toInt := (congrArg Int32.toInt (show σ68 55 12 = (σ 55 12) from ((f71 12 (by decide)).trans ((f38 12 (by decide)).trans (jkp 12 eσ15 (by decide))))))
                    rcases h68 with h80 | h81
                    · obtain ⟨q84, k82, k83⟩ := h80
                      refine lv_if_le (tgt := 140) hx hb dX12_books_133 (by decide) (fun c => absurd (jle c rfl jz_0) (by omega)) (fun c85 => ?_)
                      have kc85 := jnle c85 rfl jz_0
                      refine lv_iconst (v := 1) hx hb dX12_books_136 (by decide) ?_
                      refine lv_goto (tgt := 141) hx hb dX12_books_137 (by decide) ?_
                      refine lv_istore_n (lv' := [(3, .int 1), (4, .long lx58), (0, .ref (ad 55)), (1, .int a1), (2, .int a2)]) hx hb dX12_books_141 rfl hl (by decide) rfl (fun ls hl => ?_)
                      refine lv_goto (tgt := 58) hx hb dX12_books_142 (by decide) ?_
                      have I86 : jI119 σ68 := w73
                      exact ihlp22 1 σ68 _ _ ls (by have h90 := jz_1; omega) (by have h90 := jz_1; omega) (by have h90 := jz_1; omega) (by have h90 := jz_1; omega) (by have h90 := jz_1; omega) (fun i hi => ((f70 i hi).trans (f37 i hi))) (fun i hi => ((f71 i hi).trans (f38 i hi)))  p74 I72 I86 hP hS (lv_sub hl [0, 2, 3, 4] rfl)
                    · obtain ⟨q89, k87, k88⟩ := h81
                      refine lv_if_le (tgt := 140) hx hb dX12_books_133 (by decide) (fun c90 => ?_) (fun c => absurd (jnle c rfl jz_0) (by omega))
                      have kc90 := jle c90 rfl jz_0
                      refine lv_iconst (v := 0) hx hb dX12_books_140 (by decide) ?_
                      refine lv_istore_n (lv' := [(3, .int 0), (4, .long lx58), (0, .ref (ad 55)), (1, .int a1), (2, .int a2)]) hx hb dX12_books_141 rfl hl (by decide) rfl (fun ls hl => ?_)
                      refine lv_goto (tgt := 58) hx hb dX12_books_142 (by decide) ?_
                      have I91 : jI119 σ68 := w73
                      exact ihlp22 0 σ68 _ _ ls (by have h90 := jz_0; omega) (by have h90 := jz_0; omega) (by have h90 := jz_0; omega) (by have h90 := jz_0; omega) (by have h90 := jz_0; omega) (fun i hi => ((f70 i hi).trans (f37 i hi))) (fun i hi => ((f71 i hi).trans (f38 i hi)))  p74 I72 I91 hP hS (lv_sub hl [0, 2, 3, 4] rfl)
        exact lp22 1000000 0 σ15 _ _ ls (by have h90 := jz_0; omega) (by have h90 := jz_0; omega) (by have h90 := jz_0; omega) (by have h90 := jz_0; omega) (by have h90 := jz_0; omega) (fun _ _ => rfl) (fun _ _ => rfl)  p17 I29 I30 hP hS hl
      · have kc21 := jeq c21 rfl jz_20
        refine lv_iload_n hx hb dX12_books_48 rfl (lv_at hl 2 rfl) ?_
        refine lv_if_lt (tgt := 56) hx hb dX12_books_49 (by decide) (fun c92 => ?_) (fun c92 => ?_)
        · have kc92 := jlt c92 t2 jz_0
          refine lv_iconst (v := 0) hx hb dX12_books_56 (by decide) ?_
          refine lv_istore_n (lv' := [(3, .int 0), (0, .ref (ad 55)), (1, .int a1), (2, .int a2)]) hx hb dX12_books_57 rfl hl (by decide) rfl (fun ls hl => ?_)
          have z98 : (σ15 55 12).toInt = (σ 55 12).toInt := (congrArg Int32.toInt (show σ15 55 12 = (σ 55 12) from (jkp 12 eσ15 (by decide))))
          have w99 : ∀ k : Nat, k < 12 → 0 ≤ (σ15 80 k).toInt ∧ (σ15 80 k).toInt ≤ 3 := (jrr_fr (jnp 80 eσ15 (by decide)) w3)
          have I100 : jI107 σ15 := ⟨(by omega), (by omega), w99⟩
          have I101 : jI119 σ15 := jI119_fr (jnp 68 eσ15 (by decide)) hI119
          have lp93 : ∀ (n94 : Nat) (x95 : Int32) (σ97 : Nat → Nat → Int32) (H : Heap) (locs : List Loc) (ls : Array Slot), (-(2 * (σ97 55 47).toInt) + x95.toInt + 26 : Int) < n94 → 0 ≤ x95.toInt → x95.toInt ≤ 1 → ((x95.toInt = 0) ∨ (0 ≤ A2)) → (σ97 55 47).toInt ≤ 12 → (∀ i : Nat, (i < 55 ∨ 55 < i) ∧ (i < 68 ∨ 69 < i) ∧ (i < 80 ∨ 81 < i) → σ97 i = σ15 i) → (∀ k : Nat, (k < 25 ∨ 25 < k) ∧ (k < 26 ∨ 26 < k) ∧ (k < 27 ∨ 27 < k) ∧ (k < 47 ∨ 47 < k) → σ97 55 k = σ15 55 k) → jBook σ97 → jI107 σ97 → jI119 σ97 → jH D cI cL ad σ97 τ H → va_S (jA ad) s.heap H locs → lv_has ls 6 [(3, .int x95), (0, .ref (ad 55)), (1, .int a1), (2, .int a2)] → W p l e ({ frames := 4, cells := 0, slots := 0, locals := 85 }) s m args below meth c H locs 0 0 Q (F0 m 58 ls []) := by
            intro n94
            induction n94 with
            | zero => intro x95 σ97 H locs ls h103 h104 h105 h106 h107; exact absurd h103 (by omega)
            | succ n94 ihlp93 =>
              intro x95 σ97 H locs ls h103 h104 h105 h106 h107 f108 f109 p110 p111 p112 hP hS hl
              obtain ⟨i113, i114, w115⟩ : (0 ≤ (σ97 55 47).toInt ∧ (σ97 55 47).toInt ≤ 12) ∧ ((σ97 55 47).toInt ≤ (σ97 55 12).toInt) ∧ (∀ k : Nat, k < 12 → 0 ≤ (σ97 80 k).toInt ∧ (σ97 80 k).toInt ≤ 3) := id p111
              have z116 : (σ97 55 12).toInt = (σ 55 12).toInt := (congrArg Int32.toInt (show σ97 55 12 = (σ 55 12) from ((f109 12 (by decide)).trans (jkp 12 eσ15 (by decide)))))
              refine lv_iload_n hx hb dX12_books_58 rfl (lv_at hl 0 rfl) ?_
              refine lv_if_eq (tgt := 145) hx hb dX12_books_59 (by decide) (fun c117 => ?_) (fun c => absurd (jne c rfl jz_0) (by omega))
              have kc117 := jeq c117 rfl jz_0
              refine lv_aload_n hx hb dX12_books_145 rfl (lv_at hl 1 rfl) ?_
              refine va_get (D := D) hx hb hts inlX12 hown hK hP 55 (jc_55 cI cL ad σ97 τ) rfl 47 (by decide) (hts _ kw_15_15) (fun _ h9 => h9) rfl dX12_books_146 ?_
              exact hret (σ97 55 47) σ97 τ _ _ _ _ rfl ⟨rfl, (fun i hi => ((f108 i hi).trans (jnp i eσ15 (imp_215 i hi)))), (fun i hi => ((f109 i hi).trans (jkp i eσ15 (imp_218 i hi)))), p111, p112, p110, trivial⟩ hP hS dX12_books_149
          exact lp93 1000000 0 σ15 _ _ ls (by have h90 := jz_0; omega) (by have h90 := jz_0; omega) (by have h90 := jz_0; omega) (by have h90 := jz_0; omega) (by have h90 := jz_0; omega) (fun _ _ => rfl) (fun _ _ => rfl)  p17 I100 I101 hP hS hl
        · have kc92 := jnlt c92 t2 jz_0
          refine lv_iconst (v := 1) hx hb dX12_books_52 (by decide) ?_
          refine lv_goto (tgt := 57) hx hb dX12_books_53 (by decide) ?_
          refine lv_istore_n (lv' := [(3, .int 1), (0, .ref (ad 55)), (1, .int a1), (2, .int a2)]) hx hb dX12_books_57 rfl hl (by decide) rfl (fun ls hl => ?_)
          have z123 : (σ15 55 12).toInt = (σ 55 12).toInt := (congrArg Int32.toInt (show σ15 55 12 = (σ 55 12) from (jkp 12 eσ15 (by decide))))
          have w124 : ∀ k : Nat, k < 12 → 0 ≤ (σ15 80 k).toInt ∧ (σ15 80 k).toInt ≤ 3 := (jrr_fr (jnp 80 eσ15 (by decide)) w3)
          have I125 : jI107 σ15 := ⟨(by omega), (by omega), w124⟩
          have I126 : jI119 σ15 := jI119_fr (jnp 68 eσ15 (by decide)) hI119
          have lp118 : ∀ (n119 : Nat) (x120 : Int32) (σ122 : Nat → Nat → Int32) (H : Heap) (locs : List Loc) (ls : Array Slot), (-(2 * (σ122 55 47).toInt) + x120.toInt + 26 : Int) < n119 → 0 ≤ x120.toInt → x120.toInt ≤ 1 → ((x120.toInt = 0) ∨ (0 ≤ A2)) → (σ122 55 47).toInt ≤ 12 → (∀ i : Nat, (i < 55 ∨ 55 < i) ∧ (i < 68 ∨ 69 < i) ∧ (i < 80 ∨ 81 < i) → σ122 i = σ15 i) → (∀ k : Nat, (k < 25 ∨ 25 < k) ∧ (k < 26 ∨ 26 < k) ∧ (k < 27 ∨ 27 < k) ∧ (k < 47 ∨ 47 < k) → σ122 55 k = σ15 55 k) → jBook σ122 → jI107 σ122 → jI119 σ122 → jH D cI cL ad σ122 τ H → va_S (jA ad) s.heap H locs → lv_has ls 6 [(3, .int x120), (0, .ref (ad 55)), (1, .int a1), (2, .int a2)] → W p l e ({ frames := 4, cells := 0, slots := 0, locals := 85 }) s m args below meth c H locs 0 0 Q (F0 m 58 ls []) := by
            intro n119
            induction n119 with
            | zero => intro x120 σ122 H locs ls h128 h129 h130 h131 h132; exact absurd h128 (by omega)
            | succ n119 ihlp118 =>
              intro x120 σ122 H locs ls h128 h129 h130 h131 h132 f133 f134 p135 p136 p137 hP hS hl
              obtain ⟨i138, i139, w140⟩ : (0 ≤ (σ122 55 47).toInt ∧ (σ122 55 47).toInt ≤ 12) ∧ ((σ122 55 47).toInt ≤ (σ122 55 12).toInt) ∧ (∀ k : Nat, k < 12 → 0 ≤ (σ122 80 k).toInt ∧ (σ122 80 k).toInt ≤ 3) := id p136
              have z141 : (σ122 55 12).toInt = (σ 55 12).toInt := (congrArg Int32.toInt (show σ122 55 12 = (σ 55 12) from ((f134 12 (by decide)).trans (jkp 12 eσ15 (by decide)))))
              refine lv_iload_n hx hb dX12_books_58 rfl (lv_at hl 0 rfl) ?_
              refine lv_if_eq (tgt := 145) hx hb dX12_books_59 (by decide) (fun c142 => ?_) (fun c142 => ?_)
              · have kc142 := jeq c142 rfl jz_0
                refine lv_aload_n hx hb dX12_books_145 rfl (lv_at hl 1 rfl) ?_
                refine va_get (D := D) hx hb hts inlX12 hown hK hP 55 (jc_55 cI cL ad σ122 τ) rfl 47 (by decide) (hts _ kw_15_15) (fun _ h9 => h9) rfl dX12_books_146 ?_
                exact hret (σ122 55 47) σ122 τ _ _ _ _ rfl ⟨rfl, (fun i hi => ((f133 i hi).trans (jnp i eσ15 (imp_215 i hi)))), (fun i hi => ((f134 i hi).trans (jkp i eσ15 (imp_218 i hi)))), p136, p137, p135, trivial⟩ hP hS dX12_books_149
              · have kc142 := jne c142 rfl jz_0
                refine lv_iload_n hx hb dX12_books_62 rfl (lv_at hl 3 rfl) ?_
                refine lv_aload_n hx hb dX12_books_63 rfl (lv_at hl 1 rfl) ?_
                refine va_get (D := D) hx hb hts inlX12 hown hK hP 55 (jc_55 cI cL ad σ122 τ) rfl 59 (by decide) (hts _ kw_8_12) (fun _ h9 => h9) rfl dX12_books_64 ?_
                refine lv_iload_n hx hb dX12_books_67 rfl (lv_at hl 2 rfl) ?_
                refine jald hx hb hK hP (jc_87 cI cL ad σ122 τ) (jin t1 (by omega) (by omega)) dX12_books_68 ?_
                have w143 : ∀ k : Nat, k < 6 → 0 ≤ (σ122 87 k).toInt ∧ (σ122 87 k).toInt ≤ 60 := (jrr_fr (f133 87 (by decide)) (jrr_fr (jnp 87 eσ15 (by decide)) w5))
                have g144 := w143 _ (jnat (x := a1) t1 (n := 6) (by omega) (by decide))
                refine lv_topi (fun x145 ex145 => ?_)
                rw [← ex145] at g144
                refine lv_aload_n hx hb dX12_books_69 rfl (lv_at hl 1 rfl) ?_
                refine va_get (D := D) hx hb hts inlX12 hown hK hP 55 (jc_55 cI cL ad σ122 τ) rfl 47 (by decide) (hts _ kw_15_15) (fun _ h9 => h9) rfl dX12_books_70 ?_
                have g146 := jrg (rfl : x145.toInt = x145.toInt)
                have g147 := jrg (rfl : (σ122 55 47).toInt = (σ122 55 47).toInt)
                refine lv_isub hx hb dX12_books_73 ?_
                refine lv_topi (fun x148 ex148 => ?_)
                have tx148 : x148.toInt = x145.toInt - (σ122 55 47).toInt := (jsub ex148 rfl rfl (by omega) (by omega)).trans (by omega)
                refine lv_icmp_ge (tgt := 96) hx hb dX12_books_74 (by decide) (fun c149 => ?_) (fun c149 => ?_)
                · have kc149 := jle c149 tx148 t2
                  refine lv_ldc2 (v := (-1)) hx hb hown (hts _ kw_43_16) dX12_books_96 ?_
                  refine lv_lstore (lv' := [(4, .long (-1)), (3, .int x120), (0, .ref (ad 55)), (1, .int a1), (2, .int a2)]) hx hb dX12_books_99 hl (by decide) rfl (fun ls hl => ?_)
                  refine lv_lload hx hb dX12_books_101 (lv_at hl 0 rfl) ?_
                  refine lv_lconst (v := 0) hx hb dX12_books_103 (by decide) ?_
                  refine W.lcmp hx hb dX12_books_104 ?_
                  refine lv_if_lt (tgt := 140) hx hb dX12_books_105 (by decide) (fun c150 => ?_) (fun c => absurd (jcnlt c jzl_m1 jzl_0) (by omega))
                  have kc150 := jclt c150 jzl_m1 jzl_0
                  refine lv_iconst (v := 0) hx hb dX12_books_140 (by decide) ?_
                  refine lv_istore_n (lv' := [(3, .int 0), (4, .long (-1)), (0, .ref (ad 55)), (1, .int a1), (2, .int a2)]) hx hb dX12_books_141 rfl hl (by decide) rfl (fun ls hl => ?_)
                  refine lv_goto (tgt := 58) hx hb dX12_books_142 (by decide) ?_
                  exact ihlp118 0 σ122 _ _ ls (by have h90 := jz_0; omega) (by have h90 := jz_0; omega) (by have h90 := jz_0; omega) (by have h90 := jz_0; omega) (by have h90 := jz_0; omega) (fun i hi => (f133 i hi)) (fun i hi => (f134 i hi))  p135 p136 p137 hP hS (lv_sub hl [0, 2, 3, 4] rfl)
                · have kc149 := jnle c149 tx148 t2
                  refine lv_aload_n hx hb dX12_books_77 rfl (lv_at hl 1 rfl) ?_
                  refine va_get (D := D) hx hb hts inlX12 hown hK hP 55 (jc_55 cI cL ad σ122 τ) rfl 60 (by decide) (hts _ kw_8_13) (fun _ h9 => h9) rfl dX12_books_78 ?_
                  refine lv_bipush (v := 60) hx hb dX12_books_81 (by decide) ?_
                  refine lv_iload_n hx hb dX12_books_83 rfl (lv_at hl 2 rfl) ?_
                  refine lv_imul hx hb dX12_books_84 ?_
                  refine lv_topi (fun x151 ex151 => ?_)
                  have tx151 : x151.toInt = 60 * A1 := (jmul ex151 jz_60 t1 (by omega) (by omega)).trans (by omega)
                  refine lv_iload_n hx hb dX12_books_85 rfl (lv_at hl 3 rfl) ?_
                  refine lv_iadd hx hb dX12_books_86 ?_
                  refine lv_topi (fun x152 ex152 => ?_)
                  have tx152 : x152.toInt = 60 * A1 + A2 := (jadd ex152 tx151 t2 (by omega) (by omega)).trans (by omega)
                  refine lv_aload_n hx hb dX12_books_87 rfl (lv_at hl 1 rfl) ?_
                  refine va_get (D := D) hx hb hts inlX12 hown hK hP 55 (jc_55 cI cL ad σ122 τ) rfl 47 (by decide) (hts _ kw_15_15) (fun _ h9 => h9) rfl dX12_books_88 ?_
                  refine lv_iadd hx hb dX12_books_91 ?_
                  refine lv_topi (fun x153 ex153 => ?_)
                  have tx153 : x153.toInt = 60 * A1 + A2 + (σ122 55 47).toInt := (jadd ex153 tx152 rfl (by omega) (by omega)).trans (by omega)
                  refine jaldL hx hb hK hP (jc_88 cI cL ad σ122 τ) (jin tx153 (by omega) (by omega)) dX12_books_92 ?_
                  refine lv_topl (fun lx154 elx154 => ?_)
                  refine lv_goto (tgt := 99) hx hb dX12_books_93 (by decide) ?_
                  refine lv_lstore (lv' := [(4, .long lx154), (3, .int x120), (0, .ref (ad 55)), (1, .int a1), (2, .int a2)]) hx hb dX12_books_99 hl (by decide) rfl (fun ls hl => ?_)
                  refine lv_lload hx hb dX12_books_101 (lv_at hl 0 rfl) ?_
                  refine lv_lconst (v := 0) hx hb dX12_books_103 (by decide) ?_
                  refine W.lcmp hx hb dX12_books_104 ?_
                  refine lv_if_lt (tgt := 140) hx hb dX12_books_105 (by decide) (fun c155 => ?_) (fun c155 => ?_)
                  · have kc155 := jclt c155 rfl jzl_0
                    refine lv_iconst (v := 0) hx hb dX12_books_140 (by decide) ?_
                    refine lv_istore_n (lv' := [(3, .int 0), (4, .long lx154), (0, .ref (ad 55)), (1, .int a1), (2, .int a2)]) hx hb dX12_books_141 rfl hl (by decide) rfl (fun ls hl => ?_)
                    refine lv_goto (tgt := 58) hx hb dX12_books_142 (by decide) ?_
                    exact ihlp118 0 σ122 _ _ ls (by have h90 := jz_0; omega) (by have h90 := jz_0; omega) (by have h90 := jz_0; omega) (by have h90 := jz_0; omega) (by have h90 := jz_0; omega) (fun i hi => (f133 i hi)) (fun i hi => (f134 i hi))  p135 p136 p137 hP hS (lv_sub hl [0, 2, 3, 4] rfl)
                  · have kc155 := jcnlt c155 rfl jzl_0
                    refine lv_lload hx hb dX12_books_108 (lv_at hl 0 rfl) ?_
                    refine lv_ldc2 (v := 20) hx hb hown (hts _ kw_9_12) dX12_books_110 ?_
                    refine W.lcmp hx hb dX12_books_113 ?_
                    refine lv_if_ge (tgt := 140) hx hb dX12_books_114 (by decide) (fun c156 => ?_) (fun c156 => ?_)
                    · have kc156 := jcge c156 rfl jzl_20
                      refine lv_iconst (v := 0) hx hb dX12_books_140 (by decide) ?_
                      refine lv_istore_n (lv' := [(3, .int 0), (4, .long lx154), (0, .ref (ad 55)), (1, .int a1), (2, .int a2)]) hx hb dX12_books_141 rfl hl (by decide) rfl (fun ls hl => ?_)
                      refine lv_goto (tgt := 58) hx hb dX12_books_142 (by decide) ?_
                      exact ihlp118 0 σ122 _ _ ls (by have h90 := jz_0; omega) (by have h90 := jz_0; omega) (by have h90 := jz_0; omega) (by have h90 := jz_0; omega) (by have h90 := jz_0; omega) (fun i hi => (f133 i hi)) (fun i hi => (f134 i hi))  p135 p136 p137 hP hS (lv_sub hl [0, 2, 3, 4] rfl)
                    · have kc156 := jcnge c156 rfl jzl_20
                      refine lv_aload_n hx hb dX12_books_117 rfl (lv_at hl 2 rfl) ?_
                      refine lv_lload hx hb dX12_books_118 (lv_at hl 0 rfl) ?_
                      refine lv_l2i hx hb dX12_books_120 rfl ?_
                      refine lv_topi (fun x157 ex157 => ?_)
                      have tx157 : x157.toInt = lx154.toInt := jtoI ex157 rfl (by omega) (by omega)
                      refine lv_bipush (v := 10) hx hb dX12_books_121 (by decide) ?_
                      refine lv_irem hx hb dX12_books_123 (by decide) ?_
                      refine lv_topi (fun x158 ex158 => ?_)
                      have tx158 : x158.toInt = (lx154.toInt % 10) := jrem ex158 tx157 jz_10 (by omega)
                      refine lv_lload hx hb dX12_books_124 (lv_at hl 0 rfl) ?_
                      refine lv_l2i hx hb dX12_books_126 rfl ?_
                      refine lv_topi (fun x159 ex159 => ?_)
                      have tx159 : x159.toInt = lx154.toInt := jtoI ex159 rfl (by omega) (by omega)
                      refine lv_bipush (v := 10) hx hb dX12_books_127 (by decide) ?_
                      refine lv_idiv hx hb dX12_books_129 (by decide) ?_
                      refine lv_topi (fun x160 ex160 => ?_)
                      have tx160 : x160.toInt = (lx154.toInt / 10) := jdiv ex160 tx159 jz_10 (by omega) (by omega)
                      have I161 : jI102 σ122 := jI102_fr ((f134 6 (by decide)).trans (jkp 6 eσ15 (by decide))) ((f133 60 (by decide)).trans (jnp 60 eσ15 (by decide))) ((f133 61 (by decide)).trans (jnp 61 eσ15 (by decide))) hI102
                      have I162 : jI104 σ122 := jI104_fr ((f134 10 (by decide)).trans (jkp 10 eσ15 (by decide))) ((f134 12 (by decide)).trans (jkp 12 eσ15 (by decide))) ((f134 13 (by decide)).trans (jkp 13 eσ15 (by decide))) ((f133 62 (by decide)).trans (jnp 62 eσ15 (by decide))) ((f133 67 (by decide)).trans (jnp 67 eσ15 (by decide))) hI104
                      have w163 : ∀ k : Nat, k < 4 → 0 ≤ (σ122 68 k).toInt ∧ (σ122 68 k).toInt ≤ 3 := p137
                      refine jcallV (As := [.int x158, .int x160]) (rest := []) ⟨hx, hb, hml, hown, hts⟩ hK hP hA hS hZ (c_X12_book l D cI cL ad zz hJ σ122 τ x158 ((lx154.toInt % 10)) tx158 x160 ((lx154.toInt / 10)) tx160 I161 I162 p136 w163 p135) cw_RX12_366 (jc_55 cI cL ad σ122 τ) rfl ⟨Nat.le_of_ble_eq_true rfl, Nat.le_of_ble_eq_true rfl⟩ rfl rfl rfl hl.1 rfl (Nat.le_of_ble_eq_true rfl) dX12_books_130 ⟨Nat.zero_le _, Nat.zero_le _⟩ (fun r165 σ164 τ164 H locs h164 hP hS => ?_)
                      obtain ⟨rfl, f166, f167, I168, w169, p170, h164⟩ := h164
                      obtain ⟨i172, i173, w174⟩ : (0 ≤ (σ164 55 47).toInt ∧ (σ164 55 47).toInt ≤ 12) ∧ ((σ164 55 47).toInt ≤ (σ164 55 12).toInt) ∧ (∀ k : Nat, k < 12 → 0 ≤ (σ164 80 k).toInt ∧ (σ164 80 k).toInt ≤ 3) := id I168
                      have z175 : (σ164 55 12).toInt = (σ 55 12).toInt := (congrArg Int32.toInt (show σ164 55 12 = (σ 55 12) from ((f167 12 (by decide)).trans ((f134 12 (by decide)).trans (jkp 12 eσ15 (by decide))))))
                      rcases h164 with h176 | h177
                      · obtain ⟨q180, k178, k179⟩ := h176
                        refine lv_if_le (tgt := 140) hx hb dX12_books_133 (by decide) (fun c => absurd (jle c rfl jz_0) (by omega)) (fun c181 => ?_)
                        have kc181 := jnle c181 rfl jz_0
                        refine lv_iconst (v := 1) hx hb dX12_books_136 (by decide) ?_
                        refine lv_goto (tgt := 141) hx hb dX12_books_137 (by decide) ?_
                        refine lv_istore_n (lv' := [(3, .int 1), (4, .long lx154), (0, .ref (ad 55)), (1, .int a1), (2, .int a2)]) hx hb dX12_books_141 rfl hl (by decide) rfl (fun ls hl => ?_)
                        refine lv_goto (tgt := 58) hx hb dX12_books_142 (by decide) ?_
                        have I182 : jI119 σ164 := w169
                        exact ihlp118 1 σ164 _ _ ls (by have h90 := jz_1; omega) (by have h90 := jz_1; omega) (by have h90 := jz_1; omega) (by have h90 := jz_1; omega) (by have h90 := jz_1; omega) (fun i hi => ((f166 i hi).trans (f133 i hi))) (fun i hi => ((f167 i hi).trans (f134 i hi)))  p170 I168 I182 hP hS (lv_sub hl [0, 2, 3, 4] rfl)
                      · obtain ⟨q185, k183, k184⟩ := h177
                        refine lv_if_le (tgt := 140) hx hb dX12_books_133 (by decide) (fun c186 => ?_) (fun c => absurd (jnle c rfl jz_0) (by omega))
                        have kc186 := jle c186 rfl jz_0
                        refine lv_iconst (v := 0) hx hb dX12_books_140 (by decide) ?_
                        refine lv_istore_n (lv' := [(3, .int 0), (4, .long lx154), (0, .ref (ad 55)), (1, .int a1), (2, .int a2)]) hx hb dX12_books_141 rfl hl (by decide) rfl (fun ls hl => ?_)
                        refine lv_goto (tgt := 58) hx hb dX12_books_142 (by decide) ?_
                        have I187 : jI119 σ164 := w169
                        exact ihlp118 0 σ164 _ _ ls (by have h90 := jz_0; omega) (by have h90 := jz_0; omega) (by have h90 := jz_0; omega) (by have h90 := jz_0; omega) (by have h90 := jz_0; omega) (fun i hi => ((f166 i hi).trans (f133 i hi))) (fun i hi => ((f167 i hi).trans (f134 i hi)))  p170 I168 I187 hP hS (lv_sub hl [0, 2, 3, 4] rfl)
          exact lp118 1000000 1 σ15 _ _ ls (by have h90 := jz_1; omega) (by have h90 := jz_1; omega) (by have h90 := jz_1; omega) (by have h90 := jz_1; omega) (by have h90 := jz_1; omega) (fun _ _ => rfl) (fun _ _ => rfl)  p17 I125 I126 hP hS hl
    · have kc14 := jnlt c14 rfl jz_0
      refine lv_aload_n hx hb dX12_books_18 rfl (lv_at hl 0 rfl) ?_
      refine va_get (D := D) hx hb hts inlX12 hown hK hP 55 (jc_55 cI cL ad σ τ) rfl 58 (by decide) (hts _ kw_8_11) (fun _ h9 => h9) rfl dX12_books_19 ?_
      refine lv_iload_n hx hb dX12_books_22 rfl (lv_at hl 1 rfl) ?_
      refine jald hx hb hK hP (jc_86 cI cL ad σ τ) (jin t1 (by omega) (by omega)) dX12_books_23 ?_
      have g188 := w4 _ (jnat (x := a1) t1 (n := 6) (by omega) (by decide))
      refine lv_topi (fun x189 ex189 => ?_)
      rw [← ex189] at g188
      refine lv_bipush (v := 20) hx hb dX12_books_24 (by decide) ?_
      refine lv_icmp_eq (tgt := 32) hx hb dX12_books_26 (by decide) (fun c190 => ?_) (fun c190 => ?_)
      · have kc190 := jeq c190 rfl jz_20
        refine lv_aload_n hx hb dX12_books_32 rfl (lv_at hl 0 rfl) ?_
        refine lv_iconst (v := 0) hx hb dX12_books_33 (by decide) ?_
        refine jput (ty := .int) hx hb hts inlX12 tyX12 tyX12_ok nmX12 hown hK hP hJ hA hS (jc_55 cI cL ad σ τ) rfl (k := 47) (by decide) (Nat.le_of_ble_eq_true rfl) (jp_55_47 cI cL ad σ τ 0) (hts _ kw_15_15) (fun _ h9 => h9) rfl (by decide +kernel) rfl rfl dX12_books_34 (fun σ191 H locs eσ191 hP hS => ?_)
        have z192 : (σ191 55 47).toInt = 0 := ((congrArg Int32.toInt (show σ191 55 47 = 0 from (jsp eσ191))).trans jz_0)
        have p193 : jBook σ191 := jBook.nil (by omega)
        refine lv_aload_n hx hb dX12_books_37 rfl (lv_at hl 0 rfl) ?_
        refine va_get (D := D) hx hb hts inlX12 hown hK hP 55 (jc_55 cI cL ad σ191 τ) rfl 58 (by decide) (hts _ kw_8_11) (fun _ h9 => h9) rfl dX12_books_38 ?_
        refine lv_iload_n hx hb dX12_books_41 rfl (lv_at hl 1 rfl) ?_
        refine jald hx hb hK hP (jc_86 cI cL ad σ191 τ) (jin t1 (by omega) (by omega)) dX12_books_42 ?_
        have w194 : ∀ k : Nat, k < 6 → (-1) ≤ (σ191 86 k).toInt ∧ (σ191 86 k).toInt ≤ 24 := (jrr_fr (jnp 86 eσ191 (by decide)) w4)
        have g195 := w194 _ (jnat (x := a1) t1 (n := 6) (by omega) (by decide))
        refine lv_topi (fun x196 ex196 => ?_)
        rw [← ex196] at g195
        refine lv_bipush (v := 20) hx hb dX12_books_43 (by decide) ?_
        refine lv_icmp_ne (tgt := 56) hx hb dX12_books_45 (by decide) (fun c197 => ?_) (fun c197 => ?_)
        · have kc197 := jne c197 rfl jz_20
          refine lv_iconst (v := 0) hx hb dX12_books_56 (by decide) ?_
          refine lv_istore_n (lv' := [(3, .int 0), (0, .ref (ad 55)), (1, .int a1), (2, .int a2)]) hx hb dX12_books_57 rfl hl (by decide) rfl (fun ls hl => ?_)
          have z203 : (σ191 55 12).toInt = (σ 55 12).toInt := (congrArg Int32.toInt (show σ191 55 12 = (σ 55 12) from (jkp 12 eσ191 (by decide))))
          have w204 : ∀ k : Nat, k < 12 → 0 ≤ (σ191 80 k).toInt ∧ (σ191 80 k).toInt ≤ 3 := (jrr_fr (jnp 80 eσ191 (by decide)) w3)
          have I205 : jI107 σ191 := ⟨(by omega), (by omega), w204⟩
          have I206 : jI119 σ191 := jI119_fr (jnp 68 eσ191 (by decide)) hI119
          have lp198 : ∀ (n199 : Nat) (x200 : Int32) (σ202 : Nat → Nat → Int32) (H : Heap) (locs : List Loc) (ls : Array Slot), (-(2 * (σ202 55 47).toInt) + x200.toInt + 26 : Int) < n199 → 0 ≤ x200.toInt → x200.toInt ≤ 1 → ((x200.toInt = 0) ∨ (0 ≤ A2)) → (σ202 55 47).toInt ≤ 12 → (∀ i : Nat, (i < 55 ∨ 55 < i) ∧ (i < 68 ∨ 69 < i) ∧ (i < 80 ∨ 81 < i) → σ202 i = σ191 i) → (∀ k : Nat, (k < 25 ∨ 25 < k) ∧ (k < 26 ∨ 26 < k) ∧ (k < 27 ∨ 27 < k) ∧ (k < 47 ∨ 47 < k) → σ202 55 k = σ191 55 k) → jBook σ202 → jI107 σ202 → jI119 σ202 → jH D cI cL ad σ202 τ H → va_S (jA ad) s.heap H locs → lv_has ls 6 [(3, .int x200), (0, .ref (ad 55)), (1, .int a1), (2, .int a2)] → W p l e ({ frames := 4, cells := 0, slots := 0, locals := 85 }) s m args below meth c H locs 0 0 Q (F0 m 58 ls []) := by
            intro n199
            induction n199 with
            | zero => intro x200 σ202 H locs ls h208 h209 h210 h211 h212; exact absurd h208 (by omega)
            | succ n199 ihlp198 =>
              intro x200 σ202 H locs ls h208 h209 h210 h211 h212 f213 f214 p215 p216 p217 hP hS hl
              obtain ⟨i218, i219, w220⟩ : (0 ≤ (σ202 55 47).toInt ∧ (σ202 55 47).toInt ≤ 12) ∧ ((σ202 55 47).toInt ≤ (σ202 55 12).toInt) ∧ (∀ k : Nat, k < 12 → 0 ≤ (σ202 80 k).toInt ∧ (σ202 80 k).toInt ≤ 3) := id p216
              have z221 : (σ202 55 12).toInt = (σ 55 12).toInt := (congrArg Int32.toInt (show σ202 55 12 = (σ 55 12) from ((f214 12 (by decide)).trans (jkp 12 eσ191 (by decide)))))
              refine lv_iload_n hx hb dX12_books_58 rfl (lv_at hl 0 rfl) ?_
              refine lv_if_eq (tgt := 145) hx hb dX12_books_59 (by decide) (fun c222 => ?_) (fun c222 => ?_)
              · have kc222 := jeq c222 rfl jz_0
                refine lv_aload_n hx hb dX12_books_145 rfl (lv_at hl 1 rfl) ?_
                refine va_get (D := D) hx hb hts inlX12 hown hK hP 55 (jc_55 cI cL ad σ202 τ) rfl 47 (by decide) (hts _ kw_15_15) (fun _ h9 => h9) rfl dX12_books_146 ?_
                exact hret (σ202 55 47) σ202 τ _ _ _ _ rfl ⟨rfl, (fun i hi => ((f213 i hi).trans (jnp i eσ191 (imp_215 i hi)))), (fun i hi => ((f214 i hi).trans (jkp i eσ191 (imp_218 i hi)))), p216, p217, p215, trivial⟩ hP hS dX12_books_149
              · have kc222 := jne c222 rfl jz_0
                refine lv_iload_n hx hb dX12_books_62 rfl (lv_at hl 3 rfl) ?_
                refine lv_aload_n hx hb dX12_books_63 rfl (lv_at hl 1 rfl) ?_
                refine va_get (D := D) hx hb hts inlX12 hown hK hP 55 (jc_55 cI cL ad σ202 τ) rfl 59 (by decide) (hts _ kw_8_12) (fun _ h9 => h9) rfl dX12_books_64 ?_
                refine lv_iload_n hx hb dX12_books_67 rfl (lv_at hl 2 rfl) ?_
                refine jald hx hb hK hP (jc_87 cI cL ad σ202 τ) (jin t1 (by omega) (by omega)) dX12_books_68 ?_
                have w223 : ∀ k : Nat, k < 6 → 0 ≤ (σ202 87 k).toInt ∧ (σ202 87 k).toInt ≤ 60 := (jrr_fr (f213 87 (by decide)) (jrr_fr (jnp 87 eσ191 (by decide)) w5))
                have g224 := w223 _ (jnat (x := a1) t1 (n := 6) (by omega) (by decide))
                refine lv_topi (fun x225 ex225 => ?_)
                rw [← ex225] at g224
                refine lv_aload_n hx hb dX12_books_69 rfl (lv_at hl 1 rfl) ?_
                refine va_get (D := D) hx hb hts inlX12 hown hK hP 55 (jc_55 cI cL ad σ202 τ) rfl 47 (by decide) (hts _ kw_15_15) (fun _ h9 => h9) rfl dX12_books_70 ?_
                have g226 := jrg (rfl : x225.toInt = x225.toInt)
                have g227 := jrg (rfl : (σ202 55 47).toInt = (σ202 55 47).toInt)
                refine lv_isub hx hb dX12_books_73 ?_
                refine lv_topi (fun x228 ex228 => ?_)
                have tx228 : x228.toInt = x225.toInt - (σ202 55 47).toInt := (jsub ex228 rfl rfl (by omega) (by omega)).trans (by omega)
                refine lv_icmp_ge (tgt := 96) hx hb dX12_books_74 (by decide) (fun c229 => ?_) (fun c229 => ?_)
                · have kc229 := jle c229 tx228 t2
                  refine lv_ldc2 (v := (-1)) hx hb hown (hts _ kw_43_16) dX12_books_96 ?_
                  refine lv_lstore (lv' := [(4, .long (-1)), (3, .int x200), (0, .ref (ad 55)), (1, .int a1), (2, .int a2)]) hx hb dX12_books_99 hl (by decide) rfl (fun ls hl => ?_)
                  refine lv_lload hx hb dX12_books_101 (lv_at hl 0 rfl) ?_
                  refine lv_lconst (v := 0) hx hb dX12_books_103 (by decide) ?_
                  refine W.lcmp hx hb dX12_books_104 ?_
                  refine lv_if_lt (tgt := 140) hx hb dX12_books_105 (by decide) (fun c230 => ?_) (fun c => absurd (jcnlt c jzl_m1 jzl_0) (by omega))
                  have kc230 := jclt c230 jzl_m1 jzl_0
                  refine lv_iconst (v := 0) hx hb dX12_books_140 (by decide) ?_
                  refine lv_istore_n (lv' := [(3, .int 0), (4, .long (-1)), (0, .ref (ad 55)), (1, .int a1), (2, .int a2)]) hx hb dX12_books_141 rfl hl (by decide) rfl (fun ls hl => ?_)
                  refine lv_goto (tgt := 58) hx hb dX12_books_142 (by decide) ?_
                  exact ihlp198 0 σ202 _ _ ls (by have h90 := jz_0; omega) (by have h90 := jz_0; omega) (by have h90 := jz_0; omega) (by have h90 := jz_0; omega) (by have h90 := jz_0; omega) (fun i hi => (f213 i hi)) (fun i hi => (f214 i hi))  p215 p216 p217 hP hS (lv_sub hl [0, 2, 3, 4] rfl)
                · have kc229 := jnle c229 tx228 t2
                  refine lv_aload_n hx hb dX12_books_77 rfl (lv_at hl 1 rfl) ?_
                  refine va_get (D := D) hx hb hts inlX12 hown hK hP 55 (jc_55 cI cL ad σ202 τ) rfl 60 (by decide) (hts _ kw_8_13) (fun _ h9 => h9) rfl dX12_books_78 ?_
                  refine lv_bipush (v := 60) hx hb dX12_books_81 (by decide) ?_
                  refine lv_iload_n hx hb dX12_books_83 rfl (lv_at hl 2 rfl) ?_
                  refine lv_imul hx hb dX12_books_84 ?_
                  refine lv_topi (fun x231 ex231 => ?_)
                  have tx231 : x231.toInt = 60 * A1 := (jmul ex231 jz_60 t1 (by omega) (by omega)).trans (by omega)
                  refine lv_iload_n hx hb dX12_books_85 rfl (lv_at hl 3 rfl) ?_
                  refine lv_iadd hx hb dX12_books_86 ?_
                  refine lv_topi (fun x232 ex232 => ?_)
                  have tx232 : x232.toInt = 60 * A1 + A2 := (jadd ex232 tx231 t2 (by omega) (by omega)).trans (by omega)
                  refine lv_aload_n hx hb dX12_books_87 rfl (lv_at hl 1 rfl) ?_
                  refine va_get (D := D) hx hb hts inlX12 hown hK hP 55 (jc_55 cI cL ad σ202 τ) rfl 47 (by decide) (hts _ kw_15_15) (fun _ h9 => h9) rfl dX12_books_88 ?_
                  refine lv_iadd hx hb dX12_books_91 ?_
                  refine lv_topi (fun x233 ex233 => ?_)
                  have tx233 : x233.toInt = 60 * A1 + A2 + (σ202 55 47).toInt := (jadd ex233 tx232 rfl (by omega) (by omega)).trans (by omega)
                  refine jaldL hx hb hK hP (jc_88 cI cL ad σ202 τ) (jin tx233 (by omega) (by omega)) dX12_books_92 ?_
                  refine lv_topl (fun lx234 elx234 => ?_)
                  refine lv_goto (tgt := 99) hx hb dX12_books_93 (by decide) ?_
                  refine lv_lstore (lv' := [(4, .long lx234), (3, .int x200), (0, .ref (ad 55)), (1, .int a1), (2, .int a2)]) hx hb dX12_books_99 hl (by decide) rfl (fun ls hl => ?_)
                  refine lv_lload hx hb dX12_books_101 (lv_at hl 0 rfl) ?_
                  refine lv_lconst (v := 0) hx hb dX12_books_103 (by decide) ?_
                  refine W.lcmp hx hb dX12_books_104 ?_
                  refine lv_if_lt (tgt := 140) hx hb dX12_books_105 (by decide) (fun c235 => ?_) (fun c235 => ?_)
                  · have kc235 := jclt c235 rfl jzl_0
                    refine lv_iconst (v := 0) hx hb dX12_books_140 (by decide) ?_
                    refine lv_istore_n (lv' := [(3, .int 0), (4, .long lx234), (0, .ref (ad 55)), (1, .int a1), (2, .int a2)]) hx hb dX12_books_141 rfl hl (by decide) rfl (fun ls hl => ?_)
                    refine lv_goto (tgt := 58) hx hb dX12_books_142 (by decide) ?_
                    exact ihlp198 0 σ202 _ _ ls (by have h90 := jz_0; omega) (by have h90 := jz_0; omega) (by have h90 := jz_0; omega) (by have h90 := jz_0; omega) (by have h90 := jz_0; omega) (fun i hi => (f213 i hi)) (fun i hi => (f214 i hi))  p215 p216 p217 hP hS (lv_sub hl [0, 2, 3, 4] rfl)
                  · have kc235 := jcnlt c235 rfl jzl_0
                    refine lv_lload hx hb dX12_books_108 (lv_at hl 0 rfl) ?_
                    refine lv_ldc2 (v := 20) hx hb hown (hts _ kw_9_12) dX12_books_110 ?_
                    refine W.lcmp hx hb dX12_books_113 ?_
                    refine lv_if_ge (tgt := 140) hx hb dX12_books_114 (by decide) (fun c236 => ?_) (fun c236 => ?_)
                    · have kc236 := jcge c236 rfl jzl_20
                      refine lv_iconst (v := 0) hx hb dX12_books_140 (by decide) ?_
                      refine lv_istore_n (lv' := [(3, .int 0), (4, .long lx234), (0, .ref (ad 55)), (1, .int a1), (2, .int a2)]) hx hb dX12_books_141 rfl hl (by decide) rfl (fun ls hl => ?_)
                      refine lv_goto (tgt := 58) hx hb dX12_books_142 (by decide) ?_
                      exact ihlp198 0 σ202 _ _ ls (by have h90 := jz_0; omega) (by have h90 := jz_0; omega) (by have h90 := jz_0; omega) (by have h90 := jz_0; omega) (by have h90 := jz_0; omega) (fun i hi => (f213 i hi)) (fun i hi => (f214 i hi))  p215 p216 p217 hP hS (lv_sub hl [0, 2, 3, 4] rfl)
                    · have kc236 := jcnge c236 rfl jzl_20
                      refine lv_aload_n hx hb dX12_books_117 rfl (lv_at hl 2 rfl) ?_
                      refine lv_lload hx hb dX12_books_118 (lv_at hl 0 rfl) ?_
                      refine lv_l2i hx hb dX12_books_120 rfl ?_
                      refine lv_topi (fun x237 ex237 => ?_)
                      have tx237 : x237.toInt = lx234.toInt := jtoI ex237 rfl (by omega) (by omega)
                      refine lv_bipush (v := 10) hx hb dX12_books_121 (by decide) ?_
                      refine lv_irem hx hb dX12_books_123 (by decide) ?_
                      refine lv_topi (fun x238 ex238 => ?_)
                      have tx238 : x238.toInt = (lx234.toInt % 10) := jrem ex238 tx237 jz_10 (by omega)
                      refine lv_lload hx hb dX12_books_124 (lv_at hl 0 rfl) ?_
                      refine lv_l2i hx hb dX12_books_126 rfl ?_
                      refine lv_topi (fun x239 ex239 => ?_)
                      have tx239 : x239.toInt = lx234.toInt := jtoI ex239 rfl (by omega) (by omega)
                      refine lv_bipush (v := 10) hx hb dX12_books_127 (by decide) ?_
                      refine lv_idiv hx hb dX12_books_129 (by decide) ?_
                      refine lv_topi (fun x240 ex240 => ?_)
                      have tx240 : x240.toInt = (lx234.toInt / 10) := jdiv ex240 tx239 jz_10 (by omega) (by omega)
                      have I241 : jI102 σ202 := jI102_fr ((f214 6 (by decide)).trans (jkp 6 eσ191 (by decide))) ((f213 60 (by decide)).trans (jnp 60 eσ191 (by decide))) ((f213 61 (by decide)).trans (jnp 61 eσ191 (by decide))) hI102
                      have I242 : jI104 σ202 := jI104_fr ((f214 10 (by decide)).trans (jkp 10 eσ191 (by decide))) ((f214 12 (by decide)).trans (jkp 12 eσ191 (by decide))) ((f214 13 (by decide)).trans (jkp 13 eσ191 (by decide))) ((f213 62 (by decide)).trans (jnp 62 eσ191 (by decide))) ((f213 67 (by decide)).trans (jnp 67 eσ191 (by decide))) hI104
                      have w243 : ∀ k : Nat, k < 4 → 0 ≤ (σ202 68 k).toInt ∧ (σ202 68 k).toInt ≤ 3 := p217
                      refine jcallV (As := [.int x238, .int x240]) (rest := []) ⟨hx, hb, hml, hown, hts⟩ hK hP hA hS hZ (c_X12_book l D cI cL ad zz hJ σ202 τ x238 ((lx234.toInt % 10)) tx238 x240 ((lx234.toInt / 10)) tx240 I241 I242 p216 w243 p215) cw_RX12_366 (jc_55 cI cL ad σ202 τ) rfl ⟨Nat.le_of_ble_eq_true rfl, Nat.le_of_ble_eq_true rfl⟩ rfl rfl rfl hl.1 rfl (Nat.le_of_ble_eq_true rfl) dX12_books_130 ⟨Nat.zero_le _, Nat.zero_le _⟩ (fun r245 σ244 τ244 H locs h244 hP hS => ?_)
                      obtain ⟨rfl, f246, f247, I248, w249, p250, h244⟩ := h244
                      obtain ⟨i252, i253, w254⟩ : (0 ≤ (σ244 55 47).toInt ∧ (σ244 55 47).toInt ≤ 12) ∧ ((σ244 55 47).toInt ≤ (σ244 55 12).toInt) ∧ (∀ k : Nat, k < 12 → 0 ≤ (σ244 80 k).toInt ∧ (σ244 80 k).toInt ≤ 3) := id I248
                      have z255 : (σ244 55 12).toInt = (σ 55 12).toInt := (congrArg Int32.toInt (show σ244 55 12 = (σ 55 12) from ((f247 12 (by decide)).trans ((f214 12 (by decide)).trans (jkp 12 eσ191 (by decide))))))
                      rcases h244 with h256 | h257
                      · obtain ⟨q260, k258, k259⟩ := h256
                        refine lv_if_le (tgt := 140) hx hb dX12_books_133 (by decide) (fun c => absurd (jle c rfl jz_0) (by omega)) (fun c261 => ?_)
                        have kc261 := jnle c261 rfl jz_0
                        refine lv_iconst (v := 1) hx hb dX12_books_136 (by decide) ?_
                        refine lv_goto (tgt := 141) hx hb dX12_books_137 (by decide) ?_
                        refine lv_istore_n (lv' := [(3, .int 1), (4, .long lx234), (0, .ref (ad 55)), (1, .int a1), (2, .int a2)]) hx hb dX12_books_141 rfl hl (by decide) rfl (fun ls hl => ?_)
                        refine lv_goto (tgt := 58) hx hb dX12_books_142 (by decide) ?_
                        have I262 : jI119 σ244 := w249
                        exact ihlp198 1 σ244 _ _ ls (by have h90 := jz_1; omega) (by have h90 := jz_1; omega) (by have h90 := jz_1; omega) (by have h90 := jz_1; omega) (by have h90 := jz_1; omega) (fun i hi => ((f246 i hi).trans (f213 i hi))) (fun i hi => ((f247 i hi).trans (f214 i hi)))  p250 I248 I262 hP hS (lv_sub hl [0, 2, 3, 4] rfl)
                      · obtain ⟨q265, k263, k264⟩ := h257
                        refine lv_if_le (tgt := 140) hx hb dX12_books_133 (by decide) (fun c266 => ?_) (fun c => absurd (jnle c rfl jz_0) (by omega))
                        have kc266 := jle c266 rfl jz_0
                        refine lv_iconst (v := 0) hx hb dX12_books_140 (by decide) ?_
                        refine lv_istore_n (lv' := [(3, .int 0), (4, .long lx234), (0, .ref (ad 55)), (1, .int a1), (2, .int a2)]) hx hb dX12_books_141 rfl hl (by decide) rfl (fun ls hl => ?_)
                        refine lv_goto (tgt := 58) hx hb dX12_books_142 (by decide) ?_
                        have I267 : jI119 σ244 := w249
                        exact ihlp198 0 σ244 _ _ ls (by have h90 := jz_0; omega) (by have h90 := jz_0; omega) (by have h90 := jz_0; omega) (by have h90 := jz_0; omega) (by have h90 := jz_0; omega) (fun i hi => ((f246 i hi).trans (f213 i hi))) (fun i hi => ((f247 i hi).trans (f214 i hi)))  p250 I248 I267 hP hS (lv_sub hl [0, 2, 3, 4] rfl)
          exact lp198 1000000 0 σ191 _ _ ls (by have h90 := jz_0; omega) (by have h90 := jz_0; omega) (by have h90 := jz_0; omega) (by have h90 := jz_0; omega) (by have h90 := jz_0; omega) (fun _ _ => rfl) (fun _ _ => rfl)  p193 I205 I206 hP hS hl
        · have kc197 := jeq c197 rfl jz_20
          refine lv_iload_n hx hb dX12_books_48 rfl (lv_at hl 2 rfl) ?_
          refine lv_if_lt (tgt := 56) hx hb dX12_books_49 (by decide) (fun c268 => ?_) (fun c268 => ?_)
          · have kc268 := jlt c268 t2 jz_0
            refine lv_iconst (v := 0) hx hb dX12_books_56 (by decide) ?_
            refine lv_istore_n (lv' := [(3, .int 0), (0, .ref (ad 55)), (1, .int a1), (2, .int a2)]) hx hb dX12_books_57 rfl hl (by decide) rfl (fun ls hl => ?_)
            have z274 : (σ191 55 12).toInt = (σ 55 12).toInt := (congrArg Int32.toInt (show σ191 55 12 = (σ 55 12) from (jkp 12 eσ191 (by decide))))
            have w275 : ∀ k : Nat, k < 12 → 0 ≤ (σ191 80 k).toInt ∧ (σ191 80 k).toInt ≤ 3 := (jrr_fr (jnp 80 eσ191 (by decide)) w3)
            have I276 : jI107 σ191 := ⟨(by omega), (by omega), w275⟩
            have I277 : jI119 σ191 := jI119_fr (jnp 68 eσ191 (by decide)) hI119
            have lp269 : ∀ (n270 : Nat) (x271 : Int32) (σ273 : Nat → Nat → Int32) (H : Heap) (locs : List Loc) (ls : Array Slot), (-(2 * (σ273 55 47).toInt) + x271.toInt + 26 : Int) < n270 → 0 ≤ x271.toInt → x271.toInt ≤ 1 → ((x271.toInt = 0) ∨ (0 ≤ A2)) → (σ273 55 47).toInt ≤ 12 → (∀ i : Nat, (i < 55 ∨ 55 < i) ∧ (i < 68 ∨ 69 < i) ∧ (i < 80 ∨ 81 < i) → σ273 i = σ191 i) → (∀ k : Nat, (k < 25 ∨ 25 < k) ∧ (k < 26 ∨ 26 < k) ∧ (k < 27 ∨ 27 < k) ∧ (k < 47 ∨ 47 < k) → σ273 55 k = σ191 55 k) → jBook σ273 → jI107 σ273 → jI119 σ273 → jH D cI cL ad σ273 τ H → va_S (jA ad) s.heap H locs → lv_has ls 6 [(3, .int x271), (0, .ref (ad 55)), (1, .int a1), (2, .int a2)] → W p l e ({ frames := 4, cells := 0, slots := 0, locals := 85 }) s m args below meth c H locs 0 0 Q (F0 m 58 ls []) := by
              intro n270
              induction n270 with
              | zero => intro x271 σ273 H locs ls h279 h280 h281 h282 h283; exact absurd h279 (by omega)
              | succ n270 ihlp269 =>
                intro x271 σ273 H locs ls h279 h280 h281 h282 h283 f284 f285 p286 p287 p288 hP hS hl
                obtain ⟨i289, i290, w291⟩ : (0 ≤ (σ273 55 47).toInt ∧ (σ273 55 47).toInt ≤ 12) ∧ ((σ273 55 47).toInt ≤ (σ273 55 12).toInt) ∧ (∀ k : Nat, k < 12 → 0 ≤ (σ273 80 k).toInt ∧ (σ273 80 k).toInt ≤ 3) := id p287
                have z292 : (σ273 55 12).toInt = (σ 55 12).toInt := (congrArg Int32.toInt (show σ273 55 12 = (σ 55 12) from ((f285 12 (by decide)).trans (jkp 12 eσ191 (by decide)))))
                refine lv_iload_n hx hb dX12_books_58 rfl (lv_at hl 0 rfl) ?_
                refine lv_if_eq (tgt := 145) hx hb dX12_books_59 (by decide) (fun c293 => ?_) (fun c => absurd (jne c rfl jz_0) (by omega))
                have kc293 := jeq c293 rfl jz_0
                refine lv_aload_n hx hb dX12_books_145 rfl (lv_at hl 1 rfl) ?_
                refine va_get (D := D) hx hb hts inlX12 hown hK hP 55 (jc_55 cI cL ad σ273 τ) rfl 47 (by decide) (hts _ kw_15_15) (fun _ h9 => h9) rfl dX12_books_146 ?_
                exact hret (σ273 55 47) σ273 τ _ _ _ _ rfl ⟨rfl, (fun i hi => ((f284 i hi).trans (jnp i eσ191 (imp_215 i hi)))), (fun i hi => ((f285 i hi).trans (jkp i eσ191 (imp_218 i hi)))), p287, p288, p286, trivial⟩ hP hS dX12_books_149
            exact lp269 1000000 0 σ191 _ _ ls (by have h90 := jz_0; omega) (by have h90 := jz_0; omega) (by have h90 := jz_0; omega) (by have h90 := jz_0; omega) (by have h90 := jz_0; omega) (fun _ _ => rfl) (fun _ _ => rfl)  p193 I276 I277 hP hS hl
          · have kc268 := jnlt c268 t2 jz_0
            refine lv_iconst (v := 1) hx hb dX12_books_52 (by decide) ?_
            refine lv_goto (tgt := 57) hx hb dX12_books_53 (by decide) ?_
            refine lv_istore_n (lv' := [(3, .int 1), (0, .ref (ad 55)), (1, .int a1), (2, .int a2)]) hx hb dX12_books_57 rfl hl (by decide) rfl (fun ls hl => ?_)
            have z299 : (σ191 55 12).toInt = (σ 55 12).toInt := (congrArg Int32.toInt (show σ191 55 12 = (σ 55 12) from (jkp 12 eσ191 (by decide))))
            have w300 : ∀ k : Nat, k < 12 → 0 ≤ (σ191 80 k).toInt ∧ (σ191 80 k).toInt ≤ 3 := (jrr_fr (jnp 80 eσ191 (by decide)) w3)
            have I301 : jI107 σ191 := ⟨(by omega), (by omega), w300⟩
            have I302 : jI119 σ191 := jI119_fr (jnp 68 eσ191 (by decide)) hI119
            have lp294 : ∀ (n295 : Nat) (x296 : Int32) (σ298 : Nat → Nat → Int32) (H : Heap) (locs : List Loc) (ls : Array Slot), (-(2 * (σ298 55 47).toInt) + x296.toInt + 26 : Int) < n295 → 0 ≤ x296.toInt → x296.toInt ≤ 1 → ((x296.toInt = 0) ∨ (0 ≤ A2)) → (σ298 55 47).toInt ≤ 12 → (∀ i : Nat, (i < 55 ∨ 55 < i) ∧ (i < 68 ∨ 69 < i) ∧ (i < 80 ∨ 81 < i) → σ298 i = σ191 i) → (∀ k : Nat, (k < 25 ∨ 25 < k) ∧ (k < 26 ∨ 26 < k) ∧ (k < 27 ∨ 27 < k) ∧ (k < 47 ∨ 47 < k) → σ298 55 k = σ191 55 k) → jBook σ298 → jI107 σ298 → jI119 σ298 → jH D cI cL ad σ298 τ H → va_S (jA ad) s.heap H locs → lv_has ls 6 [(3, .int x296), (0, .ref (ad 55)), (1, .int a1), (2, .int a2)] → W p l e ({ frames := 4, cells := 0, slots := 0, locals := 85 }) s m args below meth c H locs 0 0 Q (F0 m 58 ls []) := by
              intro n295
              induction n295 with
              | zero => intro x296 σ298 H locs ls h304 h305 h306 h307 h308; exact absurd h304 (by omega)
              | succ n295 ihlp294 =>
                intro x296 σ298 H locs ls h304 h305 h306 h307 h308 f309 f310 p311 p312 p313 hP hS hl
                obtain ⟨i314, i315, w316⟩ : (0 ≤ (σ298 55 47).toInt ∧ (σ298 55 47).toInt ≤ 12) ∧ ((σ298 55 47).toInt ≤ (σ298 55 12).toInt) ∧ (∀ k : Nat, k < 12 → 0 ≤ (σ298 80 k).toInt ∧ (σ298 80 k).toInt ≤ 3) := id p312
                have z317 : (σ298 55 12).toInt = (σ 55 12).toInt := (congrArg Int32.toInt (show σ298 55 12 = (σ 55 12) from ((f310 12 (by decide)).trans (jkp 12 eσ191 (by decide)))))
                refine lv_iload_n hx hb dX12_books_58 rfl (lv_at hl 0 rfl) ?_
                refine lv_if_eq (tgt := 145) hx hb dX12_books_59 (by decide) (fun c318 => ?_) (fun c318 => ?_)
                · have kc318 := jeq c318 rfl jz_0
                  refine lv_aload_n hx hb dX12_books_145 rfl (lv_at hl 1 rfl) ?_
                  refine va_get (D := D) hx hb hts inlX12 hown hK hP 55 (jc_55 cI cL ad σ298 τ) rfl 47 (by decide) (hts _ kw_15_15) (fun _ h9 => h9) rfl dX12_books_146 ?_
                  exact hret (σ298 55 47) σ298 τ _ _ _ _ rfl ⟨rfl, (fun i hi => ((f309 i hi).trans (jnp i eσ191 (imp_215 i hi)))), (fun i hi => ((f310 i hi).trans (jkp i eσ191 (imp_218 i hi)))), p312, p313, p311, trivial⟩ hP hS dX12_books_149
                · have kc318 := jne c318 rfl jz_0
                  refine lv_iload_n hx hb dX12_books_62 rfl (lv_at hl 3 rfl) ?_
                  refine lv_aload_n hx hb dX12_books_63 rfl (lv_at hl 1 rfl) ?_
                  refine va_get (D := D) hx hb hts inlX12 hown hK hP 55 (jc_55 cI cL ad σ298 τ) rfl 59 (by decide) (hts _ kw_8_12) (fun _ h9 => h9) rfl dX12_books_64 ?_
                  refine lv_iload_n hx hb dX12_books_67 rfl (lv_at hl 2 rfl) ?_
                  refine jald hx hb hK hP (jc_87 cI cL ad σ298 τ) (jin t1 (by omega) (by omega)) dX12_books_68 ?_
                  have w319 : ∀ k : Nat, k < 6 → 0 ≤ (σ298 87 k).toInt ∧ (σ298 87 k).toInt ≤ 60 := (jrr_fr (f309 87 (by decide)) (jrr_fr (jnp 87 eσ191 (by decide)) w5))
                  have g320 := w319 _ (jnat (x := a1) t1 (n := 6) (by omega) (by decide))
                  refine lv_topi (fun x321 ex321 => ?_)
                  rw [← ex321] at g320
                  refine lv_aload_n hx hb dX12_books_69 rfl (lv_at hl 1 rfl) ?_
                  refine va_get (D := D) hx hb hts inlX12 hown hK hP 55 (jc_55 cI cL ad σ298 τ) rfl 47 (by decide) (hts _ kw_15_15) (fun _ h9 => h9) rfl dX12_books_70 ?_
                  have g322 := jrg (rfl : x321.toInt = x321.toInt)
                  have g323 := jrg (rfl : (σ298 55 47).toInt = (σ298 55 47).toInt)
                  refine lv_isub hx hb dX12_books_73 ?_
                  refine lv_topi (fun x324 ex324 => ?_)
                  have tx324 : x324.toInt = x321.toInt - (σ298 55 47).toInt := (jsub ex324 rfl rfl (by omega) (by omega)).trans (by omega)
                  refine lv_icmp_ge (tgt := 96) hx hb dX12_books_74 (by decide) (fun c325 => ?_) (fun c325 => ?_)
                  · have kc325 := jle c325 tx324 t2
                    refine lv_ldc2 (v := (-1)) hx hb hown (hts _ kw_43_16) dX12_books_96 ?_
                    refine lv_lstore (lv' := [(4, .long (-1)), (3, .int x296), (0, .ref (ad 55)), (1, .int a1), (2, .int a2)]) hx hb dX12_books_99 hl (by decide) rfl (fun ls hl => ?_)
                    refine lv_lload hx hb dX12_books_101 (lv_at hl 0 rfl) ?_
                    refine lv_lconst (v := 0) hx hb dX12_books_103 (by decide) ?_
                    refine W.lcmp hx hb dX12_books_104 ?_
                    refine lv_if_lt (tgt := 140) hx hb dX12_books_105 (by decide) (fun c326 => ?_) (fun c => absurd (jcnlt c jzl_m1 jzl_0) (by omega))
                    have kc326 := jclt c326 jzl_m1 jzl_0
                    refine lv_iconst (v := 0) hx hb dX12_books_140 (by decide) ?_
                    refine lv_istore_n (lv' := [(3, .int 0), (4, .long (-1)), (0, .ref (ad 55)), (1, .int a1), (2, .int a2)]) hx hb dX12_books_141 rfl hl (by decide) rfl (fun ls hl => ?_)
                    refine lv_goto (tgt := 58) hx hb dX12_books_142 (by decide) ?_
                    exact ihlp294 0 σ298 _ _ ls (by have h90 := jz_0; omega) (by have h90 := jz_0; omega) (by have h90 := jz_0; omega) (by have h90 := jz_0; omega) (by have h90 := jz_0; omega) (fun i hi => (f309 i hi)) (fun i hi => (f310 i hi))  p311 p312 p313 hP hS (lv_sub hl [0, 2, 3, 4] rfl)
                  · have kc325 := jnle c325 tx324 t2
                    refine lv_aload_n hx hb dX12_books_77 rfl (lv_at hl 1 rfl) ?_
                    refine va_get (D := D) hx hb hts inlX12 hown hK hP 55 (jc_55 cI cL ad σ298 τ) rfl 60 (by decide) (hts _ kw_8_13) (fun _ h9 => h9) rfl dX12_books_78 ?_
                    refine lv_bipush (v := 60) hx hb dX12_books_81 (by decide) ?_
                    refine lv_iload_n hx hb dX12_books_83 rfl (lv_at hl 2 rfl) ?_
                    refine lv_imul hx hb dX12_books_84 ?_
                    refine lv_topi (fun x327 ex327 => ?_)
                    have tx327 : x327.toInt = 60 * A1 := (jmul ex327 jz_60 t1 (by omega) (by omega)).trans (by omega)
                    refine lv_iload_n hx hb dX12_books_85 rfl (lv_at hl 3 rfl) ?_
                    refine lv_iadd hx hb dX12_books_86 ?_
                    refine lv_topi (fun x328 ex328 => ?_)
                    have tx328 : x328.toInt = 60 * A1 + A2 := (jadd ex328 tx327 t2 (by omega) (by omega)).trans (by omega)
                    refine lv_aload_n hx hb dX12_books_87 rfl (lv_at hl 1 rfl) ?_
                    refine va_get (D := D) hx hb hts inlX12 hown hK hP 55 (jc_55 cI cL ad σ298 τ) rfl 47 (by decide) (hts _ kw_15_15) (fun _ h9 => h9) rfl dX12_books_88 ?_
                    refine lv_iadd hx hb dX12_books_91 ?_
                    refine lv_topi (fun x329 ex329 => ?_)
                    have tx329 : x329.toInt = 60 * A1 + A2 + (σ298 55 47).toInt := (jadd ex329 tx328 rfl (by omega) (by omega)).trans (by omega)
                    refine jaldL hx hb hK hP (jc_88 cI cL ad σ298 τ) (jin tx329 (by omega) (by omega)) dX12_books_92 ?_
                    refine lv_topl (fun lx330 elx330 => ?_)
                    refine lv_goto (tgt := 99) hx hb dX12_books_93 (by decide) ?_
                    refine lv_lstore (lv' := [(4, .long lx330), (3, .int x296), (0, .ref (ad 55)), (1, .int a1), (2, .int a2)]) hx hb dX12_books_99 hl (by decide) rfl (fun ls hl => ?_)
                    refine lv_lload hx hb dX12_books_101 (lv_at hl 0 rfl) ?_
                    refine lv_lconst (v := 0) hx hb dX12_books_103 (by decide) ?_
                    refine W.lcmp hx hb dX12_books_104 ?_
                    refine lv_if_lt (tgt := 140) hx hb dX12_books_105 (by decide) (fun c331 => ?_) (fun c331 => ?_)
                    · have kc331 := jclt c331 rfl jzl_0
                      refine lv_iconst (v := 0) hx hb dX12_books_140 (by decide) ?_
                      refine lv_istore_n (lv' := [(3, .int 0), (4, .long lx330), (0, .ref (ad 55)), (1, .int a1), (2, .int a2)]) hx hb dX12_books_141 rfl hl (by decide) rfl (fun ls hl => ?_)
                      refine lv_goto (tgt := 58) hx hb dX12_books_142 (by decide) ?_
                      exact ihlp294 0 σ298 _ _ ls (by have h90 := jz_0; omega) (by have h90 := jz_0; omega) (by have h90 := jz_0; omega) (by have h90 := jz_0; omega) (by have h90 := jz_0; omega) (fun i hi => (f309 i hi)) (fun i hi => (f310 i hi))  p311 p312 p313 hP hS (lv_sub hl [0, 2, 3, 4] rfl)
                    · have kc331 := jcnlt c331 rfl jzl_0
                      refine lv_lload hx hb dX12_books_108 (lv_at hl 0 rfl) ?_
                      refine lv_ldc2 (v := 20) hx hb hown (hts _ kw_9_12) dX12_books_110 ?_
                      refine W.lcmp hx hb dX12_books_113 ?_
                      refine lv_if_ge (tgt := 140) hx hb dX12_books_114 (by decide) (fun c332 => ?_) (fun c332 => ?_)
                      · have kc332 := jcge c332 rfl jzl_20
                        refine lv_iconst (v := 0) hx hb dX12_books_140 (by decide) ?_
                        refine lv_istore_n (lv' := [(3, .int 0), (4, .long lx330), (0, .ref (ad 55)), (1, .int a1), (2, .int a2)]) hx hb dX12_books_141 rfl hl (by decide) rfl (fun ls hl => ?_)
                        refine lv_goto (tgt := 58) hx hb dX12_books_142 (by decide) ?_
                        exact ihlp294 0 σ298 _ _ ls (by have h90 := jz_0; omega) (by have h90 := jz_0; omega) (by have h90 := jz_0; omega) (by have h90 := jz_0; omega) (by have h90 := jz_0; omega) (fun i hi => (f309 i hi)) (fun i hi => (f310 i hi))  p311 p312 p313 hP hS (lv_sub hl [0, 2, 3, 4] rfl)
                      · have kc332 := jcnge c332 rfl jzl_20
                        refine lv_aload_n hx hb dX12_books_117 rfl (lv_at hl 2 rfl) ?_
                        refine lv_lload hx hb dX12_books_118 (lv_at hl 0 rfl) ?_
                        refine lv_l2i hx hb dX12_books_120 rfl ?_
                        refine lv_topi (fun x333 ex333 => ?_)
                        have tx333 : x333.toInt = lx330.toInt := jtoI ex333 rfl (by omega) (by omega)
                        refine lv_bipush (v := 10) hx hb dX12_books_121 (by decide) ?_
                        refine lv_irem hx hb dX12_books_123 (by decide) ?_
                        refine lv_topi (fun x334 ex334 => ?_)
                        have tx334 : x334.toInt = (lx330.toInt % 10) := jrem ex334 tx333 jz_10 (by omega)
                        refine lv_lload hx hb dX12_books_124 (lv_at hl 0 rfl) ?_
                        refine lv_l2i hx hb dX12_books_126 rfl ?_
                        refine lv_topi (fun x335 ex335 => ?_)
                        have tx335 : x335.toInt = lx330.toInt := jtoI ex335 rfl (by omega) (by omega)
                        refine lv_bipush (v := 10) hx hb dX12_books_127 (by decide) ?_
                        refine lv_idiv hx hb dX12_books_129 (by decide) ?_
                        refine lv_topi (fun x336 ex336 => ?_)
                        have tx336 : x336.toInt = (lx330.toInt / 10) := jdiv ex336 tx335 jz_10 (by omega) (by omega)
                        have I337 : jI102 σ298 := jI102_fr ((f310 6 (by decide)).trans (jkp 6 eσ191 (by decide))) ((f309 60 (by decide)).trans (jnp 60 eσ191 (by decide))) ((f309 61 (by decide)).trans (jnp 61 eσ191 (by decide))) hI102
                        have I338 : jI104 σ298 := jI104_fr ((f310 10 (by decide)).trans (jkp 10 eσ191 (by decide))) ((f310 12 (by decide)).trans (jkp 12 eσ191 (by decide))) ((f310 13 (by decide)).trans (jkp 13 eσ191 (by decide))) ((f309 62 (by decide)).trans (jnp 62 eσ191 (by decide))) ((f309 67 (by decide)).trans (jnp 67 eσ191 (by decide))) hI104
                        have w339 : ∀ k : Nat, k < 4 → 0 ≤ (σ298 68 k).toInt ∧ (σ298 68 k).toInt ≤ 3 := p313
                        refine jcallV (As := [.int x334, .int x336]) (rest := []) ⟨hx, hb, hml, hown, hts⟩ hK hP hA hS hZ (c_X12_book l D cI cL ad zz hJ σ298 τ x334 ((lx330.toInt % 10)) tx334 x336 ((lx330.toInt / 10)) tx336 I337 I338 p312 w339 p311) cw_RX12_366 (jc_55 cI cL ad σ298 τ) rfl ⟨Nat.le_of_ble_eq_true rfl, Nat.le_of_ble_eq_true rfl⟩ rfl rfl rfl hl.1 rfl (Nat.le_of_ble_eq_true rfl) dX12_books_130 ⟨Nat.zero_le _, Nat.zero_le _⟩ (fun r341 σ340 τ340 H locs h340 hP hS => ?_)
                        obtain ⟨rfl, f342, f343, I344, w345, p346, h340⟩ := h340
                        obtain ⟨i348, i349, w350⟩ : (0 ≤ (σ340 55 47).toInt ∧ (σ340 55 47).toInt ≤ 12) ∧ ((σ340 55 47).toInt ≤ (σ340 55 12).toInt) ∧ (∀ k : Nat, k < 12 → 0 ≤ (σ340 80 k).toInt ∧ (σ340 80 k).toInt ≤ 3) := id I344
                        have z351 : (σ340 55 12).toInt = (σ 55 12).toInt := (congrArg Int32.toInt (show σ340 55 12 = (σ 55 12) from ((f343 12 (by decide)).trans ((f310 12 (by decide)).trans (jkp 12 eσ191 (by decide))))))
                        rcases h340 with h352 | h353
                        · obtain ⟨q356, k354, k355⟩ := h352
                          refine lv_if_le (tgt := 140) hx hb dX12_books_133 (by decide) (fun c => absurd (jle c rfl jz_0) (by omega)) (fun c357 => ?_)
                          have kc357 := jnle c357 rfl jz_0
                          refine lv_iconst (v := 1) hx hb dX12_books_136 (by decide) ?_
                          refine lv_goto (tgt := 141) hx hb dX12_books_137 (by decide) ?_
                          refine lv_istore_n (lv' := [(3, .int 1), (4, .long lx330), (0, .ref (ad 55)), (1, .int a1), (2, .int a2)]) hx hb dX12_books_141 rfl hl (by decide) rfl (fun ls hl => ?_)
                          refine lv_goto (tgt := 58) hx hb dX12_books_142 (by decide) ?_
                          have I358 : jI119 σ340 := w345
                          exact ihlp294 1 σ340 _ _ ls (by have h90 := jz_1; omega) (by have h90 := jz_1; omega) (by have h90 := jz_1; omega) (by have h90 := jz_1; omega) (by have h90 := jz_1; omega) (fun i hi => ((f342 i hi).trans (f309 i hi))) (fun i hi => ((f343 i hi).trans (f310 i hi)))  p346 I344 I358 hP hS (lv_sub hl [0, 2, 3, 4] rfl)
                        · obtain ⟨q361, k359, k360⟩ := h353
                          refine lv_if_le (tgt := 140) hx hb dX12_books_133 (by decide) (fun c362 => ?_) (fun c => absurd (jnle c rfl jz_0) (by omega))
                          have kc362 := jle c362 rfl jz_0
                          refine lv_iconst (v := 0) hx hb dX12_books_140 (by decide) ?_
                          refine lv_istore_n (lv' := [(3, .int 0), (4, .long lx330), (0, .ref (ad 55)), (1, .int a1), (2, .int a2)]) hx hb dX12_books_141 rfl hl (by decide) rfl (fun ls hl => ?_)
                          refine lv_goto (tgt := 58) hx hb dX12_books_142 (by decide) ?_
                          have I363 : jI119 σ340 := w345
                          exact ihlp294 0 σ340 _ _ ls (by have h90 := jz_0; omega) (by have h90 := jz_0; omega) (by have h90 := jz_0; omega) (by have h90 := jz_0; omega) (by have h90 := jz_0; omega) (fun i hi => ((f342 i hi).trans (f309 i hi))) (fun i hi => ((f343 i hi).trans (f310 i hi)))  p346 I344 I363 hP hS (lv_sub hl [0, 2, 3, 4] rfl)
            exact lp294 1000000 1 σ191 _ _ ls (by have h90 := jz_1; omega) (by have h90 := jz_1; omega) (by have h90 := jz_1; omega) (by have h90 := jz_1; omega) (by have h90 := jz_1; omega) (fun _ _ => rfl) (fun _ _ => rfl)  p193 I301 I302 hP hS hl
      · have kc190 := jne c190 rfl jz_20
        refine lv_bipush (v := (-12)) hx hb dX12_books_29 (by decide) ?_
        exact hret (-12) σ τ _ _ _ _ rfl ⟨rfl, (fun _ _ => rfl), (fun _ _ => rfl), hI107, hI119, hs_jBook, trivial⟩ hP hS dX12_books_31
  · obtain ⟨q365, k364⟩ := h9
    have q365 := q365.symm
    subst q365
    refine lv_if_ne (tgt := 9) hx hb dX12_books_4 (by decide) (fun c => absurd (by decide) c) (fun _ => ?_)
    refine lv_iconst (v := (-1)) hx hb dX12_books_7 (by decide) ?_
    exact hret (-1) σ τ _ _ _ _ rfl ⟨rfl, (fun _ _ => rfl), (fun _ _ => rfl), hI107, hI119, hs_jBook, trivial⟩ hP hS dX12_books_8
set_option maxHeartbeats 4000000 in
set_option maxRecDepth 100000 in
theorem c_X12_costOf (l : Launch) (D : va_G) (cI cL : ClassId) (ad zz : Nat → Nat) (hJ : jD ad) (σ : Nat → Nat → Int32) (τ : Nat → Nat → Int64) (a1 : Int32) (A1 : Int) (t1 : a1.toInt = A1) (hI101 : jI101 σ) (hI102 : jI102 σ) (hI103 : jI103 σ) (hI104 : jI104 σ) (hI105 : jI105 σ) (hI106 : jI106 σ) (hI107 : jI107 σ) (hI119 : jI119 σ) (hs_jKept : jKept σ) (hs_jBook : jBook σ) (hp0 : 0 ≤ A1) (hp1 : A1 < (σ 55 47).toInt) (hp2 : (σ 55 12).toInt - A1 ≤ 8) : jM l yX12_costOf cX12_costOf 3 (some .int) ({ frames := 103, cells := 0, slots := 0, locals := 5061 }) D cI cL ad zz [.ref (ad 55), .int a1] σ τ (fun r σ' τ' => τ = τ' ∧ (∀ i : Nat, (i < 55 ∨ 55 < i) ∧ (i < 66 ∨ 66 < i) ∧ (i < 68 ∨ 69 < i) ∧ (i < 74 ∨ 78 < i) → σ' i = σ i) ∧ (∀ k : Nat, (k < 18 ∨ 18 < k) ∧ (k < 19 ∨ 19 < k) ∧ (k < 20 ∨ 20 < k) ∧ (k < 21 ∨ 21 < k) ∧ (k < 22 ∨ 22 < k) ∧ (k < 25 ∨ 25 < k) ∧ (k < 26 ∨ 26 < k) ∧ (k < 27 ∨ 27 < k) ∧ (k < 37 ∨ 37 < k) ∧ (k < 42 ∨ 42 < k) → σ' 55 k = σ 55 k) ∧ (jI119 σ') ∧ (jKept σ') ∧ (jBook σ') ∧ True) := by
  refine jM.of hJ (by decide +kernel) (nt := .int) rfl (Nat.le_of_ble_eq_true rfl) ?_
  intro p e s m args below meth c Q ls hC hret hl hP
  obtain ⟨hx, hb, hr, hml, hown, hts, hK, -, hlocks, hZ⟩ := hC
  have hown : s.vm.findClass RX12 = some m.cls := hown
  have hS : va_S (jA ad) s.heap s.heap [] := va_S.rf
  have hA : ∀ q, jA ad q → jA ad q := fun _ h => h
  have hl : lv_has ls 3 [(0, .ref (ad 55)), (1, .int a1)] := hl
  have g1 := jrg t1
  obtain ⟨i1, w2, w3⟩ : (0 ≤ (σ 55 6).toInt ∧ (σ 55 6).toInt ≤ 4) ∧ (∀ k : Nat, k < 4 → 0 ≤ (σ 60 k).toInt ∧ (σ 60 k).toInt ≤ 50) ∧ (∀ k : Nat, k < 4 → 0 ≤ (σ 61 k).toInt ∧ (σ 61 k).toInt ≤ 20) := id hI102
  obtain ⟨i4, i5, i6, w7, w8⟩ : (1 ≤ (σ 55 10).toInt ∧ (σ 55 10).toInt ≤ 8) ∧ (1 ≤ (σ 55 12).toInt ∧ (σ 55 12).toInt ≤ 12) ∧ (0 ≤ (σ 55 13).toInt ∧ (σ 55 13).toInt ≤ 999) ∧ (∀ k : Nat, k < 8 → 0 ≤ (σ 62 k).toInt ∧ (σ 62 k).toInt ≤ 3) ∧ (∀ k : Nat, k < 8 → 0 ≤ (σ 67 k).toInt ∧ (σ 67 k).toInt ≤ 3) := id hI104
  obtain ⟨i9, i10, w11⟩ : (0 ≤ (σ 55 47).toInt ∧ (σ 55 47).toInt ≤ 12) ∧ ((σ 55 47).toInt ≤ (σ 55 12).toInt) ∧ (∀ k : Nat, k < 12 → 0 ≤ (σ 80 k).toInt ∧ (σ 80 k).toInt ≤ 3) := id hI107
  refine lv_aload_n hx hb dX12_costOf_0 rfl (lv_at hl 0 rfl) ?_
  refine lv_iload_n hx hb dX12_costOf_1 rfl (lv_at hl 1 rfl) ?_
  have w12 : ∀ k : Nat, k < 4 → 0 ≤ (σ 68 k).toInt ∧ (σ 68 k).toInt ≤ 3 := hI119
  refine jcallVv (As := [.int a1]) (rest := []) ⟨hx, hb, hml, hown, hts⟩ hK hP hA hS hZ (c_X12_goThroughBook l D cI cL ad zz hJ σ τ a1 (A1) t1 hI102 hI104 hI107 w12 hs_jBook (by omega) (by omega)) cw_RX12_334 (jc_55 cI cL ad σ τ) rfl ⟨Nat.le_of_ble_eq_true rfl, Nat.le_of_ble_eq_true rfl⟩ rfl rfl rfl hl.1 rfl (Nat.le_of_ble_eq_true rfl) dX12_costOf_2 ⟨Nat.zero_le _, Nat.zero_le _⟩ (fun σ13 τ13 H locs h13 hP hS => ?_)
  obtain ⟨rfl, f15, f16, I17, p18, h13⟩ := h13
  obtain ⟨i20, i21, i22, i23, i24, w25⟩ : (0 ≤ (σ13 55 25).toInt) ∧ ((σ13 55 25).toInt ≤ (σ13 55 10).toInt) ∧ (0 ≤ (σ13 55 26).toInt) ∧ ((σ13 55 26).toInt ≤ (σ13 55 12).toInt) ∧ ((-1) ≤ (σ13 55 27).toInt ∧ (σ13 55 27).toInt ≤ 3) ∧ (∀ k : Nat, k < 4 → 0 ≤ (σ13 68 k).toInt ∧ (σ13 68 k).toInt ≤ 3) := id I17
  have z26 : (σ13 55 10).toInt = (σ 55 10).toInt := (congrArg Int32.toInt (show σ13 55 10 = (σ 55 10) from (f16 10 (by decide))))
  have z27 : (σ13 55 12).toInt = (σ 55 12).toInt := (congrArg Int32.toInt (show σ13 55 12 = (σ 55 12) from (f16 12 (by decide))))
  obtain ⟨k28, k29, k30, h13⟩ := h13
  refine lv_aload_n hx hb dX12_costOf_5 rfl (lv_at hl 0 rfl) ?_
  refine jcallVv (As := []) (rest := []) ⟨hx, hb, hml, hown, hts⟩ hK hP hA hS hZ (c_X12_forgets l D cI cL ad zz hJ σ13 τ) cw_RX12_341 (jc_55 cI cL ad σ13 τ) rfl ⟨Nat.le_of_ble_eq_true rfl, Nat.le_of_ble_eq_true rfl⟩ rfl rfl rfl hl.1 rfl (Nat.le_of_ble_eq_true rfl) dX12_costOf_6 ⟨Nat.zero_le _, Nat.zero_le _⟩ (fun σ31 τ31 H locs h31 hP hS => ?_)
  obtain ⟨rfl, f33, f34, h31⟩ := h31
  refine lv_aload_n hx hb dX12_costOf_9 rfl (lv_at hl 0 rfl) ?_
  have I36 : jI102 σ31 := jI102_fr ((f34 6 (by decide)).trans (f16 6 (by decide))) ((f33 60 (by decide)).trans (f15 60 (by decide))) ((f33 61 (by decide)).trans (f15 61 (by decide))) hI102
  have I37 : jI104 σ31 := jI104_fr ((f34 10 (by decide)).trans (f16 10 (by decide))) ((f34 12 (by decide)).trans (f16 12 (by decide))) ((f34 13 (by decide)).trans (f16 13 (by decide))) ((f33 62 (by decide)).trans (f15 62 (by decide))) ((f33 67 (by decide)).trans (f15 67 (by decide))) hI104
  have I38 : jI120 σ31 := jI120_fr (f34 10 (by decide)) (f34 12 (by decide)) (f34 25 (by decide)) (f34 26 (by decide)) (f34 27 (by decide)) (f33 68 (by decide)) I17
  have z39 : (σ31 55 25).toInt = (σ13 55 25).toInt := (congrArg Int32.toInt (show σ31 55 25 = (σ13 55 25) from (f34 25 (by decide))))
  have z40 : (σ31 55 10).toInt = (σ 55 10).toInt := (congrArg Int32.toInt (show σ31 55 10 = (σ 55 10) from ((f34 10 (by decide)).trans (f16 10 (by decide)))))
  have z41 : (σ31 55 26).toInt = (σ13 55 26).toInt := (congrArg Int32.toInt (show σ31 55 26 = (σ13 55 26) from (f34 26 (by decide))))
  have z42 : (σ31 55 12).toInt = (σ 55 12).toInt := (congrArg Int32.toInt (show σ31 55 12 = (σ 55 12) from ((f34 12 (by decide)).trans (f16 12 (by decide)))))
  refine jcallV (As := []) (rest := []) ⟨hx, hb, hml, hown, hts⟩ hK hP hA hS hZ (c_X12_isEnded l D cI cL ad zz hJ σ31 τ I36 I37 I38) cw_RX12_307 (jc_55 cI cL ad σ31 τ) rfl ⟨Nat.le_of_ble_eq_true rfl, Nat.le_of_ble_eq_true rfl⟩ rfl rfl rfl hl.1 rfl (Nat.le_of_ble_eq_true rfl) dX12_costOf_10 ⟨Nat.zero_le _, Nat.zero_le _⟩ (fun r44 σ43 τ43 H locs h43 hP hS => ?_)
  obtain ⟨⟨rfl, rfl⟩, h43⟩ := h43
  rcases h43 with h45 | h46
  · obtain ⟨q48, k47⟩ := h45
    have q48 := q48.symm
    subst q48
    refine lv_if_eq (tgt := 20) hx hb dX12_costOf_13 (by decide) (fun c => absurd c (by decide)) (fun _ => ?_)
    refine lv_iconst (v := 0) hx hb dX12_costOf_16 (by decide) ?_
    refine lv_goto (tgt := 24) hx hb dX12_costOf_17 (by decide) ?_
    refine lv_istore_n (lv' := [(2, .int 0), (0, .ref (ad 55)), (1, .int a1)]) hx hb dX12_costOf_24 rfl hl (by decide) rfl (fun ls hl => ?_)
    refine lv_aload_n hx hb dX12_costOf_25 rfl (lv_at hl 1 rfl) ?_
    refine lv_aload_n hx hb dX12_costOf_26 rfl (lv_at hl 1 rfl) ?_
    refine va_get (D := D) hx hb hts inlX12 hown hK hP 55 (jc_55 cI cL ad σ31 τ) rfl 48 (by decide) (hts _ kw_8_5) (fun _ h9 => h9) rfl dX12_costOf_27 ?_
    refine lv_iload_n hx hb dX12_costOf_30 rfl (lv_at hl 2 rfl) ?_
    refine jald hx hb hK hP (jc_80 cI cL ad σ31 τ) (jin t1 (by omega) (by omega)) dX12_costOf_31 ?_
    have w49 : ∀ k : Nat, k < 12 → 0 ≤ (σ31 80 k).toInt ∧ (σ31 80 k).toInt ≤ 3 := (jrr_fr (f33 80 (by decide)) (jrr_fr (f15 80 (by decide)) w11))
    have g50 := w49 _ (jnat (x := a1) t1 (n := 12) (by omega) (by decide))
    refine lv_topi (fun x51 ex51 => ?_)
    rw [← ex51] at g50
    have I52 : jI101 σ31 := jI101_fr ((f34 4 (by decide)).trans (f16 4 (by decide))) ((f34 5 (by decide)).trans (f16 5 (by decide))) ((f33 56 (by decide)).trans (f15 56 (by decide))) ((f33 57 (by decide)).trans (f15 57 (by decide))) ((f33 58 (by decide)).trans (f15 58 (by decide))) ((f33 59 (by decide)).trans (f15 59 (by decide))) hI101
    have I53 : jI103 σ31 := jI103_fr ((f34 9 (by decide)).trans (f16 9 (by decide))) hI103
    have I54 : jI105 σ31 := jI105_fr ((f34 15 (by decide)).trans (f16 15 (by decide))) ((f33 65 (by decide)).trans (f15 65 (by decide))) hI105
    have I55 : jI106 σ31 := jI106_fr ((f34 32 (by decide)).trans (f16 32 (by decide))) ((f33 70 (by decide)).trans (f15 70 (by decide))) ((f33 71 (by decide)).trans (f15 71 (by decide))) ((f33 72 (by decide)).trans (f15 72 (by decide))) hI106
    have p56 : jKept σ31 := jKept.fr ((f33 75 (by decide)).trans (f15 75 (by decide))) ((f33 76 (by decide)).trans (f15 76 (by decide))) ((f33 77 (by decide)).trans (f15 77 (by decide))) hs_jKept
    refine jcallV (As := [.int x51]) (rest := []) ⟨hx, hb, hml, hown, hts⟩ hK hP hA hS hZ ((c_X12_bests l D cI cL ad zz hJ 8).1 σ31 τ x51 (x51.toInt) rfl I52 I36 I53 I37 I54 I55 I38 p56 (by omega) (by omega) (by omega) (by omega)) cw_RX12_318 (jc_55 cI cL ad σ31 τ) rfl ⟨Nat.le_of_ble_eq_true rfl, Nat.le_of_ble_eq_true rfl⟩ rfl rfl rfl hl.1 rfl (Nat.le_of_ble_eq_true rfl) dX12_costOf_32 ⟨Nat.zero_le _, Nat.zero_le _⟩ (fun r58 σ57 τ57 H locs h57 hP hS => ?_)
    obtain ⟨rfl, f59, f60, p61, h57⟩ := h57
    have h63 := h57
    obtain ⟨q65, k64⟩ := h63
    refine lv_iload_n hx hb dX12_costOf_35 rfl (lv_at hl 0 rfl) ?_
    refine lv_isub hx hb dX12_costOf_36 ?_
    refine jtopr (y := r58) (by rw [Int32.sub_zero]) ?_
    have w66 : ∀ k : Nat, k < 4 → 0 ≤ (σ57 68 k).toInt ∧ (σ57 68 k).toInt ≤ 3 := (jrr_fr (f59 68 (by decide)) (jrr_fr (f33 68 (by decide)) w25))
    have I67 : jI119 σ57 := w66
    have p68 : jBook σ57 := jBook.fr ((f60 47 (by decide)).trans (f34 47 (by decide))) ((f60 10 (by decide)).trans (f34 10 (by decide))) ((f59 81 (by decide)).trans (f33 81 (by decide))) p18
    exact hret r58 σ57 τ _ _ _ _ rfl ⟨rfl, (fun i hi => ((f59 i (imp_258 i hi)).trans ((f33 i (imp_259 i hi)).trans (f15 i (imp_256 i hi))))), (fun i hi => ((f60 i (imp_260 i hi)).trans ((f34 i (imp_261 i hi)).trans (f16 i (imp_257 i hi))))), I67, p61, p68, trivial⟩ hP hS dX12_costOf_37
  · obtain ⟨q72, k69, k70, k71⟩ := h46
    have q72 := q72.symm
    subst q72
    obtain ⟨B73, k74, k75, w76⟩ := k71
    have z77 : (σ31 55 6).toInt = (σ 55 6).toInt := (congrArg Int32.toInt (show σ31 55 6 = (σ 55 6) from ((f34 6 (by decide)).trans (f16 6 (by decide)))))
    refine lv_if_eq (tgt := 20) hx hb dX12_costOf_13 (by decide) (fun _ => ?_) (fun c => absurd (by decide) c)
    refine lv_aload_n hx hb dX12_costOf_20 rfl (lv_at hl 0 rfl) ?_
    have p78 : jmb σ31 B73 = 1 := (jmb_fr rfl rfl rfl rfl rfl B73).trans w76
    have I79 : jI101 σ31 := jI101_fr ((f34 4 (by decide)).trans (f16 4 (by decide))) ((f34 5 (by decide)).trans (f16 5 (by decide))) ((f33 56 (by decide)).trans (f15 56 (by decide))) ((f33 57 (by decide)).trans (f15 57 (by decide))) ((f33 58 (by decide)).trans (f15 58 (by decide))) ((f33 59 (by decide)).trans (f15 59 (by decide))) hI101
    have I80 : jI103 σ31 := jI103_fr ((f34 9 (by decide)).trans (f16 9 (by decide))) hI103
    have I81 : jI105 σ31 := jI105_fr ((f34 15 (by decide)).trans (f16 15 (by decide))) ((f33 65 (by decide)).trans (f15 65 (by decide))) hI105
    have I82 : jI106 σ31 := jI106_fr ((f34 32 (by decide)).trans (f16 32 (by decide))) ((f33 70 (by decide)).trans (f15 70 (by decide))) ((f33 71 (by decide)).trans (f15 71 (by decide))) ((f33 72 (by decide)).trans (f15 72 (by decide))) hI106
    have p83 : jKept σ31 := jKept.fr ((f33 75 (by decide)).trans (f15 75 (by decide))) ((f33 76 (by decide)).trans (f15 76 (by decide))) ((f33 77 (by decide)).trans (f15 77 (by decide))) hs_jKept
    refine jcallV (As := []) (rest := []) ⟨hx, hb, hml, hown, hts⟩ hK hP hA hS hZ ((c_X12_bests l D cI cL ad zz hJ 8).2.2 σ31 τ B73 p78 I79 I36 I80 I37 I81 I82 I38 p83 (by omega) (by omega) (by omega) (by omega)) cw_RX12_280 (jc_55 cI cL ad σ31 τ) rfl ⟨Nat.le_of_ble_eq_true rfl, Nat.le_of_ble_eq_true rfl⟩ rfl rfl rfl hl.1 rfl (Nat.le_of_ble_eq_true rfl) dX12_costOf_21 ⟨Nat.zero_le _, Nat.zero_le _⟩ (fun r85 σ84 τ84 H locs h84 hP hS => ?_)
    obtain ⟨rfl, f86, f87, p88, h84⟩ := h84
    obtain ⟨k90, h84⟩ := h84
    have h91 := h84
    obtain ⟨q93, k92⟩ := h91
    refine lv_istore_n (lv' := [(2, .int r85), (0, .ref (ad 55)), (1, .int a1)]) hx hb dX12_costOf_24 rfl hl (by decide) rfl (fun ls hl => ?_)
    refine lv_aload_n hx hb dX12_costOf_25 rfl (lv_at hl 1 rfl) ?_
    refine lv_aload_n hx hb dX12_costOf_26 rfl (lv_at hl 1 rfl) ?_
    refine va_get (D := D) hx hb hts inlX12 hown hK hP 55 (jc_55 cI cL ad σ84 τ) rfl 48 (by decide) (hts _ kw_8_5) (fun _ h9 => h9) rfl dX12_costOf_27 ?_
    refine lv_iload_n hx hb dX12_costOf_30 rfl (lv_at hl 2 rfl) ?_
    refine jald hx hb hK hP (jc_80 cI cL ad σ84 τ) (jin t1 (by omega) (by omega)) dX12_costOf_31 ?_
    have w94 : ∀ k : Nat, k < 12 → 0 ≤ (σ84 80 k).toInt ∧ (σ84 80 k).toInt ≤ 3 := (jrr_fr (f86 80 (by decide)) (jrr_fr (f33 80 (by decide)) (jrr_fr (f15 80 (by decide)) w11)))
    have g95 := w94 _ (jnat (x := a1) t1 (n := 12) (by omega) (by decide))
    refine lv_topi (fun x96 ex96 => ?_)
    rw [← ex96] at g95
    have I97 : jI101 σ84 := jI101_fr (f87 4 (by decide)) (f87 5 (by decide)) (f86 56 (by decide)) (f86 57 (by decide)) (f86 58 (by decide)) (f86 59 (by decide)) I79
    have I98 : jI102 σ84 := jI102_fr (f87 6 (by decide)) (f86 60 (by decide)) (f86 61 (by decide)) I36
    have I99 : jI103 σ84 := jI103_fr (f87 9 (by decide)) I80
    have I100 : jI104 σ84 := jI104_fr (f87 10 (by decide)) (f87 12 (by decide)) (f87 13 (by decide)) (f86 62 (by decide)) (f86 67 (by decide)) I37
    have I101 : jI105 σ84 := jI105_fr (f87 15 (by decide)) (f86 65 (by decide)) I81
    have I102 : jI106 σ84 := jI106_fr (f87 32 (by decide)) (f86 70 (by decide)) (f86 71 (by decide)) (f86 72 (by decide)) I82
    have I103 : jI120 σ84 := jI120_fr (f87 10 (by decide)) (f87 12 (by decide)) (f87 25 (by decide)) (f87 26 (by decide)) (f87 27 (by decide)) (f86 68 (by decide)) I38
    have z104 : (σ84 55 25).toInt = (σ13 55 25).toInt := (congrArg Int32.toInt (show σ84 55 25 = (σ13 55 25) from ((f87 25 (by decide)).trans (f34 25 (by decide)))))
    have z105 : (σ84 55 10).toInt = (σ 55 10).toInt := (congrArg Int32.toInt (show σ84 55 10 = (σ 55 10) from ((f87 10 (by decide)).trans ((f34 10 (by decide)).trans (f16 10 (by decide))))))
    have z106 : (σ84 55 26).toInt = (σ13 55 26).toInt := (congrArg Int32.toInt (show σ84 55 26 = (σ13 55 26) from ((f87 26 (by decide)).trans (f34 26 (by decide)))))
    have z107 : (σ84 55 12).toInt = (σ 55 12).toInt := (congrArg Int32.toInt (show σ84 55 12 = (σ 55 12) from ((f87 12 (by decide)).trans ((f34 12 (by decide)).trans (f16 12 (by decide))))))
    refine jcallV (As := [.int x96]) (rest := []) ⟨hx, hb, hml, hown, hts⟩ hK hP hA hS hZ ((c_X12_bests l D cI cL ad zz hJ 8).1 σ84 τ x96 (x96.toInt) rfl I97 I98 I99 I100 I101 I102 I103 p88 (by omega) (by omega) (by omega) (by omega)) cw_RX12_318 (jc_55 cI cL ad σ84 τ) rfl ⟨Nat.le_of_ble_eq_true rfl, Nat.le_of_ble_eq_true rfl⟩ rfl rfl rfl hl.1 rfl (Nat.le_of_ble_eq_true rfl) dX12_costOf_32 ⟨Nat.zero_le _, Nat.zero_le _⟩ (fun r109 σ108 τ108 H locs h108 hP hS => ?_)
    obtain ⟨rfl, f110, f111, p112, h108⟩ := h108
    have h114 := h108
    obtain ⟨q116, k115⟩ := h114
    refine lv_iload_n hx hb dX12_costOf_35 rfl (lv_at hl 0 rfl) ?_
    have g117 := jrg (rfl : r109.toInt = r109.toInt)
    have g118 := jrg (rfl : r85.toInt = r85.toInt)
    refine lv_isub hx hb dX12_costOf_36 ?_
    refine lv_topi (fun x119 ex119 => ?_)
    have tx119 : x119.toInt = r109.toInt - r85.toInt := (jsub ex119 rfl rfl (by omega) (by omega)).trans (by omega)
    have w120 : ∀ k : Nat, k < 4 → 0 ≤ (σ108 68 k).toInt ∧ (σ108 68 k).toInt ≤ 3 := (jrr_fr (f110 68 (by decide)) (jrr_fr (f86 68 (by decide)) (jrr_fr (f33 68 (by decide)) w25)))
    have I121 : jI119 σ108 := w120
    have p122 : jBook σ108 := jBook.fr ((f111 47 (by decide)).trans ((f87 47 (by decide)).trans (f34 47 (by decide)))) ((f111 10 (by decide)).trans ((f87 10 (by decide)).trans (f34 10 (by decide)))) ((f110 81 (by decide)).trans ((f86 81 (by decide)).trans (f33 81 (by decide)))) p18
    exact hret x119 σ108 τ _ _ _ _ rfl ⟨rfl, (fun i hi => ((f110 i (imp_258 i hi)).trans ((f86 i (imp_258 i hi)).trans ((f33 i (imp_259 i hi)).trans (f15 i (imp_256 i hi)))))), (fun i hi => ((f111 i (imp_260 i hi)).trans ((f87 i (imp_260 i hi)).trans ((f34 i (imp_261 i hi)).trans (f16 i (imp_257 i hi)))))), I121, p112, p122, trivial⟩ hP hS dX12_costOf_37
