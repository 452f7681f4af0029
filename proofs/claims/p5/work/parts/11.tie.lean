

set_option maxHeartbeats 4000000 in
set_option maxRecDepth 100000 in
theorem c_X11_set_t (l : Launch) (D : va_G) (cI cL : ClassId) (ad zz : Nat → Nat) (hJ : jD ad) (σ : Nat → Nat → Int32) (τ : Nat → Nat → Int64) (a1 : Int32) (A1 : Int) (t1 : a1.toInt = A1) (hI2 : jI2 σ) : jM l yX11_set cX11_set 3 (some .int) ({ frames := 1, cells := 0, slots := 0, locals := 22 }) D cI cL ad zz [.ref (ad 0), .int a1] σ τ (fun r σ' τ' => τ = τ' ∧ (∀ i : Nat, (i < 2 ∨ 2 < i) → σ' i = σ i) ∧ (∀ k : Nat, (k < 1 ∨ 1 < k) → σ' 2 k = σ 2 k) ∧ (jI2 σ') ∧ ((True ∧ (0 ≤ A1 ∧ A1 ≤ 3) ∧ (r.toInt = (σ 2 1).toInt) ∧ ((σ' 2 1).toInt = A1)) ∨ (r = (-1) ∧ ((A1 < 0) ∨ (3 < A1)) ∧ ((σ' 2 1).toInt = (σ 2 1).toInt)))) := by
  refine jM.of hJ (by decide +kernel) (nt := .int) rfl (Nat.le_of_ble_eq_true rfl) ?_
  intro p e s m args below meth c Q ls hC hret hl hP
  obtain ⟨hx, hb, hr, hml, hown, hts, hK, -, hlocks, hZ⟩ := hC
  have hown : s.vm.findClass RX11 = some m.cls := hown
  have hS : va_S (jA ad) s.heap s.heap [] := va_S.rf
  have hA : ∀ q, jA ad q → jA ad q := fun _ h => h
  have hl : lv_has ls 3 [(0, .ref (ad 0)), (1, .int a1)] := hl
  have g1 := jrg t1
  obtain ⟨i1, i2, i3, i4, i5, w6⟩ : (0 ≤ (σ 2 0).toInt ∧ (σ 2 0).toInt ≤ 4) ∧ (0 ≤ (σ 2 1).toInt ∧ (σ 2 1).toInt ≤ 3) ∧ (0 ≤ (σ 2 2).toInt) ∧ (0 ≤ (σ 2 3).toInt) ∧ ((σ 2 2).toInt + (σ 2 3).toInt ≤ 40) ∧ (∀ k : Nat, k < 40 → 0 ≤ (σ 6 k).toInt ∧ (σ 6 k).toInt ≤ 67) := id hI2
  refine lv_iload_n hx hb dX11_set_0 rfl (lv_at hl 1 rfl) ?_
  refine lv_iconst (v := 0) hx hb dX11_set_1 (by decide) ?_
  refine lv_iconst (v := 3) hx hb dX11_set_2 (by decide) ?_
  refine jcallS (As := [.int a1, .int 0, .int 3]) (rest := []) ⟨hx, hb, hml, hown, hts⟩ hK hP hA hS hZ (c_X11_outside l D cI cL ad zz hJ σ τ a1 (A1) t1 0 (0) jz_0 3 (3) jz_3) cw_RX11_94 ⟨Nat.le_of_ble_eq_true rfl, Nat.le_of_ble_eq_true rfl⟩ rfl rfl rfl hl.1 rfl (Nat.le_of_ble_eq_true rfl) dX11_set_3 ⟨Nat.zero_le _, Nat.zero_le _⟩ (fun r8 σ7 τ7 H locs h7 hP hS => ?_)
  obtain ⟨⟨rfl, rfl⟩, h7⟩ := h7
  rcases h7 with h9 | h10
  · obtain ⟨q12, k11⟩ := h9
    have q12 := q12.symm
    subst q12
    refine lv_if_eq (tgt := 11) hx hb dX11_set_6 (by decide) (fun c => absurd c (by decide)) (fun _ => ?_)
    refine lv_iconst (v := (-1)) hx hb dX11_set_9 (by decide) ?_
    exact hret (-1) σ τ _ _ _ _ rfl ⟨rfl, (fun _ _ => rfl), (fun _ _ => rfl), hI2, Or.inr (⟨rfl, (by have h9 := jz_m1; omega), (by have h9 := jz_m1; omega)⟩)⟩ hP hS dX11_set_10
  · obtain ⟨q14, k13⟩ := h10
    have q14 := q14.symm
    subst q14
    refine lv_if_eq (tgt := 11) hx hb dX11_set_6 (by decide) (fun _ => ?_) (fun c => absurd (by decide) c)
    refine lv_aload_n hx hb dX11_set_11 rfl (lv_at hl 0 rfl) ?_
    refine va_get (D := D) hx hb hts inlX11 hown hK hP 0 (jc_0 cI cL ad σ τ) rfl 0 (by decide) (hts _ kw_1_16) (fun _ h9 => h9) rfl dX11_set_12 ?_
    refine va_get (D := D) hx hb hts inlX4 hown hK hP 2 (jc_2 cI cL ad σ τ) rfl 1 (by decide) (hts _ kw_12_8) (fun _ h9 => h9) rfl dX11_set_15 ?_
    refine lv_istore_n (lv' := [(2, .int (σ 2 1)), (0, .ref (ad 0)), (1, .int a1)]) hx hb dX11_set_18 rfl hl (by decide) rfl (fun ls hl => ?_)
    refine lv_aload_n hx hb dX11_set_19 rfl (lv_at hl 1 rfl) ?_
    refine va_get (D := D) hx hb hts inlX11 hown hK hP 0 (jc_0 cI cL ad σ τ) rfl 0 (by decide) (hts _ kw_1_16) (fun _ h9 => h9) rfl dX11_set_20 ?_
    refine lv_iload_n hx hb dX11_set_23 rfl (lv_at hl 2 rfl) ?_
    refine jput (ty := .int) hx hb hts inlX4 tyX4 tyX4_ok nmX4 hown hK hP hJ hA hS (jc_2 cI cL ad σ τ) rfl (k := 1) (by decide) (Nat.le_of_ble_eq_true rfl) (jp_2_1 cI cL ad σ τ a1) (hts _ kw_12_8) (fun _ h9 => h9) rfl (by decide +kernel) rfl rfl dX11_set_24 (fun σ15 H locs eσ15 hP hS => ?_)
    refine lv_iload_n hx hb dX11_set_27 rfl (lv_at hl 0 rfl) ?_
    have z16 : (σ15 2 0).toInt = (σ 2 0).toInt := (congrArg Int32.toInt (show σ15 2 0 = (σ 2 0) from (jkp 0 eσ15 (by decide))))
    have z17 : (σ15 2 1).toInt = A1 := ((congrArg Int32.toInt (show σ15 2 1 = a1 from (jsp eσ15))).trans t1)
    have z18 : (σ15 2 2).toInt = (σ 2 2).toInt := (congrArg Int32.toInt (show σ15 2 2 = (σ 2 2) from (jkp 2 eσ15 (by decide))))
    have z19 : (σ15 2 3).toInt = (σ 2 3).toInt := (congrArg Int32.toInt (show σ15 2 3 = (σ 2 3) from (jkp 3 eσ15 (by decide))))
    have w20 : ∀ k : Nat, k < 40 → 0 ≤ (σ15 6 k).toInt ∧ (σ15 6 k).toInt ≤ 67 := (jrr_fr (jnp 6 eσ15 (by decide)) w6)
    have I21 : jI2 σ15 := ⟨(by omega), (by omega), (by omega), (by omega), (by omega), w20⟩
    exact hret (σ 2 1) σ15 τ _ _ _ _ rfl ⟨rfl, (fun i hi => (jnp i eσ15 (imp_9 i hi))), (fun i hi => (jkp i eσ15 (imp_44 i hi))), I21, Or.inl ⟨trivial, (by omega), (by omega), (by omega)⟩⟩ hP hS dX11_set_28
set_option maxHeartbeats 4000000 in
set_option maxRecDepth 100000 in
theorem c_X12_set_t (l : Launch) (D : va_G) (cI cL : ClassId) (ad zz : Nat → Nat) (hJ : jD ad) (σ : Nat → Nat → Int32) (τ : Nat → Nat → Int64) (a1 : Int32) (A1 : Int) (t1 : a1.toInt = A1) (hI103 : jI103 σ) : jM l yX12_set cX12_set 3 (some .int) ({ frames := 1, cells := 0, slots := 0, locals := 25 }) D cI cL ad zz [.ref (ad 55), .int a1] σ τ (fun r σ' τ' => τ = τ' ∧ (∀ i : Nat, (i < 55 ∨ 55 < i) → σ' i = σ i) ∧ (∀ k : Nat, (k < 9 ∨ 9 < k) → σ' 55 k = σ 55 k) ∧ (jI103 σ') ∧ ((True ∧ (0 ≤ A1 ∧ A1 ≤ 3) ∧ (r.toInt = (σ 55 9).toInt) ∧ ((σ' 55 9).toInt = A1)) ∨ (r = (-1) ∧ ((A1 < 0) ∨ (3 < A1)) ∧ ((σ' 55 9).toInt = (σ 55 9).toInt)))) := by
  refine jM.of hJ (by decide +kernel) (nt := .int) rfl (Nat.le_of_ble_eq_true rfl) ?_
  intro p e s m args below meth c Q ls hC hret hl hP
  obtain ⟨hx, hb, hr, hml, hown, hts, hK, -, hlocks, hZ⟩ := hC
  have hown : s.vm.findClass RX12 = some m.cls := hown
  have hS : va_S (jA ad) s.heap s.heap [] := va_S.rf
  have hA : ∀ q, jA ad q → jA ad q := fun _ h => h
  have hl : lv_has ls 3 [(0, .ref (ad 55)), (1, .int a1)] := hl
  have g1 := jrg t1
  have i1 : 0 ≤ (σ 55 9).toInt ∧ (σ 55 9).toInt ≤ 3 := hI103
  refine lv_iload_n hx hb dX12_set_0 rfl (lv_at hl 1 rfl) ?_
  refine lv_i2l (v := a1.toInt64) hx hb dX12_set_1 rfl ?_
  refine lv_lconst (v := 0) hx hb dX12_set_2 (by decide) ?_
  refine lv_ldc2 (v := 3) hx hb hown (hts _ kw_12_13) dX12_set_3 ?_
  refine jcallS (As := [.long a1.toInt64, .long 0, .long 3]) (rest := []) ⟨hx, hb, hml, hown, hts⟩ hK hP hA hS hZ (c_X12_within l D cI cL ad zz hJ σ τ a1.toInt64 (A1) (jtoL t1) 0 (0) jzl_0 3 (3) jzl_3) cw_RX12_136 ⟨Nat.le_of_ble_eq_true rfl, Nat.le_of_ble_eq_true rfl⟩ rfl rfl rfl hl.1 rfl (Nat.le_of_ble_eq_true rfl) dX12_set_6 ⟨Nat.zero_le _, Nat.zero_le _⟩ (fun r3 σ2 τ2 H locs h2 hP hS => ?_)
  obtain ⟨⟨rfl, rfl⟩, h2⟩ := h2
  rcases h2 with h4 | h5
  · obtain ⟨q7, k6⟩ := h4
    have q7 := q7.symm
    subst q7
    refine lv_if_ne (tgt := 14) hx hb dX12_set_9 (by decide) (fun _ => ?_) (fun c => absurd c (by decide))
    refine lv_aload_n hx hb dX12_set_14 rfl (lv_at hl 0 rfl) ?_
    refine va_get (D := D) hx hb hts inlX12 hown hK hP 55 (jc_55 cI cL ad σ τ) rfl 9 (by decide) (hts _ kw_12_14) (fun _ h9 => h9) rfl dX12_set_15 ?_
    refine lv_istore_n (lv' := [(2, .int (σ 55 9)), (0, .ref (ad 55)), (1, .int a1)]) hx hb dX12_set_18 rfl hl (by decide) rfl (fun ls hl => ?_)
    refine lv_aload_n hx hb dX12_set_19 rfl (lv_at hl 1 rfl) ?_
    refine lv_iload_n hx hb dX12_set_20 rfl (lv_at hl 2 rfl) ?_
    refine jput (ty := .int) hx hb hts inlX12 tyX12 tyX12_ok nmX12 hown hK hP hJ hA hS (jc_55 cI cL ad σ τ) rfl (k := 9) (by decide) (Nat.le_of_ble_eq_true rfl) (jp_55_9 cI cL ad σ τ a1) (hts _ kw_12_14) (fun _ h9 => h9) rfl (by decide +kernel) rfl rfl dX12_set_21 (fun σ8 H locs eσ8 hP hS => ?_)
    refine lv_iload_n hx hb dX12_set_24 rfl (lv_at hl 0 rfl) ?_
    have z9 : (σ8 55 9).toInt = A1 := ((congrArg Int32.toInt (show σ8 55 9 = a1 from (jsp eσ8))).trans t1)
    have I10 : jI103 σ8 := (show 0 ≤ (σ8 55 9).toInt ∧ (σ8 55 9).toInt ≤ 3 by omega)
    exact hret (σ 55 9) σ8 τ _ _ _ _ rfl ⟨rfl, (fun i hi => (jnp i eσ8 (imp_166 i hi))), (fun i hi => (jkp i eσ8 (imp_39 i hi))), I10, Or.inl ⟨trivial, (by omega), (by omega), (by omega)⟩⟩ hP hS dX12_set_25
  · obtain ⟨q12, k11⟩ := h5
    have q12 := q12.symm
    subst q12
    refine lv_if_ne (tgt := 14) hx hb dX12_set_9 (by decide) (fun c => absurd (by decide) c) (fun _ => ?_)
    refine lv_iconst (v := (-1)) hx hb dX12_set_12 (by decide) ?_
    exact hret (-1) σ τ _ _ _ _ rfl ⟨rfl, (fun _ _ => rfl), (fun _ _ => rfl), hI103, Or.inr (⟨rfl, (by have h9 := jz_m1; omega), (by have h9 := jz_m1; omega)⟩)⟩ hP hS dX12_set_13
