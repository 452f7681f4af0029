set_option maxHeartbeats 4000000 in
set_option maxRecDepth 100000 in
theorem c_X10_begin_12 (l : Launch) (D : va_G) (cI cL : ClassId) (ad zz : Nat → Nat) (hJ : jD ad) (σ : Nat → Nat → Int32) (τ : Nat → Nat → Int64) (hw13 : ∀ k : Nat, k < 160 → 0 ≤ (σ 13 k).toInt ∧ (σ 13 k).toInt ≤ 30000) : jMv l yX10_begin cX10_begin 1 none ({ frames := 0, cells := 0, slots := 0, locals := 0 }) D cI cL ad zz [.ref (ad 12)] σ τ (fun σ' τ' => τ = τ' ∧ (∀ i : Nat, (i < 12 ∨ 12 < i) → σ' i = σ i) ∧ (∀ k : Nat, (k < 0 ∨ 0 < k) ∧ (k < 1 ∨ 1 < k) → σ' 12 k = σ 12 k) ∧ (jI12 σ') ∧ True) := by
  refine jMv.of hJ (by decide +kernel) rfl (Nat.le_of_ble_eq_true rfl) ?_
  intro p e s m args below meth c Q ls hC hret hl hP
  obtain ⟨hx, hb, hr, hml, hown, hts, hK, -, hlocks, hZ⟩ := hC
  have hown : s.vm.findClass RX10 = some m.cls := hown
  have hS : va_S (jA ad) s.heap s.heap [] := va_S.rf
  have hA : ∀ q, jA ad q → jA ad q := fun _ h => h
  have hl : lv_has ls 1 [(0, .ref (ad 12))] := hl
  refine lv_aload_n hx hb dX10_begin_0 rfl (lv_at hl 0 rfl) ?_
  refine lv_iconst (v := 0) hx hb dX10_begin_1 (by decide) ?_
  refine jput (ty := .int) hx hb hts inlX10 tyX10 tyX10_ok nmX10 hown hK hP hJ hA hS (jc_12 cI cL ad σ τ) rfl (k := 0) (by decide) (Nat.le_of_ble_eq_true rfl) (jp_12_0 cI cL ad σ τ 0) (hts _ kw_16_20) (fun _ h9 => h9) rfl (by decide +kernel) rfl rfl dX10_begin_2 (fun σ1 H locs eσ1 hP hS => ?_)
  refine lv_aload_n hx hb dX10_begin_5 rfl (lv_at hl 0 rfl) ?_
  refine lv_iconst (v := 0) hx hb dX10_begin_6 (by decide) ?_
  refine jput (ty := .int) hx hb hts inlX10 tyX10 tyX10_ok nmX10 hown hK hP hJ hA hS (jc_12 cI cL ad σ1 τ) rfl (k := 1) (by decide) (Nat.le_of_ble_eq_true rfl) (jp_12_1 cI cL ad σ1 τ 0) (hts _ kw_16_21) (fun _ h9 => h9) rfl (by decide +kernel) rfl rfl dX10_begin_7 (fun σ2 H locs eσ2 hP hS => ?_)
  have z3 : (σ2 12 0).toInt = 0 := ((congrArg Int32.toInt (show σ2 12 0 = 0 from ((jkp 0 eσ2 (by decide)).trans (jsp eσ1)))).trans jz_0)
  have w4 : ∀ k : Nat, k < 160 → 0 ≤ (σ2 13 k).toInt ∧ (σ2 13 k).toInt ≤ 30000 := (jrr_fr (jnp 13 eσ2 (by decide)) (jrr_fr (jnp 13 eσ1 (by decide)) hw13))
  have I5 : jI12 σ2 := ⟨(by omega), w4⟩
  exact hret σ2 τ _ _ _ _ ⟨rfl, (fun i hi => ((jnp i eσ2 (imp_24 i hi)).trans (jnp i eσ1 (imp_24 i hi)))), (fun i hi => ((jkp i eσ2 (imp_25 i hi)).trans (jkp i eσ1 (imp_26 i hi)))), I5, trivial⟩ hP hS dX10_begin_10
set_option maxHeartbeats 4000000 in
set_option maxRecDepth 100000 in
theorem c_X10_add_12 (l : Launch) (D : va_G) (cI cL : ClassId) (ad zz : Nat → Nat) (hJ : jD ad) (σ : Nat → Nat → Int32) (τ : Nat → Nat → Int64) (a1 : Int32) (A1 : Int) (t1 : a1.toInt = A1) (hI12 : jI12 σ) (hp0 : 0 ≤ A1 ∧ A1 ≤ 30000) : jMv l yX10_add cX10_add 2 none ({ frames := 0, cells := 0, slots := 0, locals := 0 }) D cI cL ad zz [.ref (ad 12), .int a1] σ τ (fun σ' τ' => τ = τ' ∧ (∀ i : Nat, (i < 12 ∨ 13 < i) → σ' i = σ i) ∧ (∀ k : Nat, (k < 0 ∨ 0 < k) ∧ (k < 1 ∨ 1 < k) → σ' 12 k = σ 12 k) ∧ (jI12 σ') ∧ True) := by
  refine jMv.of hJ (by decide +kernel) rfl (Nat.le_of_ble_eq_true rfl) ?_
  intro p e s m args below meth c Q ls hC hret hl hP
  obtain ⟨hx, hb, hr, hml, hown, hts, hK, -, hlocks, hZ⟩ := hC
  have hown : s.vm.findClass RX10 = some m.cls := hown
  have hS : va_S (jA ad) s.heap s.heap [] := va_S.rf
  have hA : ∀ q, jA ad q → jA ad q := fun _ h => h
  have hl : lv_has ls 2 [(0, .ref (ad 12)), (1, .int a1)] := hl
  have g1 := jrg t1
  obtain ⟨i1, w2⟩ : (0 ≤ (σ 12 0).toInt ∧ (σ 12 0).toInt ≤ 160) ∧ (∀ k : Nat, k < 160 → 0 ≤ (σ 13 k).toInt ∧ (σ 13 k).toInt ≤ 30000) := id hI12
  refine lv_aload_n hx hb dX10_add_0 rfl (lv_at hl 0 rfl) ?_
  refine va_get (D := D) hx hb hts inlX10 hown hK hP 12 (jc_12 cI cL ad σ τ) rfl 0 (by decide) (hts _ kw_16_20) (fun _ h9 => h9) rfl dX10_add_1 ?_
  refine lv_sipush (v := 160) hx hb dX10_add_4 (by decide) ?_
  refine lv_icmp_lt (tgt := 11) hx hb dX10_add_7 (by decide) (fun c3 => ?_) (fun c3 => ?_)
  · have kc3 := jlt c3 rfl jz_160
    refine lv_aload_n hx hb dX10_add_11 rfl (lv_at hl 0 rfl) ?_
    refine va_get (D := D) hx hb hts inlX10 hown hK hP 12 (jc_12 cI cL ad σ τ) rfl 2 (by decide) (hts _ kw_4_3) (fun _ h9 => h9) rfl dX10_add_12 ?_
    refine lv_aload_n hx hb dX10_add_15 rfl (lv_at hl 0 rfl) ?_
    refine lv_dup hx hb dX10_add_16 rfl ?_
    refine va_get (D := D) hx hb hts inlX10 hown hK hP 12 (jc_12 cI cL ad σ τ) rfl 0 (by decide) (hts _ kw_16_20) (fun _ h9 => h9) rfl dX10_add_17 ?_
    refine lv_dup_x1 hx hb dX10_add_20 rfl rfl ?_
    refine lv_iconst (v := 1) hx hb dX10_add_21 (by decide) ?_
    have g4 := jrg (rfl : (σ 12 0).toInt = (σ 12 0).toInt)
    refine lv_iadd hx hb dX10_add_22 ?_
    refine lv_topi (fun x5 ex5 => ?_)
    have tx5 : x5.toInt = (σ 12 0).toInt + 1 := (jadd ex5 rfl jz_1 (by omega) (by omega)).trans (by omega)
    refine jput (ty := .int) hx hb hts inlX10 tyX10 tyX10_ok nmX10 hown hK hP hJ hA hS (jc_12 cI cL ad σ τ) rfl (k := 0) (by decide) (Nat.le_of_ble_eq_true rfl) (jp_12_0 cI cL ad σ τ x5) (hts _ kw_16_20) (fun _ h9 => h9) rfl (by decide +kernel) rfl rfl dX10_add_23 (fun σ6 H locs eσ6 hP hS => ?_)
    refine lv_iload_n hx hb dX10_add_26 rfl (lv_at hl 1 rfl) ?_
    refine jast hx hb hK hP hJ hA hS (jc_13 cI cL ad σ6 τ) (ja_13 cI cL ad σ6 τ _ _) (jin rfl (by omega) (by omega)) dX10_add_27 (fun σ7 H locs eσ7 hP hS => ?_)
    refine lv_iload_n hx hb dX10_add_28 rfl (lv_at hl 1 rfl) ?_
    refine lv_sipush (v := 10000) hx hb dX10_add_29 (by decide) ?_
    refine lv_icmp_lt (tgt := 58) hx hb dX10_add_32 (by decide) (fun c8 => ?_) (fun c8 => ?_)
    · have kc8 := jlt c8 t1 jz_10000
      have z9 : (σ7 12 0).toInt = (σ 12 0).toInt + 1 := ((congrArg Int32.toInt (show σ7 12 0 = x5 from ((congrFun (jnp 12 eσ7 (by decide)) 0).trans (jsp eσ6)))).trans tx5)
      have w10 : ∀ k : Nat, k < 160 → 0 ≤ (σ7 13 k).toInt ∧ (σ7 13 k).toInt ≤ 30000 := (by rw [eσ7]; exact jrr_up (jrr_fr (jnp 13 eσ6 (by decide)) w2) (by have h9 := t1; omega) (by have h9 := t1; omega))
      have I11 : jI12 σ7 := ⟨(by omega), w10⟩
      exact hret σ7 τ _ _ _ _ ⟨rfl, (fun i hi => ((jnp i eσ7 (imp_27 i hi)).trans (jnp i eσ6 (imp_28 i hi)))), (fun i hi => ((congrFun (jnp 12 eσ7 (by decide)) i).trans (jkp i eσ6 (imp_26 i hi)))), I11, trivial⟩ hP hS dX10_add_58
    · have kc8 := jnlt c8 t1 jz_10000
      refine lv_iload_n hx hb dX10_add_35 rfl (lv_at hl 1 rfl) ?_
      refine lv_sipush (v := 10008) hx hb dX10_add_36 (by decide) ?_
      refine lv_icmp_ge (tgt := 58) hx hb dX10_add_39 (by decide) (fun c12 => ?_) (fun c12 => ?_)
      · have kc12 := jle c12 jz_10008 t1
        have z13 : (σ7 12 0).toInt = (σ 12 0).toInt + 1 := ((congrArg Int32.toInt (show σ7 12 0 = x5 from ((congrFun (jnp 12 eσ7 (by decide)) 0).trans (jsp eσ6)))).trans tx5)
        have w14 : ∀ k : Nat, k < 160 → 0 ≤ (σ7 13 k).toInt ∧ (σ7 13 k).toInt ≤ 30000 := (by rw [eσ7]; exact jrr_up (jrr_fr (jnp 13 eσ6 (by decide)) w2) (by have h9 := t1; omega) (by have h9 := t1; omega))
        have I15 : jI12 σ7 := ⟨(by omega), w14⟩
        exact hret σ7 τ _ _ _ _ ⟨rfl, (fun i hi => ((jnp i eσ7 (imp_27 i hi)).trans (jnp i eσ6 (imp_28 i hi)))), (fun i hi => ((congrFun (jnp 12 eσ7 (by decide)) i).trans (jkp i eσ6 (imp_26 i hi)))), I15, trivial⟩ hP hS dX10_add_58
      · have kc12 := jnle c12 jz_10008 t1
        refine lv_aload_n hx hb dX10_add_42 rfl (lv_at hl 0 rfl) ?_
        refine lv_dup hx hb dX10_add_43 rfl ?_
        refine va_get (D := D) hx hb hts inlX10 hown hK hP 12 (jc_12 cI cL ad σ7 τ) rfl 1 (by decide) (hts _ kw_16_21) (fun _ h9 => h9) rfl dX10_add_44 ?_
        have m16 : σ7 12 1 = (σ 12 1) := ((congrFun (jnp 12 eσ7 (by decide)) 1).trans (jkp 1 eσ6 (by decide)))
        refine jtopr m16 ?_
        refine lv_iconst (v := 1) hx hb dX10_add_47 (by decide) ?_
        refine lv_iload_n hx hb dX10_add_48 rfl (lv_at hl 1 rfl) ?_
        refine lv_sipush (v := 10000) hx hb dX10_add_49 (by decide) ?_
        refine lv_isub hx hb dX10_add_52 ?_
        refine lv_topi (fun x17 ex17 => ?_)
        have tx17 : x17.toInt = A1 - 10000 := (jsub ex17 t1 jz_10000 (by omega) (by omega)).trans (by omega)
        refine lv_ishl hx hb dX10_add_53 ?_
        refine lv_topi (fun x18 ex18 => ?_)
        have gx18 := jrg (rfl : x18.toInt = x18.toInt)
        refine lv_ior hx hb dX10_add_54 ?_
        refine lv_topi (fun x19 ex19 => ?_)
        have gx19 := jrg (rfl : x19.toInt = x19.toInt)
        refine jput (ty := .int) hx hb hts inlX10 tyX10 tyX10_ok nmX10 hown hK hP hJ hA hS (jc_12 cI cL ad σ7 τ) rfl (k := 1) (by decide) (Nat.le_of_ble_eq_true rfl) (jp_12_1 cI cL ad σ7 τ x19) (hts _ kw_16_21) (fun _ h9 => h9) rfl (by decide +kernel) rfl rfl dX10_add_55 (fun σ20 H locs eσ20 hP hS => ?_)
        have z21 : (σ20 12 0).toInt = (σ 12 0).toInt + 1 := ((congrArg Int32.toInt (show σ20 12 0 = x5 from ((jkp 0 eσ20 (by decide)).trans ((congrFun (jnp 12 eσ7 (by decide)) 0).trans (jsp eσ6))))).trans tx5)
        have w22 : ∀ k : Nat, k < 160 → 0 ≤ (σ20 13 k).toInt ∧ (σ20 13 k).toInt ≤ 30000 := (jrr_fr (jnp 13 eσ20 (by decide)) (by rw [eσ7]; exact jrr_up (jrr_fr (jnp 13 eσ6 (by decide)) w2) (by have h9 := t1; omega) (by have h9 := t1; omega)))
        have I23 : jI12 σ20 := ⟨(by omega), w22⟩
        exact hret σ20 τ _ _ _ _ ⟨rfl, (fun i hi => ((jnp i eσ20 (imp_28 i hi)).trans ((jnp i eσ7 (imp_27 i hi)).trans (jnp i eσ6 (imp_28 i hi))))), (fun i hi => ((jkp i eσ20 (imp_25 i hi)).trans ((congrFun (jnp 12 eσ7 (by decide)) i).trans (jkp i eσ6 (imp_26 i hi))))), I23, trivial⟩ hP hS dX10_add_58
  · have kc3 := jnlt c3 rfl jz_160
    exact hret σ τ _ _ _ _ ⟨rfl, (fun _ _ => rfl), (fun _ _ => rfl), hI12, trivial⟩ hP hS dX10_add_10
set_option maxHeartbeats 4000000 in
set_option maxRecDepth 100000 in
theorem c_X10_copyFrom_18 (l : Launch) (D : va_G) (cI cL : ClassId) (ad zz : Nat → Nat) (hJ : jD ad) (σ : Nat → Nat → Int32) (τ : Nat → Nat → Int64) (hI12 : jI12 σ) (hI18 : jI18 σ) : jMv l yX10_copyFrom cX10_copyFrom 2 none ({ frames := 1, cells := 0, slots := 0, locals := 40 }) D cI cL ad zz [.ref (ad 18), .ref (ad 12)] σ τ (fun σ' τ' => τ = τ' ∧ (∀ i : Nat, (i < 18 ∨ 19 < i) → σ' i = σ i) ∧ (∀ k : Nat, (k < 0 ∨ 0 < k) ∧ (k < 1 ∨ 1 < k) → σ' 18 k = σ 18 k) ∧ (jI18 σ') ∧ True) := by
  refine jMv.of hJ (by decide +kernel) rfl (Nat.le_of_ble_eq_true rfl) ?_
  intro p e s m args below meth c Q ls hC hret hl hP
  obtain ⟨hx, hb, hr, hml, hown, hts, hK, -, hlocks, hZ⟩ := hC
  have hown : s.vm.findClass RX10 = some m.cls := hown
  have hS : va_S (jA ad) s.heap s.heap [] := va_S.rf
  have hA : ∀ q, jA ad q → jA ad q := fun _ h => h
  have hl : lv_has ls 2 [(0, .ref (ad 18)), (1, .ref (ad 12))] := hl
  obtain ⟨i1, w2⟩ : (0 ≤ (σ 12 0).toInt ∧ (σ 12 0).toInt ≤ 160) ∧ (∀ k : Nat, k < 160 → 0 ≤ (σ 13 k).toInt ∧ (σ 13 k).toInt ≤ 30000) := id hI12
  obtain ⟨i3, w4⟩ : (0 ≤ (σ 18 0).toInt ∧ (σ 18 0).toInt ≤ 160) ∧ (∀ k : Nat, k < 160 → 0 ≤ (σ 19 k).toInt ∧ (σ 19 k).toInt ≤ 30000) := id hI18
  refine lv_aload_n hx hb dX10_copyFrom_0 rfl (lv_at hl 0 rfl) ?_
  refine lv_aload_n hx hb dX10_copyFrom_1 rfl (lv_at hl 1 rfl) ?_
  refine va_get (D := D) hx hb hts inlX10 hown hK hP 12 (jc_12 cI cL ad σ τ) rfl 0 (by decide) (hts _ kw_16_20) (fun _ h9 => h9) rfl dX10_copyFrom_2 ?_
  refine jput (ty := .int) hx hb hts inlX10 tyX10 tyX10_ok nmX10 hown hK hP hJ hA hS (jc_18 cI cL ad σ τ) rfl (k := 0) (by decide) (Nat.le_of_ble_eq_true rfl) (jp_18_0 cI cL ad σ τ (σ 12 0)) (hts _ kw_16_20) (fun _ h9 => h9) rfl (by decide +kernel) rfl rfl dX10_copyFrom_5 (fun σ5 H locs eσ5 hP hS => ?_)
  refine lv_aload_n hx hb dX10_copyFrom_8 rfl (lv_at hl 0 rfl) ?_
  refine lv_aload_n hx hb dX10_copyFrom_9 rfl (lv_at hl 1 rfl) ?_
  refine va_get (D := D) hx hb hts inlX10 hown hK hP 12 (jc_12 cI cL ad σ5 τ) rfl 1 (by decide) (hts _ kw_16_21) (fun _ h9 => h9) rfl dX10_copyFrom_10 ?_
  have m6 : σ5 12 1 = (σ 12 1) := (congrFun (jnp 12 eσ5 (by decide)) 1)
  refine jtopr m6 ?_
  refine jput (ty := .int) hx hb hts inlX10 tyX10 tyX10_ok nmX10 hown hK hP hJ hA hS (jc_18 cI cL ad σ5 τ) rfl (k := 1) (by decide) (Nat.le_of_ble_eq_true rfl) (jp_18_1 cI cL ad σ5 τ (σ 12 1)) (hts _ kw_16_21) (fun _ h9 => h9) rfl (by decide +kernel) rfl rfl dX10_copyFrom_13 (fun σ7 H locs eσ7 hP hS => ?_)
  refine lv_aload_n hx hb dX10_copyFrom_16 rfl (lv_at hl 1 rfl) ?_
  refine va_get (D := D) hx hb hts inlX10 hown hK hP 12 (jc_12 cI cL ad σ7 τ) rfl 2 (by decide) (hts _ kw_4_3) (fun _ h9 => h9) rfl dX10_copyFrom_17 ?_
  refine lv_iconst (v := 0) hx hb dX10_copyFrom_20 (by decide) ?_
  refine lv_aload_n hx hb dX10_copyFrom_21 rfl (lv_at hl 0 rfl) ?_
  refine va_get (D := D) hx hb hts inlX10 hown hK hP 18 (jc_18 cI cL ad σ7 τ) rfl 2 (by decide) (hts _ kw_4_3) (fun _ h9 => h9) rfl dX10_copyFrom_22 ?_
  refine lv_iconst (v := 0) hx hb dX10_copyFrom_25 (by decide) ?_
  refine lv_aload_n hx hb dX10_copyFrom_26 rfl (lv_at hl 0 rfl) ?_
  refine va_get (D := D) hx hb hts inlX10 hown hK hP 18 (jc_18 cI cL ad σ7 τ) rfl 0 (by decide) (hts _ kw_16_20) (fun _ h9 => h9) rfl dX10_copyFrom_27 ?_
  have m8 : σ7 18 0 = (σ 12 0) := ((jkp 0 eσ7 (by decide)).trans (jsp eσ5))
  refine jtopr m8 ?_
  refine jcpyI (q0 := 13) (q1 := 19) hx hb (hml.trans hl.1.symm) hown (hts _ kw_18_2) (hts _ kw_13_23) (hts _ kw_14_0) (hts _ kw_14_1) hK hP hJ hA hS (jc_13 cI cL ad σ7 τ) (jc_19 cI cL ad σ7 τ) (fun _ => rfl) jz_0 jz_0 rfl (by omega) (by omega) (by omega) (by omega) (by omega) (Nat.le_of_ble_eq_true rfl) (Nat.le_of_ble_eq_true rfl) dX10_copyFrom_30 (fun σ9 H locs eσ9 hP hS => ?_)
  have w10 : ∀ k : Nat, k < 160 → 0 ≤ (σ7 13 k).toInt ∧ (σ7 13 k).toInt ≤ 30000 := (jrr_fr (jnp 13 eσ7 (by decide)) (jrr_fr (jnp 13 eσ5 (by decide)) w2))
  have w11 : ∀ k : Nat, k < 160 → 0 ≤ (σ7 19 k).toInt ∧ (σ7 19 k).toInt ≤ 30000 := (jrr_fr (jnp 19 eσ7 (by decide)) (jrr_fr (jnp 19 eσ5 (by decide)) w4))
  have f12 : (∀ i : Nat, (i < 19 ∨ 19 < i) → σ9 i = σ7 i) := by rw [eσ9]; exact jrow_n
  have w13 : ∀ k : Nat, k < 160 → 0 ≤ (σ9 19 k).toInt ∧ (σ9 19 k).toInt ≤ 30000 := by rw [eσ9]; exact jrow_rr w10 w11 jz_0 rfl (n0 := 160) (by omega) (by omega) (by omega)
  have z14 : (σ9 18 0).toInt = (σ 12 0).toInt := (congrArg Int32.toInt (show σ9 18 0 = (σ 12 0) from ((congrFun (f12 18 (by decide)) 0).trans m8)))
  have I15 : jI18 σ9 := ⟨(by omega), w13⟩
  exact hret σ9 τ _ _ _ _ ⟨rfl, (fun i hi => ((f12 i (imp_29 i hi)).trans ((jnp i eσ7 (imp_30 i hi)).trans (jnp i eσ5 (imp_30 i hi))))), (fun i hi => ((congrFun (f12 18 (by decide)) i).trans ((jkp i eσ7 (imp_25 i hi)).trans (jkp i eσ5 (imp_26 i hi))))), I15, trivial⟩ hP hS dX10_copyFrom_33
set_option maxHeartbeats 4000000 in
set_option maxRecDepth 100000 in
theorem c_X10_say_18 (l : Launch) (D : va_G) (cI cL : ClassId) (ad zz : Nat → Nat) (hJ : jD ad) (σ : Nat → Nat → Int32) (τ : Nat → Nat → Int64) (a1 : Int32) (A1 : Int) (t1 : a1.toInt = A1) (a2 : Int32) (A2 : Int) (t2 : a2.toInt = A2) (a3 : Int32) (A3 : Int) (t3 : a3.toInt = A3) (a4 : Int32) (A4 : Int) (t4 : a4.toInt = A4) (a5 : Int32) (A5 : Int) (t5 : a5.toInt = A5) (a6 : Int32) (A6 : Int) (t6 : a6.toInt = A6) : jMv l yX10_say cX10_say 7 none ({ frames := 0, cells := 0, slots := 0, locals := 0 }) D cI cL ad zz [.ref (ad 18), .int a1, .int a2, .int a3, .int a4, .int a5, .int a6] σ τ (fun σ' τ' => τ = τ' ∧ (∀ i : Nat, (i < 20 ∨ 20 < i) → σ' i = σ i) ∧ True) := by
  refine jMv.of hJ (by decide +kernel) rfl (Nat.le_of_ble_eq_true rfl) ?_
  intro p e s m args below meth c Q ls hC hret hl hP
  obtain ⟨hx, hb, hr, hml, hown, hts, hK, -, hlocks, hZ⟩ := hC
  have hown : s.vm.findClass RX10 = some m.cls := hown
  have hS : va_S (jA ad) s.heap s.heap [] := va_S.rf
  have hA : ∀ q, jA ad q → jA ad q := fun _ h => h
  have hl : lv_has ls 7 [(0, .ref (ad 18)), (1, .int a1), (2, .int a2), (3, .int a3), (4, .int a4), (5, .int a5), (6, .int a6)] := hl
  have g1 := jrg t1
  have g2 := jrg t2
  have g3 := jrg t3
  have g4 := jrg t4
  have g5 := jrg t5
  have g6 := jrg t6
  refine lv_aload_n hx hb dX10_say_0 rfl (lv_at hl 0 rfl) ?_
  refine va_get (D := D) hx hb hts inlX10 hown hK hP 18 (jc_18 cI cL ad σ τ) rfl 3 (by decide) (hts _ kw_4_4) (fun _ h9 => h9) rfl dX10_say_1 ?_
  refine lv_iconst (v := 0) hx hb dX10_say_4 (by decide) ?_
  refine lv_iload_n hx hb dX10_say_5 rfl (lv_at hl 1 rfl) ?_
  refine jast hx hb hK hP hJ hA hS (jc_20 cI cL ad σ τ) (ja_20 cI cL ad σ τ _ _) (jin jz_0 (by omega) (by omega)) dX10_say_6 (fun σ1 H locs eσ1 hP hS => ?_)
  have eσ1 : σ1 = jup σ 20 0 a1 := eσ1
  refine lv_aload_n hx hb dX10_say_7 rfl (lv_at hl 0 rfl) ?_
  refine va_get (D := D) hx hb hts inlX10 hown hK hP 18 (jc_18 cI cL ad σ1 τ) rfl 3 (by decide) (hts _ kw_4_4) (fun _ h9 => h9) rfl dX10_say_8 ?_
  refine lv_iconst (v := 1) hx hb dX10_say_11 (by decide) ?_
  refine lv_iload_n hx hb dX10_say_12 rfl (lv_at hl 2 rfl) ?_
  refine jast hx hb hK hP hJ hA hS (jc_20 cI cL ad σ1 τ) (ja_20 cI cL ad σ1 τ _ _) (jin jz_1 (by omega) (by omega)) dX10_say_13 (fun σ2 H locs eσ2 hP hS => ?_)
  have eσ2 : σ2 = jup σ1 20 1 a2 := eσ2
  refine lv_aload_n hx hb dX10_say_14 rfl (lv_at hl 0 rfl) ?_
  refine va_get (D := D) hx hb hts inlX10 hown hK hP 18 (jc_18 cI cL ad σ2 τ) rfl 3 (by decide) (hts _ kw_4_4) (fun _ h9 => h9) rfl dX10_say_15 ?_
  refine lv_iconst (v := 2) hx hb dX10_say_18 (by decide) ?_
  refine lv_iload_n hx hb dX10_say_19 rfl (lv_at hl 3 rfl) ?_
  refine jast hx hb hK hP hJ hA hS (jc_20 cI cL ad σ2 τ) (ja_20 cI cL ad σ2 τ _ _) (jin jz_2 (by omega) (by omega)) dX10_say_20 (fun σ3 H locs eσ3 hP hS => ?_)
  have eσ3 : σ3 = jup σ2 20 2 a3 := eσ3
  refine lv_aload_n hx hb dX10_say_21 rfl (lv_at hl 0 rfl) ?_
  refine va_get (D := D) hx hb hts inlX10 hown hK hP 18 (jc_18 cI cL ad σ3 τ) rfl 3 (by decide) (hts _ kw_4_4) (fun _ h9 => h9) rfl dX10_say_22 ?_
  refine lv_iconst (v := 3) hx hb dX10_say_25 (by decide) ?_
  refine lv_iload hx hb dX10_say_26 (lv_at hl 4 rfl) ?_
  refine jast hx hb hK hP hJ hA hS (jc_20 cI cL ad σ3 τ) (ja_20 cI cL ad σ3 τ _ _) (jin jz_3 (by omega) (by omega)) dX10_say_28 (fun σ4 H locs eσ4 hP hS => ?_)
  have eσ4 : σ4 = jup σ3 20 3 a4 := eσ4
  refine lv_aload_n hx hb dX10_say_29 rfl (lv_at hl 0 rfl) ?_
  refine va_get (D := D) hx hb hts inlX10 hown hK hP 18 (jc_18 cI cL ad σ4 τ) rfl 3 (by decide) (hts _ kw_4_4) (fun _ h9 => h9) rfl dX10_say_30 ?_
  refine lv_iconst (v := 4) hx hb dX10_say_33 (by decide) ?_
  refine lv_iload hx hb dX10_say_34 (lv_at hl 5 rfl) ?_
  refine jast hx hb hK hP hJ hA hS (jc_20 cI cL ad σ4 τ) (ja_20 cI cL ad σ4 τ _ _) (jin jz_4 (by omega) (by omega)) dX10_say_36 (fun σ5 H locs eσ5 hP hS => ?_)
  have eσ5 : σ5 = jup σ4 20 4 a5 := eσ5
  refine lv_aload_n hx hb dX10_say_37 rfl (lv_at hl 0 rfl) ?_
  refine va_get (D := D) hx hb hts inlX10 hown hK hP 18 (jc_18 cI cL ad σ5 τ) rfl 3 (by decide) (hts _ kw_4_4) (fun _ h9 => h9) rfl dX10_say_38 ?_
  refine lv_iconst (v := 5) hx hb dX10_say_41 (by decide) ?_
  refine lv_iload hx hb dX10_say_42 (lv_at hl 6 rfl) ?_
  refine jast hx hb hK hP hJ hA hS (jc_20 cI cL ad σ5 τ) (ja_20 cI cL ad σ5 τ _ _) (jin jz_5 (by omega) (by omega)) dX10_say_44 (fun σ6 H locs eσ6 hP hS => ?_)
  have eσ6 : σ6 = jup σ5 20 5 a6 := eσ6
  exact hret σ6 τ _ _ _ _ ⟨rfl, (fun i hi => ((jnp i eσ6 (imp_31 i hi)).trans ((jnp i eσ5 (imp_31 i hi)).trans ((jnp i eσ4 (imp_31 i hi)).trans ((jnp i eσ3 (imp_31 i hi)).trans ((jnp i eσ2 (imp_31 i hi)).trans (jnp i eσ1 (imp_31 i hi)))))))), trivial⟩ hP hS dX10_say_45
set_option maxHeartbeats 4000000 in
set_option maxRecDepth 100000 in
theorem c_X10_sayChance_18 (l : Launch) (D : va_G) (cI cL : ClassId) (ad zz : Nat → Nat) (hJ : jD ad) (σ : Nat → Nat → Int32) (τ : Nat → Nat → Int64) (a1 : Int32) (A1 : Int) (t1 : a1.toInt = A1) (a2 : Int32) (A2 : Int) (t2 : a2.toInt = A2) : jMv l yX10_sayChance cX10_sayChance 3 none ({ frames := 0, cells := 0, slots := 0, locals := 0 }) D cI cL ad zz [.ref (ad 18), .int a1, .int a2] σ τ (fun σ' τ' => τ = τ' ∧ (∀ i : Nat, (i < 20 ∨ 20 < i) → σ' i = σ i) ∧ True) := by
  refine jMv.of hJ (by decide +kernel) rfl (Nat.le_of_ble_eq_true rfl) ?_
  intro p e s m args below meth c Q ls hC hret hl hP
  obtain ⟨hx, hb, hr, hml, hown, hts, hK, -, hlocks, hZ⟩ := hC
  have hown : s.vm.findClass RX10 = some m.cls := hown
  have hS : va_S (jA ad) s.heap s.heap [] := va_S.rf
  have hA : ∀ q, jA ad q → jA ad q := fun _ h => h
  have hl : lv_has ls 3 [(0, .ref (ad 18)), (1, .int a1), (2, .int a2)] := hl
  have g1 := jrg t1
  have g2 := jrg t2
  refine lv_aload_n hx hb dX10_sayChance_0 rfl (lv_at hl 0 rfl) ?_
  refine va_get (D := D) hx hb hts inlX10 hown hK hP 18 (jc_18 cI cL ad σ τ) rfl 3 (by decide) (hts _ kw_4_4) (fun _ h9 => h9) rfl dX10_sayChance_1 ?_
  refine lv_bipush (v := 6) hx hb dX10_sayChance_4 (by decide) ?_
  refine lv_iload_n hx hb dX10_sayChance_6 rfl (lv_at hl 1 rfl) ?_
  refine jast hx hb hK hP hJ hA hS (jc_20 cI cL ad σ τ) (ja_20 cI cL ad σ τ _ _) (jin jz_6 (by omega) (by omega)) dX10_sayChance_7 (fun σ1 H locs eσ1 hP hS => ?_)
  have eσ1 : σ1 = jup σ 20 6 a1 := eσ1
  refine lv_aload_n hx hb dX10_sayChance_8 rfl (lv_at hl 0 rfl) ?_
  refine va_get (D := D) hx hb hts inlX10 hown hK hP 18 (jc_18 cI cL ad σ1 τ) rfl 3 (by decide) (hts _ kw_4_4) (fun _ h9 => h9) rfl dX10_sayChance_9 ?_
  refine lv_bipush (v := 7) hx hb dX10_sayChance_12 (by decide) ?_
  refine lv_iload_n hx hb dX10_sayChance_14 rfl (lv_at hl 2 rfl) ?_
  refine jast hx hb hK hP hJ hA hS (jc_20 cI cL ad σ1 τ) (ja_20 cI cL ad σ1 τ _ _) (jin jz_7 (by omega) (by omega)) dX10_sayChance_15 (fun σ2 H locs eσ2 hP hS => ?_)
  have eσ2 : σ2 = jup σ1 20 7 a2 := eσ2
  exact hret σ2 τ _ _ _ _ ⟨rfl, (fun i hi => ((jnp i eσ2 (imp_31 i hi)).trans (jnp i eσ1 (imp_31 i hi)))), trivial⟩ hP hS dX10_sayChance_16
set_option maxHeartbeats 4000000 in
set_option maxRecDepth 100000 in
theorem c_X10_copyFrom_22 (l : Launch) (D : va_G) (cI cL : ClassId) (ad zz : Nat → Nat) (hJ : jD ad) (σ : Nat → Nat → Int32) (τ : Nat → Nat → Int64) (hI12 : jI12 σ) (hI22 : jI22 σ) : jMv l yX10_copyFrom cX10_copyFrom 2 none ({ frames := 1, cells := 0, slots := 0, locals := 40 }) D cI cL ad zz [.ref (ad 22), .ref (ad 12)] σ τ (fun σ' τ' => τ = τ' ∧ (∀ i : Nat, (i < 22 ∨ 23 < i) → σ' i = σ i) ∧ (∀ k : Nat, (k < 0 ∨ 0 < k) ∧ (k < 1 ∨ 1 < k) → σ' 22 k = σ 22 k) ∧ (jI22 σ') ∧ True) := by
  refine jMv.of hJ (by decide +kernel) rfl (Nat.le_of_ble_eq_true rfl) ?_
  intro p e s m args below meth c Q ls hC hret hl hP
  obtain ⟨hx, hb, hr, hml, hown, hts, hK, -, hlocks, hZ⟩ := hC
  have hown : s.vm.findClass RX10 = some m.cls := hown
  have hS : va_S (jA ad) s.heap s.heap [] := va_S.rf
  have hA : ∀ q, jA ad q → jA ad q := fun _ h => h
  have hl : lv_has ls 2 [(0, .ref (ad 22)), (1, .ref (ad 12))] := hl
  obtain ⟨i1, w2⟩ : (0 ≤ (σ 12 0).toInt ∧ (σ 12 0).toInt ≤ 160) ∧ (∀ k : Nat, k < 160 → 0 ≤ (σ 13 k).toInt ∧ (σ 13 k).toInt ≤ 30000) := id hI12
  obtain ⟨i3, w4⟩ : (0 ≤ (σ 22 0).toInt ∧ (σ 22 0).toInt ≤ 160) ∧ (∀ k : Nat, k < 160 → 0 ≤ (σ 23 k).toInt ∧ (σ 23 k).toInt ≤ 30000) := id hI22
  refine lv_aload_n hx hb dX10_copyFrom_0 rfl (lv_at hl 0 rfl) ?_
  refine lv_aload_n hx hb dX10_copyFrom_1 rfl (lv_at hl 1 rfl) ?_
  refine va_get (D := D) hx hb hts inlX10 hown hK hP 12 (jc_12 cI cL ad σ τ) rfl 0 (by decide) (hts _ kw_16_20) (fun _ h9 => h9) rfl dX10_copyFrom_2 ?_
  refine jput (ty := .int) hx hb hts inlX10 tyX10 tyX10_ok nmX10 hown hK hP hJ hA hS (jc_22 cI cL ad σ τ) rfl (k := 0) (by decide) (Nat.le_of_ble_eq_true rfl) (jp_22_0 cI cL ad σ τ (σ 12 0)) (hts _ kw_16_20) (fun _ h9 => h9) rfl (by decide +kernel) rfl rfl dX10_copyFrom_5 (fun σ5 H locs eσ5 hP hS => ?_)
  refine lv_aload_n hx hb dX10_copyFrom_8 rfl (lv_at hl 0 rfl) ?_
  refine lv_aload_n hx hb dX10_copyFrom_9 rfl (lv_at hl 1 rfl) ?_
  refine va_get (D := D) hx hb hts inlX10 hown hK hP 12 (jc_12 cI cL ad σ5 τ) rfl 1 (by decide) (hts _ kw_16_21) (fun _ h9 => h9) rfl dX10_copyFrom_10 ?_
  have m6 : σ5 12 1 = (σ 12 1) := (congrFun (jnp 12 eσ5 (by decide)) 1)
  refine jtopr m6 ?_
  refine jput (ty := .int) hx hb hts inlX10 tyX10 tyX10_ok nmX10 hown hK hP hJ hA hS (jc_22 cI cL ad σ5 τ) rfl (k := 1) (by decide) (Nat.le_of_ble_eq_true rfl) (jp_22_1 cI cL ad σ5 τ (σ 12 1)) (hts _ kw_16_21) (fun _ h9 => h9) rfl (by decide +kernel) rfl rfl dX10_copyFrom_13 (fun σ7 H locs eσ7 hP hS => ?_)
  refine lv_aload_n hx hb dX10_copyFrom_16 rfl (lv_at hl 1 rfl) ?_
  refine va_get (D := D) hx hb hts inlX10 hown hK hP 12 (jc_12 cI cL ad σ7 τ) rfl 2 (by decide) (hts _ kw_4_3) (fun _ h9 => h9) rfl dX10_copyFrom_17 ?_
  refine lv_iconst (v := 0) hx hb dX10_copyFrom_20 (by decide) ?_
  refine lv_aload_n hx hb dX10_copyFrom_21 rfl (lv_at hl 0 rfl) ?_
  refine va_get (D := D) hx hb hts inlX10 hown hK hP 22 (jc_22 cI cL ad σ7 τ) rfl 2 (by decide) (hts _ kw_4_3) (fun _ h9 => h9) rfl dX10_copyFrom_22 ?_
  refine lv_iconst (v := 0) hx hb dX10_copyFrom_25 (by decide) ?_
  refine lv_aload_n hx hb dX10_copyFrom_26 rfl (lv_at hl 0 rfl) ?_
  refine va_get (D := D) hx hb hts inlX10 hown hK hP 22 (jc_22 cI cL ad σ7 τ) rfl 0 (by decide) (hts _ kw_16_20) (fun _ h9 => h9) rfl dX10_copyFrom_27 ?_
  have m8 : σ7 22 0 = (σ 12 0) := ((jkp 0 eσ7 (by decide)).trans (jsp eσ5))
  refine jtopr m8 ?_
  refine jcpyI (q0 := 13) (q1 := 23) hx hb (hml.trans hl.1.symm) hown (hts _ kw_18_2) (hts _ kw_13_23) (hts _ kw_14_0) (hts _ kw_14_1) hK hP hJ hA hS (jc_13 cI cL ad σ7 τ) (jc_23 cI cL ad σ7 τ) (fun _ => rfl) jz_0 jz_0 rfl (by omega) (by omega) (by omega) (by omega) (by omega) (Nat.le_of_ble_eq_true rfl) (Nat.le_of_ble_eq_true rfl) dX10_copyFrom_30 (fun σ9 H locs eσ9 hP hS => ?_)
  have w10 : ∀ k : Nat, k < 160 → 0 ≤ (σ7 13 k).toInt ∧ (σ7 13 k).toInt ≤ 30000 := (jrr_fr (jnp 13 eσ7 (by decide)) (jrr_fr (jnp 13 eσ5 (by decide)) w2))
  have w11 : ∀ k : Nat, k < 160 → 0 ≤ (σ7 23 k).toInt ∧ (σ7 23 k).toInt ≤ 30000 := (jrr_fr (jnp 23 eσ7 (by decide)) (jrr_fr (jnp 23 eσ5 (by decide)) w4))
  have f12 : (∀ i : Nat, (i < 23 ∨ 23 < i) → σ9 i = σ7 i) := by rw [eσ9]; exact jrow_n
  have w13 : ∀ k : Nat, k < 160 → 0 ≤ (σ9 23 k).toInt ∧ (σ9 23 k).toInt ≤ 30000 := by rw [eσ9]; exact jrow_rr w10 w11 jz_0 rfl (n0 := 160) (by omega) (by omega) (by omega)
  have z14 : (σ9 22 0).toInt = (σ 12 0).toInt := (congrArg Int32.toInt (show σ9 22 0 = (σ 12 0) from ((congrFun (f12 22 (by decide)) 0).trans m8)))
  have I15 : jI22 σ9 := ⟨(by omega), w13⟩
  exact hret σ9 τ _ _ _ _ ⟨rfl, (fun i hi => ((f12 i (imp_32 i hi)).trans ((jnp i eσ7 (imp_33 i hi)).trans (jnp i eσ5 (imp_33 i hi))))), (fun i hi => ((congrFun (f12 22 (by decide)) i).trans ((jkp i eσ7 (imp_25 i hi)).trans (jkp i eσ5 (imp_26 i hi))))), I15, trivial⟩ hP hS dX10_copyFrom_33
set_option maxHeartbeats 4000000 in
set_option maxRecDepth 100000 in
theorem c_X10_say_22 (l : Launch) (D : va_G) (cI cL : ClassId) (ad zz : Nat → Nat) (hJ : jD ad) (σ : Nat → Nat → Int32) (τ : Nat → Nat → Int64) (a1 : Int32) (A1 : Int) (t1 : a1.toInt = A1) (a2 : Int32) (A2 : Int) (t2 : a2.toInt = A2) (a3 : Int32) (A3 : Int) (t3 : a3.toInt = A3) (a4 : Int32) (A4 : Int) (t4 : a4.toInt = A4) (a5 : Int32) (A5 : Int) (t5 : a5.toInt = A5) (a6 : Int32) (A6 : Int) (t6 : a6.toInt = A6) : jMv l yX10_say cX10_say 7 none ({ frames := 0, cells := 0, slots := 0, locals := 0 }) D cI cL ad zz [.ref (ad 22), .int a1, .int a2, .int a3, .int a4, .int a5, .int a6] σ τ (fun σ' τ' => τ = τ' ∧ (∀ i : Nat, (i < 24 ∨ 24 < i) → σ' i = σ i) ∧ True) := by
  refine jMv.of hJ (by decide +kernel) rfl (Nat.le_of_ble_eq_true rfl) ?_
  intro p e s m args below meth c Q ls hC hret hl hP
  obtain ⟨hx, hb, hr, hml, hown, hts, hK, -, hlocks, hZ⟩ := hC
  have hown : s.vm.findClass RX10 = some m.cls := hown
  have hS : va_S (jA ad) s.heap s.heap [] := va_S.rf
  have hA : ∀ q, jA ad q → jA ad q := fun _ h => h
  have hl : lv_has ls 7 [(0, .ref (ad 22)), (1, .int a1), (2, .int a2), (3, .int a3), (4, .int a4), (5, .int a5), (6, .int a6)] := hl
  have g1 := jrg t1
  have g2 := jrg t2
  have g3 := jrg t3
  have g4 := jrg t4
  have g5 := jrg t5
  have g6 := jrg t6
  refine lv_aload_n hx hb dX10_say_0 rfl (lv_at hl 0 rfl) ?_
  refine va_get (D := D) hx hb hts inlX10 hown hK hP 22 (jc_22 cI cL ad σ τ) rfl 3 (by decide) (hts _ kw_4_4) (fun _ h9 => h9) rfl dX10_say_1 ?_
  refine lv_iconst (v := 0) hx hb dX10_say_4 (by decide) ?_
  refine lv_iload_n hx hb dX10_say_5 rfl (lv_at hl 1 rfl) ?_
  refine jast hx hb hK hP hJ hA hS (jc_24 cI cL ad σ τ) (ja_24 cI cL ad σ τ _ _) (jin jz_0 (by omega) (by omega)) dX10_say_6 (fun σ1 H locs eσ1 hP hS => ?_)
  have eσ1 : σ1 = jup σ 24 0 a1 := eσ1
  refine lv_aload_n hx hb dX10_say_7 rfl (lv_at hl 0 rfl) ?_
  refine va_get (D := D) hx hb hts inlX10 hown hK hP 22 (jc_22 cI cL ad σ1 τ) rfl 3 (by decide) (hts _ kw_4_4) (fun _ h9 => h9) rfl dX10_say_8 ?_
  refine lv_iconst (v := 1) hx hb dX10_say_11 (by decide) ?_
  refine lv_iload_n hx hb dX10_say_12 rfl (lv_at hl 2 rfl) ?_
  refine jast hx hb hK hP hJ hA hS (jc_24 cI cL ad σ1 τ) (ja_24 cI cL ad σ1 τ _ _) (jin jz_1 (by omega) (by omega)) dX10_say_13 (fun σ2 H locs eσ2 hP hS => ?_)
  have eσ2 : σ2 = jup σ1 24 1 a2 := eσ2
  refine lv_aload_n hx hb dX10_say_14 rfl (lv_at hl 0 rfl) ?_
  refine va_get (D := D) hx hb hts inlX10 hown hK hP 22 (jc_22 cI cL ad σ2 τ) rfl 3 (by decide) (hts _ kw_4_4) (fun _ h9 => h9) rfl dX10_say_15 ?_
  refine lv_iconst (v := 2) hx hb dX10_say_18 (by decide) ?_
  refine lv_iload_n hx hb dX10_say_19 rfl (lv_at hl 3 rfl) ?_
  refine jast hx hb hK hP hJ hA hS (jc_24 cI cL ad σ2 τ) (ja_24 cI cL ad σ2 τ _ _) (jin jz_2 (by omega) (by omega)) dX10_say_20 (fun σ3 H locs eσ3 hP hS => ?_)
  have eσ3 : σ3 = jup σ2 24 2 a3 := eσ3
  refine lv_aload_n hx hb dX10_say_21 rfl (lv_at hl 0 rfl) ?_
  refine va_get (D := D) hx hb hts inlX10 hown hK hP 22 (jc_22 cI cL ad σ3 τ) rfl 3 (by decide) (hts _ kw_4_4) (fun _ h9 => h9) rfl dX10_say_22 ?_
  refine lv_iconst (v := 3) hx hb dX10_say_25 (by decide) ?_
  refine lv_iload hx hb dX10_say_26 (lv_at hl 4 rfl) ?_
  refine jast hx hb hK hP hJ hA hS (jc_24 cI cL ad σ3 τ) (ja_24 cI cL ad σ3 τ _ _) (jin jz_3 (by omega) (by omega)) dX10_say_28 (fun σ4 H locs eσ4 hP hS => ?_)
  have eσ4 : σ4 = jup σ3 24 3 a4 := eσ4
  refine lv_aload_n hx hb dX10_say_29 rfl (lv_at hl 0 rfl) ?_
  refine va_get (D := D) hx hb hts inlX10 hown hK hP 22 (jc_22 cI cL ad σ4 τ) rfl 3 (by decide) (hts _ kw_4_4) (fun _ h9 => h9) rfl dX10_say_30 ?_
  refine lv_iconst (v := 4) hx hb dX10_say_33 (by decide) ?_
  refine lv_iload hx hb dX10_say_34 (lv_at hl 5 rfl) ?_
  refine jast hx hb hK hP hJ hA hS (jc_24 cI cL ad σ4 τ) (ja_24 cI cL ad σ4 τ _ _) (jin jz_4 (by omega) (by omega)) dX10_say_36 (fun σ5 H locs eσ5 hP hS => ?_)
  have eσ5 : σ5 = jup σ4 24 4 a5 := eσ5
  refine lv_aload_n hx hb dX10_say_37 rfl (lv_at hl 0 rfl) ?_
  refine va_get (D := D) hx hb hts inlX10 hown hK hP 22 (jc_22 cI cL ad σ5 τ) rfl 3 (by decide) (hts _ kw_4_4) (fun _ h9 => h9) rfl dX10_say_38 ?_
  refine lv_iconst (v := 5) hx hb dX10_say_41 (by decide) ?_
  refine lv_iload hx hb dX10_say_42 (lv_at hl 6 rfl) ?_
  refine jast hx hb hK hP hJ hA hS (jc_24 cI cL ad σ5 τ) (ja_24 cI cL ad σ5 τ _ _) (jin jz_5 (by omega) (by omega)) dX10_say_44 (fun σ6 H locs eσ6 hP hS => ?_)
  have eσ6 : σ6 = jup σ5 24 5 a6 := eσ6
  exact hret σ6 τ _ _ _ _ ⟨rfl, (fun i hi => ((jnp i eσ6 (imp_34 i hi)).trans ((jnp i eσ5 (imp_34 i hi)).trans ((jnp i eσ4 (imp_34 i hi)).trans ((jnp i eσ3 (imp_34 i hi)).trans ((jnp i eσ2 (imp_34 i hi)).trans (jnp i eσ1 (imp_34 i hi)))))))), trivial⟩ hP hS dX10_say_45
set_option maxHeartbeats 4000000 in
set_option maxRecDepth 100000 in
theorem c_X10_joined (l : Launch) (D : va_G) (cI cL : ClassId) (ad zz : Nat → Nat) (hJ : jD ad) (σ : Nat → Nat → Int32) (τ : Nat → Nat → Int64) (a1 : Int32) (A1 : Int) (t1 : a1.toInt = A1) (a2 : Int32) (A2 : Int) (t2 : a2.toInt = A2) (a3 : Int32) (A3 : Int) (t3 : a3.toInt = A3) : jM l yX10_joined cX10_joined 3 (some .int) ({ frames := 0, cells := 0, slots := 0, locals := 0 }) D cI cL ad zz [.int a1, .int a2, .int a3] σ τ (fun r σ' τ' => (σ = σ' ∧ τ = τ') ∧ True) := by
  refine jM.of hJ (by decide +kernel) (nt := .int) rfl (Nat.le_of_ble_eq_true rfl) ?_
  intro p e s m args below meth c Q ls hC hret hl hP
  obtain ⟨hx, hb, hr, hml, hown, hts, hK, -, hlocks, hZ⟩ := hC
  have hown : s.vm.findClass RX10 = some m.cls := hown
  have hS : va_S (jA ad) s.heap s.heap [] := va_S.rf
  have hA : ∀ q, jA ad q → jA ad q := fun _ h => h
  have hl : lv_has ls 3 [(0, .int a1), (1, .int a2), (2, .int a3)] := hl
  have g1 := jrg t1
  have g2 := jrg t2
  have g3 := jrg t3
  refine lv_iload_n hx hb dX10_joined_0 rfl (lv_at hl 0 rfl) ?_
  by_cases c1 : a1 = 37
  · have kc1 := jeq c1 t1 jz_37
    refine jtopr c1 ?_
    refine lv_lookup (off := 176) (tgt := 177) hx hb dX10_joined_1 (by decide) (by decide) (by decide) ?_
    refine lv_iload_n hx hb dX10_joined_177 rfl (lv_at hl 2 rfl) ?_
    refine lv_if_ne (tgt := 185) hx hb dX10_joined_178 (by decide) (fun c2 => ?_) (fun c2 => ?_)
    · have kc2 := jne c2 t3 jz_0
      refine lv_iload_n hx hb dX10_joined_185 rfl (lv_at hl 1 rfl) ?_
      refine lv_iload_n hx hb dX10_joined_186 rfl (lv_at hl 2 rfl) ?_
      refine lv_irem hx hb dX10_joined_187 (fun h => absurd (jeq h t3 jz_0) (by omega)) ?_
      refine lv_topi (fun x3 ex3 => ?_)
      have gx3 := jrg (rfl : x3.toInt = x3.toInt)
      exact hret x3 σ τ _ _ _ _ rfl ⟨⟨rfl, rfl⟩, trivial⟩ hP hS dX10_joined_188
    · have kc2 := jeq c2 t3 jz_0
      refine lv_iconst (v := 0) hx hb dX10_joined_181 (by decide) ?_
      refine lv_goto (tgt := 188) hx hb dX10_joined_182 (by decide) ?_
      exact hret 0 σ τ _ _ _ _ rfl ⟨⟨rfl, rfl⟩, trivial⟩ hP hS dX10_joined_188
  have kc1 := jne c1 t1 jz_37
  by_cases c4 : a1 = 38
  · have kc4 := jeq c4 t1 jz_38
    refine jtopr c4 ?_
    refine lv_lookup (off := 105) (tgt := 106) hx hb dX10_joined_1 (by decide) (by decide) (by decide) ?_
    refine lv_iload_n hx hb dX10_joined_106 rfl (lv_at hl 1 rfl) ?_
    refine lv_if_eq (tgt := 118) hx hb dX10_joined_107 (by decide) (fun c5 => ?_) (fun c5 => ?_)
    · have kc5 := jeq c5 t2 jz_0
      refine lv_iconst (v := 0) hx hb dX10_joined_118 (by decide) ?_
      exact hret 0 σ τ _ _ _ _ rfl ⟨⟨rfl, rfl⟩, trivial⟩ hP hS dX10_joined_119
    · have kc5 := jne c5 t2 jz_0
      refine lv_iload_n hx hb dX10_joined_110 rfl (lv_at hl 2 rfl) ?_
      refine lv_if_eq (tgt := 118) hx hb dX10_joined_111 (by decide) (fun c6 => ?_) (fun c6 => ?_)
      · have kc6 := jeq c6 t3 jz_0
        refine lv_iconst (v := 0) hx hb dX10_joined_118 (by decide) ?_
        exact hret 0 σ τ _ _ _ _ rfl ⟨⟨rfl, rfl⟩, trivial⟩ hP hS dX10_joined_119
      · have kc6 := jne c6 t3 jz_0
        refine lv_iconst (v := 1) hx hb dX10_joined_114 (by decide) ?_
        refine lv_goto (tgt := 119) hx hb dX10_joined_115 (by decide) ?_
        exact hret 1 σ τ _ _ _ _ rfl ⟨⟨rfl, rfl⟩, trivial⟩ hP hS dX10_joined_119
  have kc4 := jne c4 t1 jz_38
  by_cases c7 : a1 = 42
  · have kc7 := jeq c7 t1 jz_42
    refine jtopr c7 ?_
    refine lv_lookup (off := 160) (tgt := 161) hx hb dX10_joined_1 (by decide) (by decide) (by decide) ?_
    refine lv_iload_n hx hb dX10_joined_161 rfl (lv_at hl 1 rfl) ?_
    refine lv_iload_n hx hb dX10_joined_162 rfl (lv_at hl 2 rfl) ?_
    refine lv_imul hx hb dX10_joined_163 ?_
    refine lv_topi (fun x8 ex8 => ?_)
    have gx8 := jrg (rfl : x8.toInt = x8.toInt)
    exact hret x8 σ τ _ _ _ _ rfl ⟨⟨rfl, rfl⟩, trivial⟩ hP hS dX10_joined_164
  have kc7 := jne c7 t1 jz_42
  by_cases c9 : a1 = 43
  · have kc9 := jeq c9 t1 jz_43
    refine jtopr c9 ?_
    refine lv_lookup (off := 152) (tgt := 153) hx hb dX10_joined_1 (by decide) (by decide) (by decide) ?_
    refine lv_iload_n hx hb dX10_joined_153 rfl (lv_at hl 1 rfl) ?_
    refine lv_iload_n hx hb dX10_joined_154 rfl (lv_at hl 2 rfl) ?_
    refine lv_iadd hx hb dX10_joined_155 ?_
    refine lv_topi (fun x10 ex10 => ?_)
    have gx10 := jrg (rfl : x10.toInt = x10.toInt)
    exact hret x10 σ τ _ _ _ _ rfl ⟨⟨rfl, rfl⟩, trivial⟩ hP hS dX10_joined_156
  have kc9 := jne c9 t1 jz_43
  by_cases c11 : a1 = 45
  · have kc11 := jeq c11 t1 jz_45
    refine jtopr c11 ?_
    refine lv_lookup (off := 156) (tgt := 157) hx hb dX10_joined_1 (by decide) (by decide) (by decide) ?_
    refine lv_iload_n hx hb dX10_joined_157 rfl (lv_at hl 1 rfl) ?_
    refine lv_iload_n hx hb dX10_joined_158 rfl (lv_at hl 2 rfl) ?_
    refine lv_isub hx hb dX10_joined_159 ?_
    refine lv_topi (fun x12 ex12 => ?_)
    have gx12 := jrg (rfl : x12.toInt = x12.toInt)
    exact hret x12 σ τ _ _ _ _ rfl ⟨⟨rfl, rfl⟩, trivial⟩ hP hS dX10_joined_160
  have kc11 := jne c11 t1 jz_45
  by_cases c13 : a1 = 47
  · have kc13 := jeq c13 t1 jz_47
    refine jtopr c13 ?_
    refine lv_lookup (off := 164) (tgt := 165) hx hb dX10_joined_1 (by decide) (by decide) (by decide) ?_
    refine lv_iload_n hx hb dX10_joined_165 rfl (lv_at hl 2 rfl) ?_
    refine lv_if_ne (tgt := 173) hx hb dX10_joined_166 (by decide) (fun c14 => ?_) (fun c14 => ?_)
    · have kc14 := jne c14 t3 jz_0
      refine lv_iload_n hx hb dX10_joined_173 rfl (lv_at hl 1 rfl) ?_
      refine lv_iload_n hx hb dX10_joined_174 rfl (lv_at hl 2 rfl) ?_
      refine lv_idiv hx hb dX10_joined_175 (fun h => absurd (jeq h t3 jz_0) (by omega)) ?_
      refine lv_topi (fun x15 ex15 => ?_)
      have gx15 := jrg (rfl : x15.toInt = x15.toInt)
      exact hret x15 σ τ _ _ _ _ rfl ⟨⟨rfl, rfl⟩, trivial⟩ hP hS dX10_joined_176
    · have kc14 := jeq c14 t3 jz_0
      refine lv_iconst (v := 0) hx hb dX10_joined_169 (by decide) ?_
      refine lv_goto (tgt := 176) hx hb dX10_joined_170 (by decide) ?_
      exact hret 0 σ τ _ _ _ _ rfl ⟨⟨rfl, rfl⟩, trivial⟩ hP hS dX10_joined_176
  have kc13 := jne c13 t1 jz_47
  by_cases c16 : a1 = 60
  · have kc16 := jeq c16 t1 jz_60
    refine jtopr c16 ?_
    refine lv_lookup (off := 119) (tgt := 120) hx hb dX10_joined_1 (by decide) (by decide) (by decide) ?_
    refine lv_iload_n hx hb dX10_joined_120 rfl (lv_at hl 1 rfl) ?_
    refine lv_iload_n hx hb dX10_joined_121 rfl (lv_at hl 2 rfl) ?_
    refine lv_icmp_ge (tgt := 129) hx hb dX10_joined_122 (by decide) (fun c17 => ?_) (fun c17 => ?_)
    · have kc17 := jle c17 t3 t2
      refine lv_iconst (v := 0) hx hb dX10_joined_129 (by decide) ?_
      exact hret 0 σ τ _ _ _ _ rfl ⟨⟨rfl, rfl⟩, trivial⟩ hP hS dX10_joined_130
    · have kc17 := jnle c17 t3 t2
      refine lv_iconst (v := 1) hx hb dX10_joined_125 (by decide) ?_
      refine lv_goto (tgt := 130) hx hb dX10_joined_126 (by decide) ?_
      exact hret 1 σ τ _ _ _ _ rfl ⟨⟨rfl, rfl⟩, trivial⟩ hP hS dX10_joined_130
  have kc16 := jne c16 t1 jz_60
  by_cases c18 : a1 = 61
  · have kc18 := jeq c18 t1 jz_61
    refine jtopr c18 ?_
    refine lv_lookup (off := 130) (tgt := 131) hx hb dX10_joined_1 (by decide) (by decide) (by decide) ?_
    refine lv_iload_n hx hb dX10_joined_131 rfl (lv_at hl 1 rfl) ?_
    refine lv_iload_n hx hb dX10_joined_132 rfl (lv_at hl 2 rfl) ?_
    refine lv_icmp_ne (tgt := 140) hx hb dX10_joined_133 (by decide) (fun c19 => ?_) (fun c19 => ?_)
    · have kc19 := jne c19 t2 t3
      refine lv_iconst (v := 0) hx hb dX10_joined_140 (by decide) ?_
      exact hret 0 σ τ _ _ _ _ rfl ⟨⟨rfl, rfl⟩, trivial⟩ hP hS dX10_joined_141
    · have kc19 := jeq c19 t2 t3
      refine lv_iconst (v := 1) hx hb dX10_joined_136 (by decide) ?_
      refine lv_goto (tgt := 141) hx hb dX10_joined_137 (by decide) ?_
      exact hret 1 σ τ _ _ _ _ rfl ⟨⟨rfl, rfl⟩, trivial⟩ hP hS dX10_joined_141
  have kc18 := jne c18 t1 jz_61
  by_cases c20 : a1 = 62
  · have kc20 := jeq c20 t1 jz_62
    refine jtopr c20 ?_
    refine lv_lookup (off := 141) (tgt := 142) hx hb dX10_joined_1 (by decide) (by decide) (by decide) ?_
    refine lv_iload_n hx hb dX10_joined_142 rfl (lv_at hl 1 rfl) ?_
    refine lv_iload_n hx hb dX10_joined_143 rfl (lv_at hl 2 rfl) ?_
    refine lv_icmp_le (tgt := 151) hx hb dX10_joined_144 (by decide) (fun c21 => ?_) (fun c21 => ?_)
    · have kc21 := jle c21 t2 t3
      refine lv_iconst (v := 0) hx hb dX10_joined_151 (by decide) ?_
      exact hret 0 σ τ _ _ _ _ rfl ⟨⟨rfl, rfl⟩, trivial⟩ hP hS dX10_joined_152
    · have kc21 := jnle c21 t2 t3
      refine lv_iconst (v := 1) hx hb dX10_joined_147 (by decide) ?_
      refine lv_goto (tgt := 152) hx hb dX10_joined_148 (by decide) ?_
      exact hret 1 σ τ _ _ _ _ rfl ⟨⟨rfl, rfl⟩, trivial⟩ hP hS dX10_joined_152
  have kc20 := jne c20 t1 jz_62
  by_cases c22 : a1 = 124
  · have kc22 := jeq c22 t1 jz_124
    refine jtopr c22 ?_
    refine lv_lookup (off := 91) (tgt := 92) hx hb dX10_joined_1 (by decide) (by decide) (by decide) ?_
    refine lv_iload_n hx hb dX10_joined_92 rfl (lv_at hl 1 rfl) ?_
    refine lv_if_ne (tgt := 100) hx hb dX10_joined_93 (by decide) (fun c23 => ?_) (fun c23 => ?_)
    · have kc23 := jne c23 t2 jz_0
      refine lv_iconst (v := 1) hx hb dX10_joined_100 (by decide) ?_
      refine lv_goto (tgt := 105) hx hb dX10_joined_101 (by decide) ?_
      exact hret 1 σ τ _ _ _ _ rfl ⟨⟨rfl, rfl⟩, trivial⟩ hP hS dX10_joined_105
    · have kc23 := jeq c23 t2 jz_0
      refine lv_iload_n hx hb dX10_joined_96 rfl (lv_at hl 2 rfl) ?_
      refine lv_if_eq (tgt := 104) hx hb dX10_joined_97 (by decide) (fun c24 => ?_) (fun c24 => ?_)
      · have kc24 := jeq c24 t3 jz_0
        refine lv_iconst (v := 0) hx hb dX10_joined_104 (by decide) ?_
        exact hret 0 σ τ _ _ _ _ rfl ⟨⟨rfl, rfl⟩, trivial⟩ hP hS dX10_joined_105
      · have kc24 := jne c24 t3 jz_0
        refine lv_iconst (v := 1) hx hb dX10_joined_100 (by decide) ?_
        refine lv_goto (tgt := 105) hx hb dX10_joined_101 (by decide) ?_
        exact hret 1 σ τ _ _ _ _ rfl ⟨⟨rfl, rfl⟩, trivial⟩ hP hS dX10_joined_105
  have kc22 := jne c22 t1 jz_124
  refine lv_lookup (off := 188) (tgt := 189) hx hb dX10_joined_1 (by decide) (jlook (fun p hp => by have h9 := t1; simp only [List.mem_cons, List.not_mem_nil, or_false] at hp; rcases hp with hp | hp | hp | hp | hp | hp | hp | hp | hp | hp <;> subst hp <;> simp only [] <;> omega)) (by decide) ?_
  refine lv_iconst (v := 0) hx hb dX10_joined_189 (by decide) ?_
  exact hret 0 σ τ _ _ _ _ rfl ⟨⟨rfl, rfl⟩, trivial⟩ hP hS dX10_joined_190
set_option maxHeartbeats 4000000 in
set_option maxRecDepth 100000 in
theorem c_X10_worked_18 (l : Launch) (D : va_G) (cI cL : ClassId) (ad zz : Nat → Nat) (hJ : jD ad) (σ : Nat → Nat → Int32) (τ : Nat → Nat → Int64) (hI18 : jI18 σ) : jM l yX10_worked cX10_worked 5 (some .int) ({ frames := 1, cells := 0, slots := 0, locals := 22 }) D cI cL ad zz [.ref (ad 18)] σ τ (fun r σ' τ' => τ = τ' ∧ (∀ i : Nat, (i < 21 ∨ 21 < i) → σ' i = σ i) ∧ True) := by
  refine jM.of hJ (by decide +kernel) (nt := .int) rfl (Nat.le_of_ble_eq_true rfl) ?_
  intro p e s m args below meth c Q ls hC hret hl hP
  obtain ⟨hx, hb, hr, hml, hown, hts, hK, -, hlocks, hZ⟩ := hC
  have hown : s.vm.findClass RX10 = some m.cls := hown
  have hS : va_S (jA ad) s.heap s.heap [] := va_S.rf
  have hA : ∀ q, jA ad q → jA ad q := fun _ h => h
  have hl : lv_has ls 5 [(0, .ref (ad 18))] := hl
  obtain ⟨i1, w2⟩ : (0 ≤ (σ 18 0).toInt ∧ (σ 18 0).toInt ≤ 160) ∧ (∀ k : Nat, k < 160 → 0 ≤ (σ 19 k).toInt ∧ (σ 19 k).toInt ≤ 30000) := id hI18
  refine lv_iconst (v := 0) hx hb dX10_worked_0 (by decide) ?_
  refine lv_istore_n (lv' := [(1, .int 0), (0, .ref (ad 18))]) hx hb dX10_worked_1 rfl hl (by decide) rfl (fun ls hl => ?_)
  refine lv_iconst (v := 0) hx hb dX10_worked_2 (by decide) ?_
  refine lv_istore_n (lv' := [(2, .int 0), (1, .int 0), (0, .ref (ad 18))]) hx hb dX10_worked_3 rfl hl (by decide) rfl (fun ls hl => ?_)
  have lp3 : ∀ (n4 : Nat) (x5 : Int32) (x6 : Int32) (σ9 : Nat → Nat → Int32) (H : Heap) (locs : List Loc) (ls : Array Slot), (-x6.toInt + 30001 : Int) < n4 → 0 ≤ x5.toInt → x5.toInt ≤ 160 → 0 ≤ x6.toInt → x6.toInt ≤ 30000 → (∀ i : Nat, (i < 21 ∨ 21 < i) → σ9 i = σ i) → jH D cI cL ad σ9 τ H → va_S (jA ad) s.heap H locs → lv_has ls 5 [(2, .int x6), (1, .int x5), (0, .ref (ad 18))] → W p l e ({ frames := 1, cells := 0, slots := 0, locals := 22 }) s m args below meth c H locs 0 0 Q (F0 m 4 ls []) := by
    intro n4
    induction n4 with
    | zero => intro x5 x6 σ9 H locs ls h10 h11 h12 h13 h14; exact absurd h10 (by omega)
    | succ n4 ihlp3 =>
      intro x5 x6 σ9 H locs ls h10 h11 h12 h13 h14 f15 hP hS hl
      refine lv_iload_n hx hb dX10_worked_4 rfl (lv_at hl 0 rfl) ?_
      refine lv_aload_n hx hb dX10_worked_5 rfl (lv_at hl 2 rfl) ?_
      refine va_get (D := D) hx hb hts inlX10 hown hK hP 18 (jc_18 cI cL ad σ9 τ) rfl 0 (by decide) (hts _ kw_16_20) (fun _ h9 => h9) rfl dX10_worked_6 ?_
      have m16 : σ9 18 0 = (σ 18 0) := (congrFun (f15 18 (by decide)) 0)
      refine jtopr m16 ?_
      refine lv_icmp_ge (tgt := 265) hx hb dX10_worked_9 (by decide) (fun c17 => ?_) (fun c17 => ?_)
      · have kc17 := jle c17 rfl rfl
        refine lv_iconst (v := 0) hx hb dX10_worked_265 (by decide) ?_
        exact hret 0 σ9 τ _ _ _ _ rfl ⟨rfl, (fun i hi => (f15 i hi)), trivial⟩ hP hS dX10_worked_266
      · have kc17 := jnle c17 rfl rfl
        refine lv_aload_n hx hb dX10_worked_12 rfl (lv_at hl 2 rfl) ?_
        refine va_get (D := D) hx hb hts inlX10 hown hK hP 18 (jc_18 cI cL ad σ9 τ) rfl 2 (by decide) (hts _ kw_4_3) (fun _ h9 => h9) rfl dX10_worked_13 ?_
        refine lv_iload_n hx hb dX10_worked_16 rfl (lv_at hl 0 rfl) ?_
        refine jald hx hb hK hP (jc_19 cI cL ad σ9 τ) (jin rfl (by omega) (by omega)) dX10_worked_17 ?_
        have w18 : ∀ k : Nat, k < 160 → 0 ≤ (σ9 19 k).toInt ∧ (σ9 19 k).toInt ≤ 30000 := (jrr_fr (f15 19 (by decide)) w2)
        have g19 := w18 _ (jnat (x := x6) rfl (n := 160) (by omega) (by decide))
        refine lv_topi (fun x20 ex20 => ?_)
        rw [← ex20] at g19
        refine lv_istore_n (lv' := [(3, .int x20), (2, .int x6), (1, .int x5), (0, .ref (ad 18))]) hx hb dX10_worked_18 rfl hl (by decide) rfl (fun ls hl => ?_)
        refine lv_iload_n hx hb dX10_worked_19 rfl (lv_at hl 0 rfl) ?_
        refine lv_sipush (v := 20000) hx hb dX10_worked_20 (by decide) ?_
        refine lv_icmp_ge (tgt := 71) hx hb dX10_worked_23 (by decide) (fun c21 => ?_) (fun c21 => ?_)
        · have kc21 := jle c21 jz_20000 rfl
          refine lv_iload_n hx hb dX10_worked_71 rfl (lv_at hl 2 rfl) ?_
          refine lv_iconst (v := 1) hx hb dX10_worked_72 (by decide) ?_
          refine lv_icmp_lt (tgt := 83) hx hb dX10_worked_73 (by decide) (fun c22 => ?_) (fun c22 => ?_)
          · have kc22 := jlt c22 rfl jz_1
            refine lv_iload_n hx hb dX10_worked_83 rfl (lv_at hl 2 rfl) ?_
            refine lv_iconst (v := 1) hx hb dX10_worked_84 (by decide) ?_
            refine lv_icmp_ge (tgt := 92) hx hb dX10_worked_85 (by decide) (fun c => absurd (jle c jz_1 rfl) (by omega)) (fun c23 => ?_)
            have kc23 := jnle c23 jz_1 rfl
            refine lv_iconst (v := 0) hx hb dX10_worked_88 (by decide) ?_
            refine lv_goto (tgt := 100) hx hb dX10_worked_89 (by decide) ?_
            exact hret 0 σ9 τ _ _ _ _ rfl ⟨rfl, (fun i hi => (f15 i hi)), trivial⟩ hP hS dX10_worked_100
          · have kc22 := jnlt c22 rfl jz_1
            refine lv_iload_n hx hb dX10_worked_76 rfl (lv_at hl 0 rfl) ?_
            refine lv_sipush (v := 20059) hx hb dX10_worked_77 (by decide) ?_
            refine lv_icmp_ne (tgt := 101) hx hb dX10_worked_80 (by decide) (fun c24 => ?_) (fun c24 => ?_)
            · have kc24 := jne c24 rfl jz_20059
              refine lv_iload_n hx hb dX10_worked_101 rfl (lv_at hl 0 rfl) ?_
              refine lv_sipush (v := 20063) hx hb dX10_worked_102 (by decide) ?_
              refine lv_icmp_ne (tgt := 160) hx hb dX10_worked_105 (by decide) (fun c25 => ?_) (fun c25 => ?_)
              · have kc25 := jne c25 rfl jz_20063
                refine lv_iload_n hx hb dX10_worked_160 rfl (lv_at hl 0 rfl) ?_
                refine lv_sipush (v := 20033) hx hb dX10_worked_161 (by decide) ?_
                refine lv_icmp_ne (tgt := 194) hx hb dX10_worked_164 (by decide) (fun c26 => ?_) (fun c26 => ?_)
                · have kc26 := jne c26 rfl jz_20033
                  refine lv_iload_n hx hb dX10_worked_194 rfl (lv_at hl 0 rfl) ?_
                  refine lv_sipush (v := 20126) hx hb dX10_worked_195 (by decide) ?_
                  refine lv_icmp_ne (tgt := 221) hx hb dX10_worked_198 (by decide) (fun c27 => ?_) (fun c27 => ?_)
                  · have kc27 := jne c27 rfl jz_20126
                    refine lv_iload_n hx hb dX10_worked_221 rfl (lv_at hl 2 rfl) ?_
                    refine lv_iconst (v := 1) hx hb dX10_worked_222 (by decide) ?_
                    refine lv_icmp_le (tgt := 259) hx hb dX10_worked_223 (by decide) (fun c28 => ?_) (fun c28 => ?_)
                    · have kc28 := jle c28 rfl jz_1
                      obtain ⟨x29, ex29⟩ : ∃ y : Int32, y = x6 + 1 := ⟨_, rfl⟩
                      have tx29 : x29.toInt = x6.toInt + 1 := (jadd ex29 rfl jz_1 (by omega) (by omega)).trans (by omega)
                      refine lv_iinc (v := x29) (lv' := [(2, .int x29), (3, .int x20), (1, .int x5), (0, .ref (ad 18))]) hx hb dX10_worked_259 hl (k := 1) rfl (by rw [ex29]; rfl) (by decide) rfl (fun ls hl => ?_)
                      refine lv_goto (tgt := 4) hx hb dX10_worked_262 (by decide) ?_
                      exact ihlp3 x5 x29 σ9 _ _ ls (by have h91 := tx29; omega) (by have h91 := tx29; omega) (by have h91 := tx29; omega) (by have h91 := tx29; omega) (by have h91 := tx29; omega) (fun i hi => (f15 i hi))    hP hS (lv_sub hl [0, 2, 3] rfl)
                    · have kc28 := jnle c28 rfl jz_1
                      obtain ⟨x30, ex30⟩ : ∃ y : Int32, y = x5 + (-1) := ⟨_, rfl⟩
                      have tx30 : x30.toInt = x5.toInt - 1 := (jadd ex30 rfl jz_m1 (by omega) (by omega)).trans (by omega)
                      refine lv_iinc (v := x30) (lv' := [(1, .int x30), (3, .int x20), (2, .int x6), (0, .ref (ad 18))]) hx hb dX10_worked_226 hl (k := 2) rfl (by rw [ex30]; rfl) (by decide) rfl (fun ls hl => ?_)
                      refine lv_aload_n hx hb dX10_worked_229 rfl (lv_at hl 3 rfl) ?_
                      refine va_get (D := D) hx hb hts inlX10 hown hK hP 18 (jc_18 cI cL ad σ9 τ) rfl 4 (by decide) (hts _ kw_4_5) (fun _ h9 => h9) rfl dX10_worked_230 ?_
                      refine lv_iload_n hx hb dX10_worked_233 rfl (lv_at hl 0 rfl) ?_
                      refine lv_iconst (v := 1) hx hb dX10_worked_234 (by decide) ?_
                      refine lv_isub hx hb dX10_worked_235 ?_
                      refine lv_topi (fun x31 ex31 => ?_)
                      have tx31 : x31.toInt = x5.toInt - 2 := (jsub ex31 tx30 jz_1 (by omega) (by omega)).trans (by omega)
                      refine lv_iload_n hx hb dX10_worked_236 rfl (lv_at hl 1 rfl) ?_
                      refine lv_sipush (v := 20000) hx hb dX10_worked_237 (by decide) ?_
                      have g32 := jrg (rfl : x20.toInt = x20.toInt)
                      refine lv_isub hx hb dX10_worked_240 ?_
                      refine lv_topi (fun x33 ex33 => ?_)
                      have tx33 : x33.toInt = x20.toInt - 20000 := (jsub ex33 rfl jz_20000 (by omega) (by omega)).trans (by omega)
                      refine lv_aload_n hx hb dX10_worked_241 rfl (lv_at hl 3 rfl) ?_
                      refine va_get (D := D) hx hb hts inlX10 hown hK hP 18 (jc_18 cI cL ad σ9 τ) rfl 4 (by decide) (hts _ kw_4_5) (fun _ h9 => h9) rfl dX10_worked_242 ?_
                      refine lv_iload_n hx hb dX10_worked_245 rfl (lv_at hl 0 rfl) ?_
                      refine lv_iconst (v := 1) hx hb dX10_worked_246 (by decide) ?_
                      refine lv_isub hx hb dX10_worked_247 ?_
                      refine lv_topi (fun x34 ex34 => ?_)
                      have tx34 : x34.toInt = x5.toInt - 2 := (jsub ex34 tx30 jz_1 (by omega) (by omega)).trans (by omega)
                      refine jald hx hb hK hP (jc_21 cI cL ad σ9 τ) (jin tx34 (by omega) (by omega)) dX10_worked_248 ?_
                      refine lv_topi (fun x35 ex35 => ?_)
                      refine lv_aload_n hx hb dX10_worked_249 rfl (lv_at hl 3 rfl) ?_
                      refine va_get (D := D) hx hb hts inlX10 hown hK hP 18 (jc_18 cI cL ad σ9 τ) rfl 4 (by decide) (hts _ kw_4_5) (fun _ h9 => h9) rfl dX10_worked_250 ?_
                      refine lv_iload_n hx hb dX10_worked_253 rfl (lv_at hl 0 rfl) ?_
                      refine jald hx hb hK hP (jc_21 cI cL ad σ9 τ) (jin tx30 (by omega) (by omega)) dX10_worked_254 ?_
                      refine lv_topi (fun x36 ex36 => ?_)
                      refine jcallS (As := [.int x33, .int x35, .int x36]) (rest := [.int x31, .ref (ad 21)]) ⟨hx, hb, hml, hown, hts⟩ hK hP hA hS hZ (c_X10_joined l D cI cL ad zz hJ σ9 τ x33 (x20.toInt - 20000) tx33 x35 (x35.toInt) rfl x36 (x36.toInt) rfl) cw_RX10_38 ⟨Nat.le_of_ble_eq_true rfl, Nat.le_of_ble_eq_true rfl⟩ rfl rfl rfl hl.1 rfl (Nat.le_of_ble_eq_true rfl) dX10_worked_255 ⟨Nat.zero_le _, Nat.zero_le _⟩ (fun r38 σ37 τ37 H locs h37 hP hS => ?_)
                      obtain ⟨⟨rfl, rfl⟩, h37⟩ := h37
                      refine jast hx hb hK hP hJ hA hS (jc_21 cI cL ad σ9 τ) (ja_21 cI cL ad σ9 τ _ _) (jin tx31 (by omega) (by omega)) dX10_worked_258 (fun σ39 H locs eσ39 hP hS => ?_)
                      obtain ⟨x40, ex40⟩ : ∃ y : Int32, y = x6 + 1 := ⟨_, rfl⟩
                      have tx40 : x40.toInt = x6.toInt + 1 := (jadd ex40 rfl jz_1 (by omega) (by omega)).trans (by omega)
                      refine lv_iinc (v := x40) (lv' := [(2, .int x40), (1, .int x30), (3, .int x20), (0, .ref (ad 18))]) hx hb dX10_worked_259 hl (k := 2) rfl (by rw [ex40]; rfl) (by decide) rfl (fun ls hl => ?_)
                      refine lv_goto (tgt := 4) hx hb dX10_worked_262 (by decide) ?_
                      exact ihlp3 x30 x40 σ39 _ _ ls (by have h90 := tx30; have h91 := tx40; omega) (by have h90 := tx30; have h91 := tx40; omega) (by have h90 := tx30; have h91 := tx40; omega) (by have h90 := tx30; have h91 := tx40; omega) (by have h90 := tx30; have h91 := tx40; omega) (fun i hi => ((jnp i eσ39 (imp_35 i hi)).trans (f15 i hi)))    hP hS (lv_sub hl [0, 1, 3] rfl)
                  · have kc27 := jeq c27 rfl jz_20126
                    refine lv_aload_n hx hb dX10_worked_201 rfl (lv_at hl 3 rfl) ?_
                    refine va_get (D := D) hx hb hts inlX10 hown hK hP 18 (jc_18 cI cL ad σ9 τ) rfl 4 (by decide) (hts _ kw_4_5) (fun _ h9 => h9) rfl dX10_worked_202 ?_
                    refine lv_iload_n hx hb dX10_worked_205 rfl (lv_at hl 2 rfl) ?_
                    refine lv_iconst (v := 1) hx hb dX10_worked_206 (by decide) ?_
                    have g41 := jrg (rfl : x5.toInt = x5.toInt)
                    refine lv_isub hx hb dX10_worked_207 ?_
                    refine lv_topi (fun x42 ex42 => ?_)
                    have tx42 : x42.toInt = x5.toInt - 1 := (jsub ex42 rfl jz_1 (by omega) (by omega)).trans (by omega)
                    refine lv_aload_n hx hb dX10_worked_208 rfl (lv_at hl 3 rfl) ?_
                    refine va_get (D := D) hx hb hts inlX10 hown hK hP 18 (jc_18 cI cL ad σ9 τ) rfl 4 (by decide) (hts _ kw_4_5) (fun _ h9 => h9) rfl dX10_worked_209 ?_
                    refine lv_iload_n hx hb dX10_worked_212 rfl (lv_at hl 2 rfl) ?_
                    refine lv_iconst (v := 1) hx hb dX10_worked_213 (by decide) ?_
                    refine lv_isub hx hb dX10_worked_214 ?_
                    refine lv_topi (fun x43 ex43 => ?_)
                    have tx43 : x43.toInt = x5.toInt - 1 := (jsub ex43 rfl jz_1 (by omega) (by omega)).trans (by omega)
                    refine jald hx hb hK hP (jc_21 cI cL ad σ9 τ) (jin tx43 (by omega) (by omega)) dX10_worked_215 ?_
                    refine lv_topi (fun x44 ex44 => ?_)
                    refine lv_ineg hx hb dX10_worked_216 ?_
                    refine lv_topi (fun x45 ex45 => ?_)
                    have gx45 := jrg (rfl : x45.toInt = x45.toInt)
                    refine jast hx hb hK hP hJ hA hS (jc_21 cI cL ad σ9 τ) (ja_21 cI cL ad σ9 τ _ _) (jin tx42 (by omega) (by omega)) dX10_worked_217 (fun σ46 H locs eσ46 hP hS => ?_)
                    refine lv_goto (tgt := 259) hx hb dX10_worked_218 (by decide) ?_
                    obtain ⟨x47, ex47⟩ : ∃ y : Int32, y = x6 + 1 := ⟨_, rfl⟩
                    have tx47 : x47.toInt = x6.toInt + 1 := (jadd ex47 rfl jz_1 (by omega) (by omega)).trans (by omega)
                    refine lv_iinc (v := x47) (lv' := [(2, .int x47), (3, .int x20), (1, .int x5), (0, .ref (ad 18))]) hx hb dX10_worked_259 hl (k := 1) rfl (by rw [ex47]; rfl) (by decide) rfl (fun ls hl => ?_)
                    refine lv_goto (tgt := 4) hx hb dX10_worked_262 (by decide) ?_
                    exact ihlp3 x5 x47 σ46 _ _ ls (by have h91 := tx47; omega) (by have h91 := tx47; omega) (by have h91 := tx47; omega) (by have h91 := tx47; omega) (by have h91 := tx47; omega) (fun i hi => ((jnp i eσ46 (imp_35 i hi)).trans (f15 i hi)))    hP hS (lv_sub hl [0, 2, 3] rfl)
                · have kc26 := jeq c26 rfl jz_20033
                  refine lv_aload_n hx hb dX10_worked_167 rfl (lv_at hl 3 rfl) ?_
                  refine va_get (D := D) hx hb hts inlX10 hown hK hP 18 (jc_18 cI cL ad σ9 τ) rfl 4 (by decide) (hts _ kw_4_5) (fun _ h9 => h9) rfl dX10_worked_168 ?_
                  refine lv_iload_n hx hb dX10_worked_171 rfl (lv_at hl 2 rfl) ?_
                  refine lv_iconst (v := 1) hx hb dX10_worked_172 (by decide) ?_
                  have g48 := jrg (rfl : x5.toInt = x5.toInt)
                  refine lv_isub hx hb dX10_worked_173 ?_
                  refine lv_topi (fun x49 ex49 => ?_)
                  have tx49 : x49.toInt = x5.toInt - 1 := (jsub ex49 rfl jz_1 (by omega) (by omega)).trans (by omega)
                  refine lv_aload_n hx hb dX10_worked_174 rfl (lv_at hl 3 rfl) ?_
                  refine va_get (D := D) hx hb hts inlX10 hown hK hP 18 (jc_18 cI cL ad σ9 τ) rfl 4 (by decide) (hts _ kw_4_5) (fun _ h9 => h9) rfl dX10_worked_175 ?_
                  refine lv_iload_n hx hb dX10_worked_178 rfl (lv_at hl 2 rfl) ?_
                  refine lv_iconst (v := 1) hx hb dX10_worked_179 (by decide) ?_
                  refine lv_isub hx hb dX10_worked_180 ?_
                  refine lv_topi (fun x50 ex50 => ?_)
                  have tx50 : x50.toInt = x5.toInt - 1 := (jsub ex50 rfl jz_1 (by omega) (by omega)).trans (by omega)
                  refine jald hx hb hK hP (jc_21 cI cL ad σ9 τ) (jin tx50 (by omega) (by omega)) dX10_worked_181 ?_
                  refine lv_topi (fun x51 ex51 => ?_)
                  refine lv_if_ne (tgt := 189) hx hb dX10_worked_182 (by decide) (fun c52 => ?_) (fun c52 => ?_)
                  · have kc52 := jne c52 rfl jz_0
                    refine lv_iconst (v := 0) hx hb dX10_worked_189 (by decide) ?_
                    refine jast hx hb hK hP hJ hA hS (jc_21 cI cL ad σ9 τ) (ja_21 cI cL ad σ9 τ _ _) (jin tx49 (by omega) (by omega)) dX10_worked_190 (fun σ53 H locs eσ53 hP hS => ?_)
                    refine lv_goto (tgt := 259) hx hb dX10_worked_191 (by decide) ?_
                    obtain ⟨x54, ex54⟩ : ∃ y : Int32, y = x6 + 1 := ⟨_, rfl⟩
                    have tx54 : x54.toInt = x6.toInt + 1 := (jadd ex54 rfl jz_1 (by omega) (by omega)).trans (by omega)
                    refine lv_iinc (v := x54) (lv' := [(2, .int x54), (3, .int x20), (1, .int x5), (0, .ref (ad 18))]) hx hb dX10_worked_259 hl (k := 1) rfl (by rw [ex54]; rfl) (by decide) rfl (fun ls hl => ?_)
                    refine lv_goto (tgt := 4) hx hb dX10_worked_262 (by decide) ?_
                    exact ihlp3 x5 x54 σ53 _ _ ls (by have h91 := tx54; omega) (by have h91 := tx54; omega) (by have h91 := tx54; omega) (by have h91 := tx54; omega) (by have h91 := tx54; omega) (fun i hi => ((jnp i eσ53 (imp_35 i hi)).trans (f15 i hi)))    hP hS (lv_sub hl [0, 2, 3] rfl)
                  · have kc52 := jeq c52 rfl jz_0
                    refine lv_iconst (v := 1) hx hb dX10_worked_185 (by decide) ?_
                    refine lv_goto (tgt := 190) hx hb dX10_worked_186 (by decide) ?_
                    refine jast hx hb hK hP hJ hA hS (jc_21 cI cL ad σ9 τ) (ja_21 cI cL ad σ9 τ _ _) (jin tx49 (by omega) (by omega)) dX10_worked_190 (fun σ55 H locs eσ55 hP hS => ?_)
                    refine lv_goto (tgt := 259) hx hb dX10_worked_191 (by decide) ?_
                    obtain ⟨x56, ex56⟩ : ∃ y : Int32, y = x6 + 1 := ⟨_, rfl⟩
                    have tx56 : x56.toInt = x6.toInt + 1 := (jadd ex56 rfl jz_1 (by omega) (by omega)).trans (by omega)
                    refine lv_iinc (v := x56) (lv' := [(2, .int x56), (3, .int x20), (1, .int x5), (0, .ref (ad 18))]) hx hb dX10_worked_259 hl (k := 1) rfl (by rw [ex56]; rfl) (by decide) rfl (fun ls hl => ?_)
                    refine lv_goto (tgt := 4) hx hb dX10_worked_262 (by decide) ?_
                    exact ihlp3 x5 x56 σ55 _ _ ls (by have h91 := tx56; omega) (by have h91 := tx56; omega) (by have h91 := tx56; omega) (by have h91 := tx56; omega) (by have h91 := tx56; omega) (fun i hi => ((jnp i eσ55 (imp_35 i hi)).trans (f15 i hi)))    hP hS (lv_sub hl [0, 2, 3] rfl)
              · have kc25 := jeq c25 rfl jz_20063
                refine lv_aload_n hx hb dX10_worked_108 rfl (lv_at hl 3 rfl) ?_
                refine va_get (D := D) hx hb hts inlX10 hown hK hP 18 (jc_18 cI cL ad σ9 τ) rfl 4 (by decide) (hts _ kw_4_5) (fun _ h9 => h9) rfl dX10_worked_109 ?_
                refine lv_iload_n hx hb dX10_worked_112 rfl (lv_at hl 2 rfl) ?_
                refine lv_iconst (v := 1) hx hb dX10_worked_113 (by decide) ?_
                have g57 := jrg (rfl : x5.toInt = x5.toInt)
                refine lv_isub hx hb dX10_worked_114 ?_
                refine lv_topi (fun x58 ex58 => ?_)
                have tx58 : x58.toInt = x5.toInt - 1 := (jsub ex58 rfl jz_1 (by omega) (by omega)).trans (by omega)
                refine jald hx hb hK hP (jc_21 cI cL ad σ9 τ) (jin tx58 (by omega) (by omega)) dX10_worked_115 ?_
                refine lv_topi (fun x59 ex59 => ?_)
                refine lv_if_eq (tgt := 123) hx hb dX10_worked_116 (by decide) (fun c60 => ?_) (fun c60 => ?_)
                · have kc60 := jeq c60 rfl jz_0
                  refine lv_iconst (v := 0) hx hb dX10_worked_123 (by decide) ?_
                  refine lv_istore (lv' := [(4, .int 0), (3, .int x20), (2, .int x6), (1, .int x5), (0, .ref (ad 18))]) hx hb dX10_worked_124 hl (by decide) rfl (fun ls hl => ?_)
                  refine lv_iconst (v := 0) hx hb dX10_worked_126 (by decide) ?_
                  refine lv_istore_n (lv' := [(1, .int 0), (4, .int 0), (3, .int x20), (2, .int x6), (0, .ref (ad 18))]) hx hb dX10_worked_127 rfl hl (by decide) rfl (fun ls hl => ?_)
                  obtain ⟨x61, ex61⟩ : ∃ y : Int32, y = x6 + 1 := ⟨_, rfl⟩
                  have tx61 : x61.toInt = x6.toInt + 1 := (jadd ex61 rfl jz_1 (by omega) (by omega)).trans (by omega)
                  refine lv_iinc (v := x61) (lv' := [(2, .int x61), (1, .int 0), (4, .int 0), (3, .int x20), (0, .ref (ad 18))]) hx hb dX10_worked_128 hl (k := 3) rfl (by rw [ex61]; rfl) (by decide) rfl (fun ls hl => ?_)
                  refine lv_iload hx hb dX10_worked_131 (lv_at hl 2 rfl) ?_
                  refine lv_if_ne (tgt := 157) hx hb dX10_worked_133 (by decide) (fun c => absurd (by decide) c) (fun _ => ?_)
                  refine lv_iload_n hx hb dX10_worked_136 rfl (lv_at hl 0 rfl) ?_
                  refine lv_aload_n hx hb dX10_worked_137 rfl (lv_at hl 4 rfl) ?_
                  refine va_get (D := D) hx hb hts inlX10 hown hK hP 18 (jc_18 cI cL ad σ9 τ) rfl 0 (by decide) (hts _ kw_16_20) (fun _ h9 => h9) rfl dX10_worked_138 ?_
                  refine jtopr m16 ?_
                  refine lv_icmp_ge (tgt := 157) hx hb dX10_worked_141 (by decide) (fun c62 => ?_) (fun c62 => ?_)
                  · have kc62 := jle c62 rfl tx61
                    refine lv_goto (tgt := 259) hx hb dX10_worked_157 (by decide) ?_
                    obtain ⟨x63, ex63⟩ : ∃ y : Int32, y = x61 + 1 := ⟨_, rfl⟩
                    have tx63 : x63.toInt = x6.toInt + 2 := (jadd ex63 tx61 jz_1 (by omega) (by omega)).trans (by omega)
                    refine lv_iinc (v := x63) (lv' := [(2, .int x63), (1, .int 0), (4, .int 0), (3, .int x20), (0, .ref (ad 18))]) hx hb dX10_worked_259 hl (k := 0) rfl (by rw [ex63]; rfl) (by decide) rfl (fun ls hl => ?_)
                    refine lv_goto (tgt := 4) hx hb dX10_worked_262 (by decide) ?_
                    exact ihlp3 0 x63 σ9 _ _ ls (by have h90 := jz_0; have h91 := tx63; omega) (by have h90 := jz_0; have h91 := tx63; omega) (by have h90 := jz_0; have h91 := tx63; omega) (by have h90 := jz_0; have h91 := tx63; omega) (by have h90 := jz_0; have h91 := tx63; omega) (fun i hi => (f15 i hi))    hP hS (lv_sub hl [0, 1, 4] rfl)
                  · have kc62 := jnle c62 rfl tx61
                    refine lv_iload_n hx hb dX10_worked_144 rfl (lv_at hl 0 rfl) ?_
                    refine lv_aload_n hx hb dX10_worked_145 rfl (lv_at hl 4 rfl) ?_
                    refine va_get (D := D) hx hb hts inlX10 hown hK hP 18 (jc_18 cI cL ad σ9 τ) rfl 2 (by decide) (hts _ kw_4_3) (fun _ h9 => h9) rfl dX10_worked_146 ?_
                    refine lv_iload_n hx hb dX10_worked_149 rfl (lv_at hl 0 rfl) ?_
                    refine jald hx hb hK hP (jc_19 cI cL ad σ9 τ) (jin tx61 (by omega) (by omega)) dX10_worked_150 ?_
                    have g64 := w18 _ (jnat (x := x61) tx61 (n := 160) (by omega) (by decide))
                    refine lv_topi (fun x65 ex65 => ?_)
                    rw [← ex65] at g64
                    refine lv_iconst (v := 1) hx hb dX10_worked_151 (by decide) ?_
                    have g66 := jrg (rfl : x65.toInt = x65.toInt)
                    refine lv_isub hx hb dX10_worked_152 ?_
                    refine lv_topi (fun x67 ex67 => ?_)
                    have tx67 : x67.toInt = x65.toInt - 1 := (jsub ex67 rfl jz_1 (by omega) (by omega)).trans (by omega)
                    refine va_mmax hx hb (hml.trans hl.1.symm) hown (hts _ kw_22_21) (hts _ kw_21_0) (hts _ kw_21_1) (hts _ kw_21_2) (Nat.le_of_ble_eq_true rfl) (Nat.le_of_ble_eq_true rfl) (Nat.le_of_ble_eq_true rfl) (Nat.le_of_ble_eq_true rfl) dX10_worked_153 ?_
                    refine lv_topi (fun x68 ex68 => ?_)
                    have g69 := jmax ex68 tx61 tx67
                    refine lv_istore_n (lv' := [(2, .int x68), (1, .int 0), (4, .int 0), (3, .int x20), (0, .ref (ad 18))]) hx hb dX10_worked_156 rfl hl (by decide) rfl (fun ls hl => ?_)
                    refine lv_goto (tgt := 259) hx hb dX10_worked_157 (by decide) ?_
                    obtain ⟨x70, ex70⟩ : ∃ y : Int32, y = x68 + 1 := ⟨_, rfl⟩
                    have tx70 : x70.toInt = x68.toInt + 1 := (jadd ex70 rfl jz_1 (by omega) (by omega)).trans (by omega)
                    refine lv_iinc (v := x70) (lv' := [(2, .int x70), (1, .int 0), (4, .int 0), (3, .int x20), (0, .ref (ad 18))]) hx hb dX10_worked_259 hl (k := 0) rfl (by rw [ex70]; rfl) (by decide) rfl (fun ls hl => ?_)
                    refine lv_goto (tgt := 4) hx hb dX10_worked_262 (by decide) ?_
                    exact ihlp3 0 x70 σ9 _ _ ls (by have h90 := jz_0; have h91 := tx70; omega) (by have h90 := jz_0; have h91 := tx70; omega) (by have h90 := jz_0; have h91 := tx70; omega) (by have h90 := jz_0; have h91 := tx70; omega) (by have h90 := jz_0; have h91 := tx70; omega) (fun i hi => (f15 i hi))    hP hS (lv_sub hl [0, 1, 4] rfl)
                · have kc60 := jne c60 rfl jz_0
                  refine lv_iconst (v := 1) hx hb dX10_worked_119 (by decide) ?_
                  refine lv_goto (tgt := 124) hx hb dX10_worked_120 (by decide) ?_
                  refine lv_istore (lv' := [(4, .int 1), (3, .int x20), (2, .int x6), (1, .int x5), (0, .ref (ad 18))]) hx hb dX10_worked_124 hl (by decide) rfl (fun ls hl => ?_)
                  refine lv_iconst (v := 0) hx hb dX10_worked_126 (by decide) ?_
                  refine lv_istore_n (lv' := [(1, .int 0), (4, .int 1), (3, .int x20), (2, .int x6), (0, .ref (ad 18))]) hx hb dX10_worked_127 rfl hl (by decide) rfl (fun ls hl => ?_)
                  obtain ⟨x71, ex71⟩ : ∃ y : Int32, y = x6 + 1 := ⟨_, rfl⟩
                  have tx71 : x71.toInt = x6.toInt + 1 := (jadd ex71 rfl jz_1 (by omega) (by omega)).trans (by omega)
                  refine lv_iinc (v := x71) (lv' := [(2, .int x71), (1, .int 0), (4, .int 1), (3, .int x20), (0, .ref (ad 18))]) hx hb dX10_worked_128 hl (k := 3) rfl (by rw [ex71]; rfl) (by decide) rfl (fun ls hl => ?_)
                  refine lv_iload hx hb dX10_worked_131 (lv_at hl 2 rfl) ?_
                  refine lv_if_ne (tgt := 157) hx hb dX10_worked_133 (by decide) (fun _ => ?_) (fun c => absurd c (by decide))
                  refine lv_goto (tgt := 259) hx hb dX10_worked_157 (by decide) ?_
                  obtain ⟨x72, ex72⟩ : ∃ y : Int32, y = x71 + 1 := ⟨_, rfl⟩
                  have tx72 : x72.toInt = x6.toInt + 2 := (jadd ex72 tx71 jz_1 (by omega) (by omega)).trans (by omega)
                  refine lv_iinc (v := x72) (lv' := [(2, .int x72), (1, .int 0), (4, .int 1), (3, .int x20), (0, .ref (ad 18))]) hx hb dX10_worked_259 hl (k := 0) rfl (by rw [ex72]; rfl) (by decide) rfl (fun ls hl => ?_)
                  refine lv_goto (tgt := 4) hx hb dX10_worked_262 (by decide) ?_
                  exact ihlp3 0 x72 σ9 _ _ ls (by have h90 := jz_0; have h91 := tx72; omega) (by have h90 := jz_0; have h91 := tx72; omega) (by have h90 := jz_0; have h91 := tx72; omega) (by have h90 := jz_0; have h91 := tx72; omega) (by have h90 := jz_0; have h91 := tx72; omega) (fun i hi => (f15 i hi))    hP hS (lv_sub hl [0, 1, 4] rfl)
            · have kc24 := jeq c24 rfl jz_20059
              refine lv_iload_n hx hb dX10_worked_83 rfl (lv_at hl 2 rfl) ?_
              refine lv_iconst (v := 1) hx hb dX10_worked_84 (by decide) ?_
              refine lv_icmp_ge (tgt := 92) hx hb dX10_worked_85 (by decide) (fun c73 => ?_) (fun c => absurd (jnle c jz_1 rfl) (by omega))
              have kc73 := jle c73 jz_1 rfl
              refine lv_aload_n hx hb dX10_worked_92 rfl (lv_at hl 3 rfl) ?_
              refine va_get (D := D) hx hb hts inlX10 hown hK hP 18 (jc_18 cI cL ad σ9 τ) rfl 4 (by decide) (hts _ kw_4_5) (fun _ h9 => h9) rfl dX10_worked_93 ?_
              refine lv_iload_n hx hb dX10_worked_96 rfl (lv_at hl 2 rfl) ?_
              refine lv_iconst (v := 1) hx hb dX10_worked_97 (by decide) ?_
              have g74 := jrg (rfl : x5.toInt = x5.toInt)
              refine lv_isub hx hb dX10_worked_98 ?_
              refine lv_topi (fun x75 ex75 => ?_)
              have tx75 : x75.toInt = x5.toInt - 1 := (jsub ex75 rfl jz_1 (by omega) (by omega)).trans (by omega)
              refine jald hx hb hK hP (jc_21 cI cL ad σ9 τ) (jin tx75 (by omega) (by omega)) dX10_worked_99 ?_
              refine lv_topi (fun x76 ex76 => ?_)
              exact hret x76 σ9 τ _ _ _ _ rfl ⟨rfl, (fun i hi => (f15 i hi)), trivial⟩ hP hS dX10_worked_100
        · have kc21 := jnle c21 jz_20000 rfl
          refine lv_iload_n hx hb dX10_worked_26 rfl (lv_at hl 2 rfl) ?_
          refine lv_sipush (v := 160) hx hb dX10_worked_27 (by decide) ?_
          refine lv_icmp_lt (tgt := 35) hx hb dX10_worked_30 (by decide) (fun c77 => ?_) (fun c77 => ?_)
          · have kc77 := jlt c77 rfl jz_160
            refine lv_aload_n hx hb dX10_worked_35 rfl (lv_at hl 3 rfl) ?_
            refine va_get (D := D) hx hb hts inlX10 hown hK hP 18 (jc_18 cI cL ad σ9 τ) rfl 4 (by decide) (hts _ kw_4_5) (fun _ h9 => h9) rfl dX10_worked_36 ?_
            refine lv_iload_n hx hb dX10_worked_39 rfl (lv_at hl 2 rfl) ?_
            obtain ⟨x78, ex78⟩ : ∃ y : Int32, y = x5 + 1 := ⟨_, rfl⟩
            have tx78 : x78.toInt = x5.toInt + 1 := (jadd ex78 rfl jz_1 (by omega) (by omega)).trans (by omega)
            refine lv_iinc (v := x78) (lv' := [(1, .int x78), (3, .int x20), (2, .int x6), (0, .ref (ad 18))]) hx hb dX10_worked_40 hl (k := 2) rfl (by rw [ex78]; rfl) (by decide) rfl (fun ls hl => ?_)
            refine lv_iload_n hx hb dX10_worked_43 rfl (lv_at hl 1 rfl) ?_
            refine lv_sipush (v := 10000) hx hb dX10_worked_44 (by decide) ?_
            refine lv_icmp_ge (tgt := 54) hx hb dX10_worked_47 (by decide) (fun c79 => ?_) (fun c79 => ?_)
            · have kc79 := jle c79 jz_10000 rfl
              refine lv_aload_n hx hb dX10_worked_54 rfl (lv_at hl 3 rfl) ?_
              refine va_get (D := D) hx hb hts inlX10 hown hK hP 18 (jc_18 cI cL ad σ9 τ) rfl 3 (by decide) (hts _ kw_4_4) (fun _ h9 => h9) rfl dX10_worked_55 ?_
              refine lv_iload_n hx hb dX10_worked_58 rfl (lv_at hl 1 rfl) ?_
              refine lv_sipush (v := 10000) hx hb dX10_worked_59 (by decide) ?_
              have g80 := jrg (rfl : x20.toInt = x20.toInt)
              refine lv_isub hx hb dX10_worked_62 ?_
              refine lv_topi (fun x81 ex81 => ?_)
              have tx81 : x81.toInt = x20.toInt - 10000 := (jsub ex81 rfl jz_10000 (by omega) (by omega)).trans (by omega)
              refine lv_bipush (v := 7) hx hb dX10_worked_63 (by decide) ?_
              refine lv_iand hx hb dX10_worked_65 ?_
              refine lv_topi (fun x82 ex82 => ?_)
              have gx82 := jrg (rfl : x82.toInt = x82.toInt)
              have g83 : 0 ≤ x82.toInt ∧ x82.toInt ≤ 7 := jmask ex82 3 (by decide) (by decide)
              refine jald hx hb hK hP (jc_20 cI cL ad σ9 τ) (jin rfl (by omega) (by omega)) dX10_worked_66 ?_
              refine lv_topi (fun x84 ex84 => ?_)
              refine jast hx hb hK hP hJ hA hS (jc_21 cI cL ad σ9 τ) (ja_21 cI cL ad σ9 τ _ _) (jin rfl (by omega) (by omega)) dX10_worked_67 (fun σ85 H locs eσ85 hP hS => ?_)
              refine lv_goto (tgt := 259) hx hb dX10_worked_68 (by decide) ?_
              obtain ⟨x86, ex86⟩ : ∃ y : Int32, y = x6 + 1 := ⟨_, rfl⟩
              have tx86 : x86.toInt = x6.toInt + 1 := (jadd ex86 rfl jz_1 (by omega) (by omega)).trans (by omega)
              refine lv_iinc (v := x86) (lv' := [(2, .int x86), (1, .int x78), (3, .int x20), (0, .ref (ad 18))]) hx hb dX10_worked_259 hl (k := 2) rfl (by rw [ex86]; rfl) (by decide) rfl (fun ls hl => ?_)
              refine lv_goto (tgt := 4) hx hb dX10_worked_262 (by decide) ?_
              exact ihlp3 x78 x86 σ85 _ _ ls (by have h90 := tx78; have h91 := tx86; omega) (by have h90 := tx78; have h91 := tx86; omega) (by have h90 := tx78; have h91 := tx86; omega) (by have h90 := tx78; have h91 := tx86; omega) (by have h90 := tx78; have h91 := tx86; omega) (fun i hi => ((jnp i eσ85 (imp_35 i hi)).trans (f15 i hi)))    hP hS (lv_sub hl [0, 1, 3] rfl)
            · have kc79 := jnle c79 jz_10000 rfl
              refine lv_iload_n hx hb dX10_worked_50 rfl (lv_at hl 1 rfl) ?_
              refine lv_goto (tgt := 67) hx hb dX10_worked_51 (by decide) ?_
              refine jast hx hb hK hP hJ hA hS (jc_21 cI cL ad σ9 τ) (ja_21 cI cL ad σ9 τ _ _) (jin rfl (by omega) (by omega)) dX10_worked_67 (fun σ87 H locs eσ87 hP hS => ?_)
              refine lv_goto (tgt := 259) hx hb dX10_worked_68 (by decide) ?_
              obtain ⟨x88, ex88⟩ : ∃ y : Int32, y = x6 + 1 := ⟨_, rfl⟩
              have tx88 : x88.toInt = x6.toInt + 1 := (jadd ex88 rfl jz_1 (by omega) (by omega)).trans (by omega)
              refine lv_iinc (v := x88) (lv' := [(2, .int x88), (1, .int x78), (3, .int x20), (0, .ref (ad 18))]) hx hb dX10_worked_259 hl (k := 2) rfl (by rw [ex88]; rfl) (by decide) rfl (fun ls hl => ?_)
              refine lv_goto (tgt := 4) hx hb dX10_worked_262 (by decide) ?_
              exact ihlp3 x78 x88 σ87 _ _ ls (by have h90 := tx78; have h91 := tx88; omega) (by have h90 := tx78; have h91 := tx88; omega) (by have h90 := tx78; have h91 := tx88; omega) (by have h90 := tx78; have h91 := tx88; omega) (by have h90 := tx78; have h91 := tx88; omega) (fun i hi => ((jnp i eσ87 (imp_35 i hi)).trans (f15 i hi)))    hP hS (lv_sub hl [0, 1, 3] rfl)
          · have kc77 := jnlt c77 rfl jz_160
            refine lv_iconst (v := 0) hx hb dX10_worked_33 (by decide) ?_
            exact hret 0 σ9 τ _ _ _ _ rfl ⟨rfl, (fun i hi => (f15 i hi)), trivial⟩ hP hS dX10_worked_34
  exact lp3 1000000 0 0 σ _ _ ls (by have h90 := jz_0; have h91 := jz_0; omega) (by have h90 := jz_0; have h91 := jz_0; omega) (by have h90 := jz_0; have h91 := jz_0; omega) (by have h90 := jz_0; have h91 := jz_0; omega) (by have h90 := jz_0; have h91 := jz_0; omega) (fun _ _ => rfl)   hP hS hl
set_option maxHeartbeats 4000000 in
set_option maxRecDepth 100000 in
theorem c_X10_worked_22 (l : Launch) (D : va_G) (cI cL : ClassId) (ad zz : Nat → Nat) (hJ : jD ad) (σ : Nat → Nat → Int32) (τ : Nat → Nat → Int64) (hI22 : jI22 σ) : jM l yX10_worked cX10_worked 5 (some .int) ({ frames := 1, cells := 0, slots := 0, locals := 22 }) D cI cL ad zz [.ref (ad 22)] σ τ (fun r σ' τ' => τ = τ' ∧ (∀ i : Nat, (i < 25 ∨ 25 < i) → σ' i = σ i) ∧ True) := by
  refine jM.of hJ (by decide +kernel) (nt := .int) rfl (Nat.le_of_ble_eq_true rfl) ?_
  intro p e s m args below meth c Q ls hC hret hl hP
  obtain ⟨hx, hb, hr, hml, hown, hts, hK, -, hlocks, hZ⟩ := hC
  have hown : s.vm.findClass RX10 = some m.cls := hown
  have hS : va_S (jA ad) s.heap s.heap [] := va_S.rf
  have hA : ∀ q, jA ad q → jA ad q := fun _ h => h
  have hl : lv_has ls 5 [(0, .ref (ad 22))] := hl
  obtain ⟨i1, w2⟩ : (0 ≤ (σ 22 0).toInt ∧ (σ 22 0).toInt ≤ 160) ∧ (∀ k : Nat, k < 160 → 0 ≤ (σ 23 k).toInt ∧ (σ 23 k).toInt ≤ 30000) := id hI22
  refine lv_iconst (v := 0) hx hb dX10_worked_0 (by decide) ?_
  refine lv_istore_n (lv' := [(1, .int 0), (0, .ref (ad 22))]) hx hb dX10_worked_1 rfl hl (by decide) rfl (fun ls hl => ?_)
  refine lv_iconst (v := 0) hx hb dX10_worked_2 (by decide) ?_
  refine lv_istore_n (lv' := [(2, .int 0), (1, .int 0), (0, .ref (ad 22))]) hx hb dX10_worked_3 rfl hl (by decide) rfl (fun ls hl => ?_)
  have lp3 : ∀ (n4 : Nat) (x5 : Int32) (x6 : Int32) (σ9 : Nat → Nat → Int32) (H : Heap) (locs : List Loc) (ls : Array Slot), (-x6.toInt + 30001 : Int) < n4 → 0 ≤ x5.toInt → x5.toInt ≤ 160 → 0 ≤ x6.toInt → x6.toInt ≤ 30000 → (∀ i : Nat, (i < 25 ∨ 25 < i) → σ9 i = σ i) → jH D cI cL ad σ9 τ H → va_S (jA ad) s.heap H locs → lv_has ls 5 [(2, .int x6), (1, .int x5), (0, .ref (ad 22))] → W p l e ({ frames := 1, cells := 0, slots := 0, locals := 22 }) s m args below meth c H locs 0 0 Q (F0 m 4 ls []) := by
    intro n4
    induction n4 with
    | zero => intro x5 x6 σ9 H locs ls h10 h11 h12 h13 h14; exact absurd h10 (by omega)
    | succ n4 ihlp3 =>
      intro x5 x6 σ9 H locs ls h10 h11 h12 h13 h14 f15 hP hS hl
      refine lv_iload_n hx hb dX10_worked_4 rfl (lv_at hl 0 rfl) ?_
      refine lv_aload_n hx hb dX10_worked_5 rfl (lv_at hl 2 rfl) ?_
      refine va_get (D := D) hx hb hts inlX10 hown hK hP 22 (jc_22 cI cL ad σ9 τ) rfl 0 (by decide) (hts _ kw_16_20) (fun _ h9 => h9) rfl dX10_worked_6 ?_
      have m16 : σ9 22 0 = (σ 22 0) := (congrFun (f15 22 (by decide)) 0)
      refine jtopr m16 ?_
      refine lv_icmp_ge (tgt := 265) hx hb dX10_worked_9 (by decide) (fun c17 => ?_) (fun c17 => ?_)
      · have kc17 := jle c17 rfl rfl
        refine lv_iconst (v := 0) hx hb dX10_worked_265 (by decide) ?_
        exact hret 0 σ9 τ _ _ _ _ rfl ⟨rfl, (fun i hi => (f15 i hi)), trivial⟩ hP hS dX10_worked_266
      · have kc17 := jnle c17 rfl rfl
        refine lv_aload_n hx hb dX10_worked_12 rfl (lv_at hl 2 rfl) ?_
        refine va_get (D := D) hx hb hts inlX10 hown hK hP 22 (jc_22 cI cL ad σ9 τ) rfl 2 (by decide) (hts _ kw_4_3) (fun _ h9 => h9) rfl dX10_worked_13 ?_
        refine lv_iload_n hx hb dX10_worked_16 rfl (lv_at hl 0 rfl) ?_
        refine jald hx hb hK hP (jc_23 cI cL ad σ9 τ) (jin rfl (by omega) (by omega)) dX10_worked_17 ?_
        have w18 : ∀ k : Nat, k < 160 → 0 ≤ (σ9 23 k).toInt ∧ (σ9 23 k).toInt ≤ 30000 := (jrr_fr (f15 23 (by decide)) w2)
        have g19 := w18 _ (jnat (x := x6) rfl (n := 160) (by omega) (by decide))
        refine lv_topi (fun x20 ex20 => ?_)
        rw [← ex20] at g19
        refine lv_istore_n (lv' := [(3, .int x20), (2, .int x6), (1, .int x5), (0, .ref (ad 22))]) hx hb dX10_worked_18 rfl hl (by decide) rfl (fun ls hl => ?_)
        refine lv_iload_n hx hb dX10_worked_19 rfl (lv_at hl 0 rfl) ?_
        refine lv_sipush (v := 20000) hx hb dX10_worked_20 (by decide) ?_
        refine lv_icmp_ge (tgt := 71) hx hb dX10_worked_23 (by decide) (fun c21 => ?_) (fun c21 => ?_)
        · have kc21 := jle c21 jz_20000 rfl
          refine lv_iload_n hx hb dX10_worked_71 rfl (lv_at hl 2 rfl) ?_
          refine lv_iconst (v := 1) hx hb dX10_worked_72 (by decide) ?_
          refine lv_icmp_lt (tgt := 83) hx hb dX10_worked_73 (by decide) (fun c22 => ?_) (fun c22 => ?_)
          · have kc22 := jlt c22 rfl jz_1
            refine lv_iload_n hx hb dX10_worked_83 rfl (lv_at hl 2 rfl) ?_
            refine lv_iconst (v := 1) hx hb dX10_worked_84 (by decide) ?_
            refine lv_icmp_ge (tgt := 92) hx hb dX10_worked_85 (by decide) (fun c => absurd (jle c jz_1 rfl) (by omega)) (fun c23 => ?_)
            have kc23 := jnle c23 jz_1 rfl
            refine lv_iconst (v := 0) hx hb dX10_worked_88 (by decide) ?_
            refine lv_goto (tgt := 100) hx hb dX10_worked_89 (by decide) ?_
            exact hret 0 σ9 τ _ _ _ _ rfl ⟨rfl, (fun i hi => (f15 i hi)), trivial⟩ hP hS dX10_worked_100
          · have kc22 := jnlt c22 rfl jz_1
            refine lv_iload_n hx hb dX10_worked_76 rfl (lv_at hl 0 rfl) ?_
            refine lv_sipush (v := 20059) hx hb dX10_worked_77 (by decide) ?_
            refine lv_icmp_ne (tgt := 101) hx hb dX10_worked_80 (by decide) (fun c24 => ?_) (fun c24 => ?_)
            · have kc24 := jne c24 rfl jz_20059
              refine lv_iload_n hx hb dX10_worked_101 rfl (lv_at hl 0 rfl) ?_
              refine lv_sipush (v := 20063) hx hb dX10_worked_102 (by decide) ?_
              refine lv_icmp_ne (tgt := 160) hx hb dX10_worked_105 (by decide) (fun c25 => ?_) (fun c25 => ?_)
              · have kc25 := jne c25 rfl jz_20063
                refine lv_iload_n hx hb dX10_worked_160 rfl (lv_at hl 0 rfl) ?_
                refine lv_sipush (v := 20033) hx hb dX10_worked_161 (by decide) ?_
                refine lv_icmp_ne (tgt := 194) hx hb dX10_worked_164 (by decide) (fun c26 => ?_) (fun c26 => ?_)
                · have kc26 := jne c26 rfl jz_20033
                  refine lv_iload_n hx hb dX10_worked_194 rfl (lv_at hl 0 rfl) ?_
                  refine lv_sipush (v := 20126) hx hb dX10_worked_195 (by decide) ?_
                  refine lv_icmp_ne (tgt := 221) hx hb dX10_worked_198 (by decide) (fun c27 => ?_) (fun c27 => ?_)
                  · have kc27 := jne c27 rfl jz_20126
                    refine lv_iload_n hx hb dX10_worked_221 rfl (lv_at hl 2 rfl) ?_
                    refine lv_iconst (v := 1) hx hb dX10_worked_222 (by decide) ?_
                    refine lv_icmp_le (tgt := 259) hx hb dX10_worked_223 (by decide) (fun c28 => ?_) (fun c28 => ?_)
                    · have kc28 := jle c28 rfl jz_1
                      obtain ⟨x29, ex29⟩ : ∃ y : Int32, y = x6 + 1 := ⟨_, rfl⟩
                      have tx29 : x29.toInt = x6.toInt + 1 := (jadd ex29 rfl jz_1 (by omega) (by omega)).trans (by omega)
                      refine lv_iinc (v := x29) (lv' := [(2, .int x29), (3, .int x20), (1, .int x5), (0, .ref (ad 22))]) hx hb dX10_worked_259 hl (k := 1) rfl (by rw [ex29]; rfl) (by decide) rfl (fun ls hl => ?_)
                      refine lv_goto (tgt := 4) hx hb dX10_worked_262 (by decide) ?_
                      exact ihlp3 x5 x29 σ9 _ _ ls (by have h91 := tx29; omega) (by have h91 := tx29; omega) (by have h91 := tx29; omega) (by have h91 := tx29; omega) (by have h91 := tx29; omega) (fun i hi => (f15 i hi))    hP hS (lv_sub hl [0, 2, 3] rfl)
                    · have kc28 := jnle c28 rfl jz_1
                      obtain ⟨x30, ex30⟩ : ∃ y : Int32, y = x5 + (-1) := ⟨_, rfl⟩
                      have tx30 : x30.toInt = x5.toInt - 1 := (jadd ex30 rfl jz_m1 (by omega) (by omega)).trans (by omega)
                      refine lv_iinc (v := x30) (lv' := [(1, .int x30), (3, .int x20), (2, .int x6), (0, .ref (ad 22))]) hx hb dX10_worked_226 hl (k := 2) rfl (by rw [ex30]; rfl) (by decide) rfl (fun ls hl => ?_)
                      refine lv_aload_n hx hb dX10_worked_229 rfl (lv_at hl 3 rfl) ?_
                      refine va_get (D := D) hx hb hts inlX10 hown hK hP 22 (jc_22 cI cL ad σ9 τ) rfl 4 (by decide) (hts _ kw_4_5) (fun _ h9 => h9) rfl dX10_worked_230 ?_
                      refine lv_iload_n hx hb dX10_worked_233 rfl (lv_at hl 0 rfl) ?_
                      refine lv_iconst (v := 1) hx hb dX10_worked_234 (by decide) ?_
                      refine lv_isub hx hb dX10_worked_235 ?_
                      refine lv_topi (fun x31 ex31 => ?_)
                      have tx31 : x31.toInt = x5.toInt - 2 := (jsub ex31 tx30 jz_1 (by omega) (by omega)).trans (by omega)
                      refine lv_iload_n hx hb dX10_worked_236 rfl (lv_at hl 1 rfl) ?_
                      refine lv_sipush (v := 20000) hx hb dX10_worked_237 (by decide) ?_
                      have g32 := jrg (rfl : x20.toInt = x20.toInt)
                      refine lv_isub hx hb dX10_worked_240 ?_
                      refine lv_topi (fun x33 ex33 => ?_)
                      have tx33 : x33.toInt = x20.toInt - 20000 := (jsub ex33 rfl jz_20000 (by omega) (by omega)).trans (by omega)
                      refine lv_aload_n hx hb dX10_worked_241 rfl (lv_at hl 3 rfl) ?_
                      refine va_get (D := D) hx hb hts inlX10 hown hK hP 22 (jc_22 cI cL ad σ9 τ) rfl 4 (by decide) (hts _ kw_4_5) (fun _ h9 => h9) rfl dX10_worked_242 ?_
                      refine lv_iload_n hx hb dX10_worked_245 rfl (lv_at hl 0 rfl) ?_
                      refine lv_iconst (v := 1) hx hb dX10_worked_246 (by decide) ?_
                      refine lv_isub hx hb dX10_worked_247 ?_
                      refine lv_topi (fun x34 ex34 => ?_)
                      have tx34 : x34.toInt = x5.toInt - 2 := (jsub ex34 tx30 jz_1 (by omega) (by omega)).trans (by omega)
                      refine jald hx hb hK hP (jc_25 cI cL ad σ9 τ) (jin tx34 (by omega) (by omega)) dX10_worked_248 ?_
                      refine lv_topi (fun x35 ex35 => ?_)
                      refine lv_aload_n hx hb dX10_worked_249 rfl (lv_at hl 3 rfl) ?_
                      refine va_get (D := D) hx hb hts inlX10 hown hK hP 22 (jc_22 cI cL ad σ9 τ) rfl 4 (by decide) (hts _ kw_4_5) (fun _ h9 => h9) rfl dX10_worked_250 ?_
                      refine lv_iload_n hx hb dX10_worked_253 rfl (lv_at hl 0 rfl) ?_
                      refine jald hx hb hK hP (jc_25 cI cL ad σ9 τ) (jin tx30 (by omega) (by omega)) dX10_worked_254 ?_
                      refine lv_topi (fun x36 ex36 => ?_)
                      refine jcallS (As := [.int x33, .int x35, .int x36]) (rest := [.int x31, .ref (ad 25)]) ⟨hx, hb, hml, hown, hts⟩ hK hP hA hS hZ (c_X10_joined l D cI cL ad zz hJ σ9 τ x33 (x20.toInt - 20000) tx33 x35 (x35.toInt) rfl x36 (x36.toInt) rfl) cw_RX10_38 ⟨Nat.le_of_ble_eq_true rfl, Nat.le_of_ble_eq_true rfl⟩ rfl rfl rfl hl.1 rfl (Nat.le_of_ble_eq_true rfl) dX10_worked_255 ⟨Nat.zero_le _, Nat.zero_le _⟩ (fun r38 σ37 τ37 H locs h37 hP hS => ?_)
                      obtain ⟨⟨rfl, rfl⟩, h37⟩ := h37
                      refine jast hx hb hK hP hJ hA hS (jc_25 cI cL ad σ9 τ) (ja_25 cI cL ad σ9 τ _ _) (jin tx31 (by omega) (by omega)) dX10_worked_258 (fun σ39 H locs eσ39 hP hS => ?_)
                      obtain ⟨x40, ex40⟩ : ∃ y : Int32, y = x6 + 1 := ⟨_, rfl⟩
                      have tx40 : x40.toInt = x6.toInt + 1 := (jadd ex40 rfl jz_1 (by omega) (by omega)).trans (by omega)
                      refine lv_iinc (v := x40) (lv' := [(2, .int x40), (1, .int x30), (3, .int x20), (0, .ref (ad 22))]) hx hb dX10_worked_259 hl (k := 2) rfl (by rw [ex40]; rfl) (by decide) rfl (fun ls hl => ?_)
                      refine lv_goto (tgt := 4) hx hb dX10_worked_262 (by decide) ?_
                      exact ihlp3 x30 x40 σ39 _ _ ls (by have h90 := tx30; have h91 := tx40; omega) (by have h90 := tx30; have h91 := tx40; omega) (by have h90 := tx30; have h91 := tx40; omega) (by have h90 := tx30; have h91 := tx40; omega) (by have h90 := tx30; have h91 := tx40; omega) (fun i hi => ((jnp i eσ39 (imp_36 i hi)).trans (f15 i hi)))    hP hS (lv_sub hl [0, 1, 3] rfl)
                  · have kc27 := jeq c27 rfl jz_20126
                    refine lv_aload_n hx hb dX10_worked_201 rfl (lv_at hl 3 rfl) ?_
                    refine va_get (D := D) hx hb hts inlX10 hown hK hP 22 (jc_22 cI cL ad σ9 τ) rfl 4 (by decide) (hts _ kw_4_5) (fun _ h9 => h9) rfl dX10_worked_202 ?_
                    refine lv_iload_n hx hb dX10_worked_205 rfl (lv_at hl 2 rfl) ?_
                    refine lv_iconst (v := 1) hx hb dX10_worked_206 (by decide) ?_
                    have g41 := jrg (rfl : x5.toInt = x5.toInt)
                    refine lv_isub hx hb dX10_worked_207 ?_
                    refine lv_topi (fun x42 ex42 => ?_)
                    have tx42 : x42.toInt = x5.toInt - 1 := (jsub ex42 rfl jz_1 (by omega) (by omega)).trans (by omega)
                    refine lv_aload_n hx hb dX10_worked_208 rfl (lv_at hl 3 rfl) ?_
                    refine va_get (D := D) hx hb hts inlX10 hown hK hP 22 (jc_22 cI cL ad σ9 τ) rfl 4 (by decide) (hts _ kw_4_5) (fun _ h9 => h9) rfl dX10_worked_209 ?_
                    refine lv_iload_n hx hb dX10_worked_212 rfl (lv_at hl 2 rfl) ?_
                    refine lv_iconst (v := 1) hx hb dX10_worked_213 (by decide) ?_
                    refine lv_isub hx hb dX10_worked_214 ?_
                    refine lv_topi (fun x43 ex43 => ?_)
                    have tx43 : x43.toInt = x5.toInt - 1 := (jsub ex43 rfl jz_1 (by omega) (by omega)).trans (by omega)
                    refine jald hx hb hK hP (jc_25 cI cL ad σ9 τ) (jin tx43 (by omega) (by omega)) dX10_worked_215 ?_
                    refine lv_topi (fun x44 ex44 => ?_)
                    refine lv_ineg hx hb dX10_worked_216 ?_
                    refine lv_topi (fun x45 ex45 => ?_)
                    have gx45 := jrg (rfl : x45.toInt = x45.toInt)
                    refine jast hx hb hK hP hJ hA hS (jc_25 cI cL ad σ9 τ) (ja_25 cI cL ad σ9 τ _ _) (jin tx42 (by omega) (by omega)) dX10_worked_217 (fun σ46 H locs eσ46 hP hS => ?_)
                    refine lv_goto (tgt := 259) hx hb dX10_worked_218 (by decide) ?_
                    obtain ⟨x47, ex47⟩ : ∃ y : Int32, y = x6 + 1 := ⟨_, rfl⟩
                    have tx47 : x47.toInt = x6.toInt + 1 := (jadd ex47 rfl jz_1 (by omega) (by omega)).trans (by omega)
                    refine lv_iinc (v := x47) (lv' := [(2, .int x47), (3, .int x20), (1, .int x5), (0, .ref (ad 22))]) hx hb dX10_worked_259 hl (k := 1) rfl (by rw [ex47]; rfl) (by decide) rfl (fun ls hl => ?_)
                    refine lv_goto (tgt := 4) hx hb dX10_worked_262 (by decide) ?_
                    exact ihlp3 x5 x47 σ46 _ _ ls (by have h91 := tx47; omega) (by have h91 := tx47; omega) (by have h91 := tx47; omega) (by have h91 := tx47; omega) (by have h91 := tx47; omega) (fun i hi => ((jnp i eσ46 (imp_36 i hi)).trans (f15 i hi)))    hP hS (lv_sub hl [0, 2, 3] rfl)
                · have kc26 := jeq c26 rfl jz_20033
                  refine lv_aload_n hx hb dX10_worked_167 rfl (lv_at hl 3 rfl) ?_
                  refine va_get (D := D) hx hb hts inlX10 hown hK hP 22 (jc_22 cI cL ad σ9 τ) rfl 4 (by decide) (hts _ kw_4_5) (fun _ h9 => h9) rfl dX10_worked_168 ?_
                  refine lv_iload_n hx hb dX10_worked_171 rfl (lv_at hl 2 rfl) ?_
                  refine lv_iconst (v := 1) hx hb dX10_worked_172 (by decide) ?_
                  have g48 := jrg (rfl : x5.toInt = x5.toInt)
                  refine lv_isub hx hb dX10_worked_173 ?_
                  refine lv_topi (fun x49 ex49 => ?_)
                  have tx49 : x49.toInt = x5.toInt - 1 := (jsub ex49 rfl jz_1 (by omega) (by omega)).trans (by omega)
                  refine lv_aload_n hx hb dX10_worked_174 rfl (lv_at hl 3 rfl) ?_
                  refine va_get (D := D) hx hb hts inlX10 hown hK hP 22 (jc_22 cI cL ad σ9 τ) rfl 4 (by decide) (hts _ kw_4_5) (fun _ h9 => h9) rfl dX10_worked_175 ?_
                  refine lv_iload_n hx hb dX10_worked_178 rfl (lv_at hl 2 rfl) ?_
                  refine lv_iconst (v := 1) hx hb dX10_worked_179 (by decide) ?_
                  refine lv_isub hx hb dX10_worked_180 ?_
                  refine lv_topi (fun x50 ex50 => ?_)
                  have tx50 : x50.toInt = x5.toInt - 1 := (jsub ex50 rfl jz_1 (by omega) (by omega)).trans (by omega)
                  refine jald hx hb hK hP (jc_25 cI cL ad σ9 τ) (jin tx50 (by omega) (by omega)) dX10_worked_181 ?_
                  refine lv_topi (fun x51 ex51 => ?_)
                  refine lv_if_ne (tgt := 189) hx hb dX10_worked_182 (by decide) (fun c52 => ?_) (fun c52 => ?_)
                  · have kc52 := jne c52 rfl jz_0
                    refine lv_iconst (v := 0) hx hb dX10_worked_189 (by decide) ?_
                    refine jast hx hb hK hP hJ hA hS (jc_25 cI cL ad σ9 τ) (ja_25 cI cL ad σ9 τ _ _) (jin tx49 (by omega) (by omega)) dX10_worked_190 (fun σ53 H locs eσ53 hP hS => ?_)
                    refine lv_goto (tgt := 259) hx hb dX10_worked_191 (by decide) ?_
                    obtain ⟨x54, ex54⟩ : ∃ y : Int32, y = x6 + 1 := ⟨_, rfl⟩
                    have tx54 : x54.toInt = x6.toInt + 1 := (jadd ex54 rfl jz_1 (by omega) (by omega)).trans (by omega)
                    refine lv_iinc (v := x54) (lv' := [(2, .int x54), (3, .int x20), (1, .int x5), (0, .ref (ad 22))]) hx hb dX10_worked_259 hl (k := 1) rfl (by rw [ex54]; rfl) (by decide) rfl (fun ls hl => ?_)
                    refine lv_goto (tgt := 4) hx hb dX10_worked_262 (by decide) ?_
                    exact ihlp3 x5 x54 σ53 _ _ ls (by have h91 := tx54; omega) (by have h91 := tx54; omega) (by have h91 := tx54; omega) (by have h91 := tx54; omega) (by have h91 := tx54; omega) (fun i hi => ((jnp i eσ53 (imp_36 i hi)).trans (f15 i hi)))    hP hS (lv_sub hl [0, 2, 3] rfl)
                  · have kc52 := jeq c52 rfl jz_0
                    refine lv_iconst (v := 1) hx hb dX10_worked_185 (by decide) ?_
                    refine lv_goto (tgt := 190) hx hb dX10_worked_186 (by decide) ?_
                    refine jast hx hb hK hP hJ hA hS (jc_25 cI cL ad σ9 τ) (ja_25 cI cL ad σ9 τ _ _) (jin tx49 (by omega) (by omega)) dX10_worked_190 (fun σ55 H locs eσ55 hP hS => ?_)
                    refine lv_goto (tgt := 259) hx hb dX10_worked_191 (by decide) ?_
                    obtain ⟨x56, ex56⟩ : ∃ y : Int32, y = x6 + 1 := ⟨_, rfl⟩
                    have tx56 : x56.toInt = x6.toInt + 1 := (jadd ex56 rfl jz_1 (by omega) (by omega)).trans (by omega)
                    refine lv_iinc (v := x56) (lv' := [(2, .int x56), (3, .int x20), (1, .int x5), (0, .ref (ad 22))]) hx hb dX10_worked_259 hl (k := 1) rfl (by rw [ex56]; rfl) (by decide) rfl (fun ls hl => ?_)
                    refine lv_goto (tgt := 4) hx hb dX10_worked_262 (by decide) ?_
                    exact ihlp3 x5 x56 σ55 _ _ ls (by have h91 := tx56; omega) (by have h91 := tx56; omega) (by have h91 := tx56; omega) (by have h91 := tx56; omega) (by have h91 := tx56; omega) (fun i hi => ((jnp i eσ55 (imp_36 i hi)).trans (f15 i hi)))    hP hS (lv_sub hl [0, 2, 3] rfl)
              · have kc25 := jeq c25 rfl jz_20063
                refine lv_aload_n hx hb dX10_worked_108 rfl (lv_at hl 3 rfl) ?_
                refine va_get (D := D) hx hb hts inlX10 hown hK hP 22 (jc_22 cI cL ad σ9 τ) rfl 4 (by decide) (hts _ kw_4_5) (fun _ h9 => h9) rfl dX10_worked_109 ?_
                refine lv_iload_n hx hb dX10_worked_112 rfl (lv_at hl 2 rfl) ?_
                refine lv_iconst (v := 1) hx hb dX10_worked_113 (by decide) ?_
                have g57 := jrg (rfl : x5.toInt = x5.toInt)
                refine lv_isub hx hb dX10_worked_114 ?_
                refine lv_topi (fun x58 ex58 => ?_)
                have tx58 : x58.toInt = x5.toInt - 1 := (jsub ex58 rfl jz_1 (by omega) (by omega)).trans (by omega)
                refine jald hx hb hK hP (jc_25 cI cL ad σ9 τ) (jin tx58 (by omega) (by omega)) dX10_worked_115 ?_
                refine lv_topi (fun x59 ex59 => ?_)
                refine lv_if_eq (tgt := 123) hx hb dX10_worked_116 (by decide) (fun c60 => ?_) (fun c60 => ?_)
                · have kc60 := jeq c60 rfl jz_0
                  refine lv_iconst (v := 0) hx hb dX10_worked_123 (by decide) ?_
                  refine lv_istore (lv' := [(4, .int 0), (3, .int x20), (2, .int x6), (1, .int x5), (0, .ref (ad 22))]) hx hb dX10_worked_124 hl (by decide) rfl (fun ls hl => ?_)
                  refine lv_iconst (v := 0) hx hb dX10_worked_126 (by decide) ?_
                  refine lv_istore_n (lv' := [(1, .int 0), (4, .int 0), (3, .int x20), (2, .int x6), (0, .ref (ad 22))]) hx hb dX10_worked_127 rfl hl (by decide) rfl (fun ls hl => ?_)
                  obtain ⟨x61, ex61⟩ : ∃ y : Int32, y = x6 + 1 := ⟨_, rfl⟩
                  have tx61 : x61.toInt = x6.toInt + 1 := (jadd ex61 rfl jz_1 (by omega) (by omega)).trans (by omega)
                  refine lv_iinc (v := x61) (lv' := [(2, .int x61), (1, .int 0), (4, .int 0), (3, .int x20), (0, .ref (ad 22))]) hx hb dX10_worked_128 hl (k := 3) rfl (by rw [ex61]; rfl) (by decide) rfl (fun ls hl => ?_)
                  refine lv_iload hx hb dX10_worked_131 (lv_at hl 2 rfl) ?_
                  refine lv_if_ne (tgt := 157) hx hb dX10_worked_133 (by decide) (fun c => absurd (by decide) c) (fun _ => ?_)
                  refine lv_iload_n hx hb dX10_worked_136 rfl (lv_at hl 0 rfl) ?_
                  refine lv_aload_n hx hb dX10_worked_137 rfl (lv_at hl 4 rfl) ?_
                  refine va_get (D := D) hx hb hts inlX10 hown hK hP 22 (jc_22 cI cL ad σ9 τ) rfl 0 (by decide) (hts _ kw_16_20) (fun _ h9 => h9) rfl dX10_worked_138 ?_
                  refine jtopr m16 ?_
                  refine lv_icmp_ge (tgt := 157) hx hb dX10_worked_141 (by decide) (fun c62 => ?_) (fun c62 => ?_)
                  · have kc62 := jle c62 rfl tx61
                    refine lv_goto (tgt := 259) hx hb dX10_worked_157 (by decide) ?_
                    obtain ⟨x63, ex63⟩ : ∃ y : Int32, y = x61 + 1 := ⟨_, rfl⟩
                    have tx63 : x63.toInt = x6.toInt + 2 := (jadd ex63 tx61 jz_1 (by omega) (by omega)).trans (by omega)
                    refine lv_iinc (v := x63) (lv' := [(2, .int x63), (1, .int 0), (4, .int 0), (3, .int x20), (0, .ref (ad 22))]) hx hb dX10_worked_259 hl (k := 0) rfl (by rw [ex63]; rfl) (by decide) rfl (fun ls hl => ?_)
                    refine lv_goto (tgt := 4) hx hb dX10_worked_262 (by decide) ?_
                    exact ihlp3 0 x63 σ9 _ _ ls (by have h90 := jz_0; have h91 := tx63; omega) (by have h90 := jz_0; have h91 := tx63; omega) (by have h90 := jz_0; have h91 := tx63; omega) (by have h90 := jz_0; have h91 := tx63; omega) (by have h90 := jz_0; have h91 := tx63; omega) (fun i hi => (f15 i hi))    hP hS (lv_sub hl [0, 1, 4] rfl)
                  · have kc62 := jnle c62 rfl tx61
                    refine lv_iload_n hx hb dX10_worked_144 rfl (lv_at hl 0 rfl) ?_
                    refine lv_aload_n hx hb dX10_worked_145 rfl (lv_at hl 4 rfl) ?_
                    refine va_get (D := D) hx hb hts inlX10 hown hK hP 22 (jc_22 cI cL ad σ9 τ) rfl 2 (by decide) (hts _ kw_4_3) (fun _ h9 => h9) rfl dX10_worked_146 ?_
                    refine lv_iload_n hx hb dX10_worked_149 rfl (lv_at hl 0 rfl) ?_
                    refine jald hx hb hK hP (jc_23 cI cL ad σ9 τ) (jin tx61 (by omega) (by omega)) dX10_worked_150 ?_
                    have g64 := w18 _ (jnat (x := x61) tx61 (n := 160) (by omega) (by decide))
                    refine lv_topi (fun x65 ex65 => ?_)
                    rw [← ex65] at g64
                    refine lv_iconst (v := 1) hx hb dX10_worked_151 (by decide) ?_
                    have g66 := jrg (rfl : x65.toInt = x65.toInt)
                    refine lv_isub hx hb dX10_worked_152 ?_
                    refine lv_topi (fun x67 ex67 => ?_)
                    have tx67 : x67.toInt = x65.toInt - 1 := (jsub ex67 rfl jz_1 (by omega) (by omega)).trans (by omega)
                    refine va_mmax hx hb (hml.trans hl.1.symm) hown (hts _ kw_22_21) (hts _ kw_21_0) (hts _ kw_21_1) (hts _ kw_21_2) (Nat.le_of_ble_eq_true rfl) (Nat.le_of_ble_eq_true rfl) (Nat.le_of_ble_eq_true rfl) (Nat.le_of_ble_eq_true rfl) dX10_worked_153 ?_
                    refine lv_topi (fun x68 ex68 => ?_)
                    have g69 := jmax ex68 tx61 tx67
                    refine lv_istore_n (lv' := [(2, .int x68), (1, .int 0), (4, .int 0), (3, .int x20), (0, .ref (ad 22))]) hx hb dX10_worked_156 rfl hl (by decide) rfl (fun ls hl => ?_)
                    refine lv_goto (tgt := 259) hx hb dX10_worked_157 (by decide) ?_
                    obtain ⟨x70, ex70⟩ : ∃ y : Int32, y = x68 + 1 := ⟨_, rfl⟩
                    have tx70 : x70.toInt = x68.toInt + 1 := (jadd ex70 rfl jz_1 (by omega) (by omega)).trans (by omega)
                    refine lv_iinc (v := x70) (lv' := [(2, .int x70), (1, .int 0), (4, .int 0), (3, .int x20), (0, .ref (ad 22))]) hx hb dX10_worked_259 hl (k := 0) rfl (by rw [ex70]; rfl) (by decide) rfl (fun ls hl => ?_)
                    refine lv_goto (tgt := 4) hx hb dX10_worked_262 (by decide) ?_
                    exact ihlp3 0 x70 σ9 _ _ ls (by have h90 := jz_0; have h91 := tx70; omega) (by have h90 := jz_0; have h91 := tx70; omega) (by have h90 := jz_0; have h91 := tx70; omega) (by have h90 := jz_0; have h91 := tx70; omega) (by have h90 := jz_0; have h91 := tx70; omega) (fun i hi => (f15 i hi))    hP hS (lv_sub hl [0, 1, 4] rfl)
                · have kc60 := jne c60 rfl jz_0
                  refine lv_iconst (v := 1) hx hb dX10_worked_119 (by decide) ?_
                  refine lv_goto (tgt := 124) hx hb dX10_worked_120 (by decide) ?_
                  refine lv_istore (lv' := [(4, .int 1), (3, .int x20), (2, .int x6), (1, .int x5), (0, .ref (ad 22))]) hx hb dX10_worked_124 hl (by decide) rfl (fun ls hl => ?_)
                  refine lv_iconst (v := 0) hx hb dX10_worked_126 (by decide) ?_
                  refine lv_istore_n (lv' := [(1, .int 0), (4, .int 1), (3, .int x20), (2, .int x6), (0, .ref (ad 22))]) hx hb dX10_worked_127 rfl hl (by decide) rfl (fun ls hl => ?_)
                  obtain ⟨x71, ex71⟩ : ∃ y : Int32, y = x6 + 1 := ⟨_, rfl⟩
                  have tx71 : x71.toInt = x6.toInt + 1 := (jadd ex71 rfl jz_1 (by omega) (by omega)).trans (by omega)
                  refine lv_iinc (v := x71) (lv' := [(2, .int x71), (1, .int 0), (4, .int 1), (3, .int x20), (0, .ref (ad 22))]) hx hb dX10_worked_128 hl (k := 3) rfl (by rw [ex71]; rfl) (by decide) rfl (fun ls hl => ?_)
                  refine lv_iload hx hb dX10_worked_131 (lv_at hl 2 rfl) ?_
                  refine lv_if_ne (tgt := 157) hx hb dX10_worked_133 (by decide) (fun _ => ?_) (fun c => absurd c (by decide))
                  refine lv_goto (tgt := 259) hx hb dX10_worked_157 (by decide) ?_
                  obtain ⟨x72, ex72⟩ : ∃ y : Int32, y = x71 + 1 := ⟨_, rfl⟩
                  have tx72 : x72.toInt = x6.toInt + 2 := (jadd ex72 tx71 jz_1 (by omega) (by omega)).trans (by omega)
                  refine lv_iinc (v := x72) (lv' := [(2, .int x72), (1, .int 0), (4, .int 1), (3, .int x20), (0, .ref (ad 22))]) hx hb dX10_worked_259 hl (k := 0) rfl (by rw [ex72]; rfl) (by decide) rfl (fun ls hl => ?_)
                  refine lv_goto (tgt := 4) hx hb dX10_worked_262 (by decide) ?_
                  exact ihlp3 0 x72 σ9 _ _ ls (by have h90 := jz_0; have h91 := tx72; omega) (by have h90 := jz_0; have h91 := tx72; omega) (by have h90 := jz_0; have h91 := tx72; omega) (by have h90 := jz_0; have h91 := tx72; omega) (by have h90 := jz_0; have h91 := tx72; omega) (fun i hi => (f15 i hi))    hP hS (lv_sub hl [0, 1, 4] rfl)
            · have kc24 := jeq c24 rfl jz_20059
              refine lv_iload_n hx hb dX10_worked_83 rfl (lv_at hl 2 rfl) ?_
              refine lv_iconst (v := 1) hx hb dX10_worked_84 (by decide) ?_
              refine lv_icmp_ge (tgt := 92) hx hb dX10_worked_85 (by decide) (fun c73 => ?_) (fun c => absurd (jnle c jz_1 rfl) (by omega))
              have kc73 := jle c73 jz_1 rfl
              refine lv_aload_n hx hb dX10_worked_92 rfl (lv_at hl 3 rfl) ?_
              refine va_get (D := D) hx hb hts inlX10 hown hK hP 22 (jc_22 cI cL ad σ9 τ) rfl 4 (by decide) (hts _ kw_4_5) (fun _ h9 => h9) rfl dX10_worked_93 ?_
              refine lv_iload_n hx hb dX10_worked_96 rfl (lv_at hl 2 rfl) ?_
              refine lv_iconst (v := 1) hx hb dX10_worked_97 (by decide) ?_
              have g74 := jrg (rfl : x5.toInt = x5.toInt)
              refine lv_isub hx hb dX10_worked_98 ?_
              refine lv_topi (fun x75 ex75 => ?_)
              have tx75 : x75.toInt = x5.toInt - 1 := (jsub ex75 rfl jz_1 (by omega) (by omega)).trans (by omega)
              refine jald hx hb hK hP (jc_25 cI cL ad σ9 τ) (jin tx75 (by omega) (by omega)) dX10_worked_99 ?_
              refine lv_topi (fun x76 ex76 => ?_)
              exact hret x76 σ9 τ _ _ _ _ rfl ⟨rfl, (fun i hi => (f15 i hi)), trivial⟩ hP hS dX10_worked_100
        · have kc21 := jnle c21 jz_20000 rfl
          refine lv_iload_n hx hb dX10_worked_26 rfl (lv_at hl 2 rfl) ?_
          refine lv_sipush (v := 160) hx hb dX10_worked_27 (by decide) ?_
          refine lv_icmp_lt (tgt := 35) hx hb dX10_worked_30 (by decide) (fun c77 => ?_) (fun c77 => ?_)
          · have kc77 := jlt c77 rfl jz_160
            refine lv_aload_n hx hb dX10_worked_35 rfl (lv_at hl 3 rfl) ?_
            refine va_get (D := D) hx hb hts inlX10 hown hK hP 22 (jc_22 cI cL ad σ9 τ) rfl 4 (by decide) (hts _ kw_4_5) (fun _ h9 => h9) rfl dX10_worked_36 ?_
            refine lv_iload_n hx hb dX10_worked_39 rfl (lv_at hl 2 rfl) ?_
            obtain ⟨x78, ex78⟩ : ∃ y : Int32, y = x5 + 1 := ⟨_, rfl⟩
            have tx78 : x78.toInt = x5.toInt + 1 := (jadd ex78 rfl jz_1 (by omega) (by omega)).trans (by omega)
            refine lv_iinc (v := x78) (lv' := [(1, .int x78), (3, .int x20), (2, .int x6), (0, .ref (ad 22))]) hx hb dX10_worked_40 hl (k := 2) rfl (by rw [ex78]; rfl) (by decide) rfl (fun ls hl => ?_)
            refine lv_iload_n hx hb dX10_worked_43 rfl (lv_at hl 1 rfl) ?_
            refine lv_sipush (v := 10000) hx hb dX10_worked_44 (by decide) ?_
            refine lv_icmp_ge (tgt := 54) hx hb dX10_worked_47 (by decide) (fun c79 => ?_) (fun c79 => ?_)
            · have kc79 := jle c79 jz_10000 rfl
              refine lv_aload_n hx hb dX10_worked_54 rfl (lv_at hl 3 rfl) ?_
              refine va_get (D := D) hx hb hts inlX10 hown hK hP 22 (jc_22 cI cL ad σ9 τ) rfl 3 (by decide) (hts _ kw_4_4) (fun _ h9 => h9) rfl dX10_worked_55 ?_
              refine lv_iload_n hx hb dX10_worked_58 rfl (lv_at hl 1 rfl) ?_
              refine lv_sipush (v := 10000) hx hb dX10_worked_59 (by decide) ?_
              have g80 := jrg (rfl : x20.toInt = x20.toInt)
              refine lv_isub hx hb dX10_worked_62 ?_
              refine lv_topi (fun x81 ex81 => ?_)
              have tx81 : x81.toInt = x20.toInt - 10000 := (jsub ex81 rfl jz_10000 (by omega) (by omega)).trans (by omega)
              refine lv_bipush (v := 7) hx hb dX10_worked_63 (by decide) ?_
              refine lv_iand hx hb dX10_worked_65 ?_
              refine lv_topi (fun x82 ex82 => ?_)
              have gx82 := jrg (rfl : x82.toInt = x82.toInt)
              have g83 : 0 ≤ x82.toInt ∧ x82.toInt ≤ 7 := jmask ex82 3 (by decide) (by decide)
              refine jald hx hb hK hP (jc_24 cI cL ad σ9 τ) (jin rfl (by omega) (by omega)) dX10_worked_66 ?_
              refine lv_topi (fun x84 ex84 => ?_)
              refine jast hx hb hK hP hJ hA hS (jc_25 cI cL ad σ9 τ) (ja_25 cI cL ad σ9 τ _ _) (jin rfl (by omega) (by omega)) dX10_worked_67 (fun σ85 H locs eσ85 hP hS => ?_)
              refine lv_goto (tgt := 259) hx hb dX10_worked_68 (by decide) ?_
              obtain ⟨x86, ex86⟩ : ∃ y : Int32, y = x6 + 1 := ⟨_, rfl⟩
              have tx86 : x86.toInt = x6.toInt + 1 := (jadd ex86 rfl jz_1 (by omega) (by omega)).trans (by omega)
              refine lv_iinc (v := x86) (lv' := [(2, .int x86), (1, .int x78), (3, .int x20), (0, .ref (ad 22))]) hx hb dX10_worked_259 hl (k := 2) rfl (by rw [ex86]; rfl) (by decide) rfl (fun ls hl => ?_)
              refine lv_goto (tgt := 4) hx hb dX10_worked_262 (by decide) ?_
              exact ihlp3 x78 x86 σ85 _ _ ls (by have h90 := tx78; have h91 := tx86; omega) (by have h90 := tx78; have h91 := tx86; omega) (by have h90 := tx78; have h91 := tx86; omega) (by have h90 := tx78; have h91 := tx86; omega) (by have h90 := tx78; have h91 := tx86; omega) (fun i hi => ((jnp i eσ85 (imp_36 i hi)).trans (f15 i hi)))    hP hS (lv_sub hl [0, 1, 3] rfl)
            · have kc79 := jnle c79 jz_10000 rfl
              refine lv_iload_n hx hb dX10_worked_50 rfl (lv_at hl 1 rfl) ?_
              refine lv_goto (tgt := 67) hx hb dX10_worked_51 (by decide) ?_
              refine jast hx hb hK hP hJ hA hS (jc_25 cI cL ad σ9 τ) (ja_25 cI cL ad σ9 τ _ _) (jin rfl (by omega) (by omega)) dX10_worked_67 (fun σ87 H locs eσ87 hP hS => ?_)
              refine lv_goto (tgt := 259) hx hb dX10_worked_68 (by decide) ?_
              obtain ⟨x88, ex88⟩ : ∃ y : Int32, y = x6 + 1 := ⟨_, rfl⟩
              have tx88 : x88.toInt = x6.toInt + 1 := (jadd ex88 rfl jz_1 (by omega) (by omega)).trans (by omega)
              refine lv_iinc (v := x88) (lv' := [(2, .int x88), (1, .int x78), (3, .int x20), (0, .ref (ad 22))]) hx hb dX10_worked_259 hl (k := 2) rfl (by rw [ex88]; rfl) (by decide) rfl (fun ls hl => ?_)
              refine lv_goto (tgt := 4) hx hb dX10_worked_262 (by decide) ?_
              exact ihlp3 x78 x88 σ87 _ _ ls (by have h90 := tx78; have h91 := tx88; omega) (by have h90 := tx78; have h91 := tx88; omega) (by have h90 := tx78; have h91 := tx88; omega) (by have h90 := tx78; have h91 := tx88; omega) (by have h90 := tx78; have h91 := tx88; omega) (fun i hi => ((jnp i eσ87 (imp_36 i hi)).trans (f15 i hi)))    hP hS (lv_sub hl [0, 1, 3] rfl)
          · have kc77 := jnlt c77 rfl jz_160
            refine lv_iconst (v := 0) hx hb dX10_worked_33 (by decide) ?_
            exact hret 0 σ9 τ _ _ _ _ rfl ⟨rfl, (fun i hi => (f15 i hi)), trivial⟩ hP hS dX10_worked_34
  exact lp3 1000000 0 0 σ _ _ ls (by have h90 := jz_0; have h91 := jz_0; omega) (by have h90 := jz_0; have h91 := jz_0; omega) (by have h90 := jz_0; have h91 := jz_0; omega) (by have h90 := jz_0; have h91 := jz_0; omega) (by have h90 := jz_0; have h91 := jz_0; omega) (fun _ _ => rfl)   hP hS hl
set_option maxHeartbeats 4000000 in
set_option maxRecDepth 100000 in
theorem c_X10_uses_22 (l : Launch) (D : va_G) (cI cL : ClassId) (ad zz : Nat → Nat) (hJ : jD ad) (σ : Nat → Nat → Int32) (τ : Nat → Nat → Int64) (a1 : Int32) (A1 : Int) (t1 : a1.toInt = A1) : jM l yX10_uses cX10_uses 2 (some .boolean) ({ frames := 0, cells := 0, slots := 0, locals := 0 }) D cI cL ad zz [.ref (ad 22), .int a1] σ τ (fun r σ' τ' => (σ = σ' ∧ τ = τ') ∧ True) := by
  refine jM.of hJ (by decide +kernel) (nt := .boolean) rfl (Nat.le_of_ble_eq_true rfl) ?_
  intro p e s m args below meth c Q ls hC hret hl hP
  obtain ⟨hx, hb, hr, hml, hown, hts, hK, -, hlocks, hZ⟩ := hC
  have hown : s.vm.findClass RX10 = some m.cls := hown
  have hS : va_S (jA ad) s.heap s.heap [] := va_S.rf
  have hA : ∀ q, jA ad q → jA ad q := fun _ h => h
  have hl : lv_has ls 2 [(0, .ref (ad 22)), (1, .int a1)] := hl
  have g1 := jrg t1
  refine lv_aload_n hx hb dX10_uses_0 rfl (lv_at hl 0 rfl) ?_
  refine va_get (D := D) hx hb hts inlX10 hown hK hP 22 (jc_22 cI cL ad σ τ) rfl 1 (by decide) (hts _ kw_16_21) (fun _ h9 => h9) rfl dX10_uses_1 ?_
  refine lv_iload_n hx hb dX10_uses_4 rfl (lv_at hl 1 rfl) ?_
  refine lv_ishr hx hb dX10_uses_5 ?_
  refine lv_topi (fun x1 ex1 => ?_)
  have gx1 := jrg (rfl : x1.toInt = x1.toInt)
  refine lv_iconst (v := 1) hx hb dX10_uses_6 (by decide) ?_
  refine lv_iand hx hb dX10_uses_7 ?_
  refine lv_topi (fun x2 ex2 => ?_)
  have gx2 := jrg (rfl : x2.toInt = x2.toInt)
  have g3 : 0 ≤ x2.toInt ∧ x2.toInt ≤ 1 := jmask ex2 1 (by decide) (by decide)
  refine lv_if_eq (tgt := 15) hx hb dX10_uses_8 (by decide) (fun c4 => ?_) (fun c4 => ?_)
  · have kc4 := jeq c4 rfl jz_0
    refine lv_iconst (v := 0) hx hb dX10_uses_15 (by decide) ?_
    exact hret 0 σ τ _ _ _ _ rfl ⟨⟨rfl, rfl⟩, trivial⟩ hP hS dX10_uses_16
  · have kc4 := jne c4 rfl jz_0
    refine lv_iconst (v := 1) hx hb dX10_uses_11 (by decide) ?_
    refine lv_goto (tgt := 16) hx hb dX10_uses_12 (by decide) ?_
    exact hret 1 σ τ _ _ _ _ rfl ⟨⟨rfl, rfl⟩, trivial⟩ hP hS dX10_uses_16
set_option maxHeartbeats 4000000 in
set_option maxRecDepth 100000 in
theorem c_X7_take_9 (l : Launch) (D : va_G) (cI cL : ClassId) (ad zz : Nat → Nat) (hJ : jD ad) (σ : Nat → Nat → Int32) (τ : Nat → Nat → Int64) (a1 : Int32) (A1 : Int) (t1 : a1.toInt = A1) (a2 : Int32) (A2 : Int) (t2 : a2.toInt = A2) (hI9 : jI9 σ) (hp0 : 1 ≤ A1 ∧ A1 ≤ 4) : jM l yX7_take cX7_take 4 (some .int) ({ frames := 0, cells := 0, slots := 0, locals := 0 }) D cI cL ad zz [.ref (ad 9), .int a1, .int a2] σ τ (fun r σ' τ' => τ = τ' ∧ (∀ i : Nat, (i < 9 ∨ 10 < i) → σ' i = σ i) ∧ (∀ k : Nat, (k < 0 ∨ 0 < k) → σ' 9 k = σ 9 k) ∧ (jI9 σ') ∧ True) := by
  refine jM.of hJ (by decide +kernel) (nt := .int) rfl (Nat.le_of_ble_eq_true rfl) ?_
  intro p e s m args below meth c Q ls hC hret hl hP
  obtain ⟨hx, hb, hr, hml, hown, hts, hK, -, hlocks, hZ⟩ := hC
  have hown : s.vm.findClass RX7 = some m.cls := hown
  have hS : va_S (jA ad) s.heap s.heap [] := va_S.rf
  have hA : ∀ q, jA ad q → jA ad q := fun _ h => h
  have hl : lv_has ls 4 [(0, .ref (ad 9)), (1, .int a1), (2, .int a2)] := hl
  have g1 := jrg t1
  have g2 := jrg t2
  obtain ⟨i1, w2, w3⟩ : (0 ≤ (σ 9 0).toInt ∧ (σ 9 0).toInt ≤ 80) ∧ (∀ k : Nat, k < 80 → 0 ≤ (σ 10 k).toInt ∧ (σ 10 k).toInt ≤ 255) ∧ (∀ k : Nat, k < 8 → 0 ≤ (σ 11 k).toInt ∧ (σ 11 k).toInt ≤ 3) := id hI9
  refine lv_iconst (v := 0) hx hb dX7_take_0 (by decide) ?_
  refine lv_istore_n (lv' := [(3, .int 0), (0, .ref (ad 9)), (1, .int a1), (2, .int a2)]) hx hb dX7_take_1 rfl hl (by decide) rfl (fun ls hl => ?_)
  have lp4 : ∀ (n5 : Nat) (x6 : Int32) (σ7 : Nat → Nat → Int32) (H : Heap) (locs : List Loc) (ls : Array Slot), (-x6.toInt + 4 : Int) < n5 → 0 ≤ x6.toInt → x6.toInt ≤ 4 → (∀ i : Nat, (i < 9 ∨ 10 < i) → σ7 i = σ i) → (∀ k : Nat, (k < 0 ∨ 0 < k) → σ7 9 k = σ 9 k) → jI9 σ7 → jH D cI cL ad σ7 τ H → va_S (jA ad) s.heap H locs → lv_has ls 4 [(3, .int x6), (0, .ref (ad 9)), (1, .int a1), (2, .int a2)] → W p l e ({ frames := 0, cells := 0, slots := 0, locals := 0 }) s m args below meth c H locs 0 0 Q (F0 m 2 ls []) := by
    intro n5
    induction n5 with
    | zero => intro x6 σ7 H locs ls h8 h9 h10; exact absurd h8 (by omega)
    | succ n5 ihlp4 =>
      intro x6 σ7 H locs ls h8 h9 h10 f11 f12 p13 hP hS hl
      obtain ⟨i14, w15, w16⟩ : (0 ≤ (σ7 9 0).toInt ∧ (σ7 9 0).toInt ≤ 80) ∧ (∀ k : Nat, k < 80 → 0 ≤ (σ7 10 k).toInt ∧ (σ7 10 k).toInt ≤ 255) ∧ (∀ k : Nat, k < 8 → 0 ≤ (σ7 11 k).toInt ∧ (σ7 11 k).toInt ≤ 3) := id p13
      refine lv_iload_n hx hb dX7_take_2 rfl (lv_at hl 0 rfl) ?_
      refine lv_iload_n hx hb dX7_take_3 rfl (lv_at hl 2 rfl) ?_
      refine lv_icmp_ge (tgt := 53) hx hb dX7_take_4 (by decide) (fun c17 => ?_) (fun c17 => ?_)
      · have kc17 := jle c17 t1 rfl
        refine lv_aload_n hx hb dX7_take_53 rfl (lv_at hl 1 rfl) ?_
        refine va_get (D := D) hx hb hts inlX7 hown hK hP 9 (jc_9 cI cL ad σ7 τ) rfl 0 (by decide) (hts _ kw_13_0) (fun _ h9 => h9) rfl dX7_take_54 ?_
        exact hret (σ7 9 0) σ7 τ _ _ _ _ rfl ⟨rfl, (fun i hi => (f11 i hi)), (fun i hi => (f12 i hi)), p13, trivial⟩ hP hS dX7_take_57
      · have kc17 := jnle c17 t1 rfl
        refine lv_iload_n hx hb dX7_take_7 rfl (lv_at hl 0 rfl) ?_
        refine lv_iconst (v := 4) hx hb dX7_take_8 (by decide) ?_
        refine lv_icmp_ge (tgt := 53) hx hb dX7_take_9 (by decide) (fun c => absurd (jle c jz_4 rfl) (by omega)) (fun c18 => ?_)
        have kc18 := jnle c18 jz_4 rfl
        refine lv_aload_n hx hb dX7_take_12 rfl (lv_at hl 1 rfl) ?_
        refine va_get (D := D) hx hb hts inlX7 hown hK hP 9 (jc_9 cI cL ad σ7 τ) rfl 0 (by decide) (hts _ kw_13_0) (fun _ h9 => h9) rfl dX7_take_13 ?_
        refine lv_bipush (v := 80) hx hb dX7_take_16 (by decide) ?_
        refine lv_icmp_ge (tgt := 53) hx hb dX7_take_18 (by decide) (fun c19 => ?_) (fun c19 => ?_)
        · have kc19 := jle c19 jz_80 rfl
          refine lv_aload_n hx hb dX7_take_53 rfl (lv_at hl 1 rfl) ?_
          refine va_get (D := D) hx hb hts inlX7 hown hK hP 9 (jc_9 cI cL ad σ7 τ) rfl 0 (by decide) (hts _ kw_13_0) (fun _ h9 => h9) rfl dX7_take_54 ?_
          exact hret (σ7 9 0) σ7 τ _ _ _ _ rfl ⟨rfl, (fun i hi => (f11 i hi)), (fun i hi => (f12 i hi)), p13, trivial⟩ hP hS dX7_take_57
        · have kc19 := jnle c19 jz_80 rfl
          refine lv_aload_n hx hb dX7_take_21 rfl (lv_at hl 1 rfl) ?_
          refine va_get (D := D) hx hb hts inlX7 hown hK hP 9 (jc_9 cI cL ad σ7 τ) rfl 3 (by decide) (hts _ kw_3_20) (fun _ h9 => h9) rfl dX7_take_22 ?_
          refine lv_aload_n hx hb dX7_take_25 rfl (lv_at hl 1 rfl) ?_
          refine lv_dup hx hb dX7_take_26 rfl ?_
          refine va_get (D := D) hx hb hts inlX7 hown hK hP 9 (jc_9 cI cL ad σ7 τ) rfl 0 (by decide) (hts _ kw_13_0) (fun _ h9 => h9) rfl dX7_take_27 ?_
          refine lv_dup_x1 hx hb dX7_take_30 rfl rfl ?_
          refine lv_iconst (v := 1) hx hb dX7_take_31 (by decide) ?_
          have g20 := jrg (rfl : (σ7 9 0).toInt = (σ7 9 0).toInt)
          refine lv_iadd hx hb dX7_take_32 ?_
          refine lv_topi (fun x21 ex21 => ?_)
          have tx21 : x21.toInt = (σ7 9 0).toInt + 1 := (jadd ex21 rfl jz_1 (by omega) (by omega)).trans (by omega)
          refine jput (ty := .int) hx hb hts inlX7 tyX7 tyX7_ok nmX7 hown hK hP hJ hA hS (jc_9 cI cL ad σ7 τ) rfl (k := 0) (by decide) (Nat.le_of_ble_eq_true rfl) (jp_9_0 cI cL ad σ7 τ x21) (hts _ kw_13_0) (fun _ h9 => h9) rfl (by decide +kernel) rfl rfl dX7_take_33 (fun σ22 H locs eσ22 hP hS => ?_)
          refine lv_iload_n hx hb dX7_take_36 rfl (lv_at hl 3 rfl) ?_
          refine lv_bipush (v := 8) hx hb dX7_take_37 (by decide) ?_
          refine lv_iload_n hx hb dX7_take_39 rfl (lv_at hl 0 rfl) ?_
          have g23 := jrg (rfl : x6.toInt = x6.toInt)
          refine lv_imul hx hb dX7_take_40 ?_
          refine lv_topi (fun x24 ex24 => ?_)
          have tx24 : x24.toInt = 8 * x6.toInt := (jmul ex24 jz_8 rfl (by omega) (by omega)).trans (by omega)
          refine lv_iushr hx hb dX7_take_41 rfl ?_
          refine lv_topi (fun x25 ex25 => ?_)
          have gx25 := jrg (rfl : x25.toInt = x25.toInt)
          refine lv_sipush (v := 255) hx hb dX7_take_42 (by decide) ?_
          refine lv_iand hx hb dX7_take_45 ?_
          refine lv_topi (fun x26 ex26 => ?_)
          have gx26 := jrg (rfl : x26.toInt = x26.toInt)
          have g27 : 0 ≤ x26.toInt ∧ x26.toInt ≤ 255 := jmask ex26 8 (by decide) (by decide)
          refine jast hx hb hK hP hJ hA hS (jc_10 cI cL ad σ22 τ) (ja_10 cI cL ad σ22 τ _ _) (jin rfl (by omega) (by omega)) dX7_take_46 (fun σ28 H locs eσ28 hP hS => ?_)
          obtain ⟨x29, ex29⟩ : ∃ y : Int32, y = x6 + 1 := ⟨_, rfl⟩
          have tx29 : x29.toInt = x6.toInt + 1 := (jadd ex29 rfl jz_1 (by omega) (by omega)).trans (by omega)
          refine lv_iinc (v := x29) (lv' := [(3, .int x29), (0, .ref (ad 9)), (1, .int a1), (2, .int a2)]) hx hb dX7_take_47 hl (k := 0) rfl (by rw [ex29]; rfl) (by decide) rfl (fun ls hl => ?_)
          refine lv_goto (tgt := 2) hx hb dX7_take_50 (by decide) ?_
          have z30 : (σ28 9 0).toInt = (σ7 9 0).toInt + 1 := ((congrArg Int32.toInt (show σ28 9 0 = x21 from ((congrFun (jnp 9 eσ28 (by decide)) 0).trans (jsp eσ22)))).trans tx21)
          have w31 : ∀ k : Nat, k < 80 → 0 ≤ (σ28 10 k).toInt ∧ (σ28 10 k).toInt ≤ 255 := (by rw [eσ28]; exact jrr_up (jrr_fr (jnp 10 eσ22 (by decide)) w15) (by omega) (by omega))
          have w32 : ∀ k : Nat, k < 8 → 0 ≤ (σ28 11 k).toInt ∧ (σ28 11 k).toInt ≤ 3 := (jrr_fr (jnp 11 eσ28 (by decide)) (jrr_fr (jnp 11 eσ22 (by decide)) w16))
          have I33 : jI9 σ28 := ⟨(by omega), w31, w32⟩
          exact ihlp4 x29 σ28 _ _ ls (by have h90 := tx29; omega) (by have h90 := tx29; omega) (by have h90 := tx29; omega) (fun i hi => ((jnp i eσ28 (imp_37 i hi)).trans ((jnp i eσ22 (imp_38 i hi)).trans (f11 i hi)))) (fun i hi => ((congrFun (jnp 9 eσ28 (by decide)) i).trans ((jkp i eσ22 (imp_5 i hi)).trans (f12 i hi))))  I33 hP hS (lv_sub hl [0, 1, 2, 3] rfl)
  exact lp4 1000000 0 σ _ _ ls (by have h90 := jz_0; omega) (by have h90 := jz_0; omega) (by have h90 := jz_0; omega) (fun _ _ => rfl) (fun _ _ => rfl)  hI9 hP hS hl
set_option maxHeartbeats 4000000 in
set_option maxRecDepth 100000 in
theorem c_X7_begin_9 (l : Launch) (D : va_G) (cI cL : ClassId) (ad zz : Nat → Nat) (hJ : jD ad) (σ : Nat → Nat → Int32) (τ : Nat → Nat → Int64) (hI9 : jI9 σ) : jMv l yX7_begin cX7_begin 1 none ({ frames := 0, cells := 0, slots := 0, locals := 0 }) D cI cL ad zz [.ref (ad 9)] σ τ (fun σ' τ' => τ = τ' ∧ (∀ i : Nat, (i < 9 ∨ 9 < i) → σ' i = σ i) ∧ (∀ k : Nat, (k < 1 ∨ 1 < k) ∧ (k < 2 ∨ 2 < k) → σ' 9 k = σ 9 k) ∧ (jI9 σ') ∧ (jI91 σ') ∧ (jI92 σ') ∧ True) := by
  refine jMv.of hJ (by decide +kernel) rfl (Nat.le_of_ble_eq_true rfl) ?_
  intro p e s m args below meth c Q ls hC hret hl hP
  obtain ⟨hx, hb, hr, hml, hown, hts, hK, -, hlocks, hZ⟩ := hC
  have hown : s.vm.findClass RX7 = some m.cls := hown
  have hS : va_S (jA ad) s.heap s.heap [] := va_S.rf
  have hA : ∀ q, jA ad q → jA ad q := fun _ h => h
  have hl : lv_has ls 1 [(0, .ref (ad 9))] := hl
  obtain ⟨i1, w2, w3⟩ : (0 ≤ (σ 9 0).toInt ∧ (σ 9 0).toInt ≤ 80) ∧ (∀ k : Nat, k < 80 → 0 ≤ (σ 10 k).toInt ∧ (σ 10 k).toInt ≤ 255) ∧ (∀ k : Nat, k < 8 → 0 ≤ (σ 11 k).toInt ∧ (σ 11 k).toInt ≤ 3) := id hI9
  refine lv_aload_n hx hb dX7_begin_0 rfl (lv_at hl 0 rfl) ?_
  refine lv_iconst (v := 0) hx hb dX7_begin_1 (by decide) ?_
  refine jput (ty := .int) hx hb hts inlX7 tyX7 tyX7_ok nmX7 hown hK hP hJ hA hS (jc_9 cI cL ad σ τ) rfl (k := 1) (by decide) (Nat.le_of_ble_eq_true rfl) (jp_9_1 cI cL ad σ τ 0) (hts _ kw_13_17) (fun _ h9 => h9) rfl (by decide +kernel) rfl rfl dX7_begin_2 (fun σ4 H locs eσ4 hP hS => ?_)
  refine lv_aload_n hx hb dX7_begin_5 rfl (lv_at hl 0 rfl) ?_
  refine lv_iconst (v := (-1)) hx hb dX7_begin_6 (by decide) ?_
  refine jput (ty := .int) hx hb hts inlX7 tyX7 tyX7_ok nmX7 hown hK hP hJ hA hS (jc_9 cI cL ad σ4 τ) rfl (k := 2) (by decide) (Nat.le_of_ble_eq_true rfl) (jp_9_2 cI cL ad σ4 τ (-1)) (hts _ kw_14_6) (fun _ h9 => h9) rfl (by decide +kernel) rfl rfl dX7_begin_7 (fun σ5 H locs eσ5 hP hS => ?_)
  have I6 : jI9 σ5 := jI9_fr ((jkp 0 eσ5 (by decide)).trans (jkp 0 eσ4 (by decide))) ((jnp 10 eσ5 (by decide)).trans (jnp 10 eσ4 (by decide))) ((jnp 11 eσ5 (by decide)).trans (jnp 11 eσ4 (by decide))) hI9
  have z7 : (σ5 9 1).toInt = 0 := ((congrArg Int32.toInt (show σ5 9 1 = 0 from ((jkp 1 eσ5 (by decide)).trans (jsp eσ4)))).trans jz_0)
  have z8 : (σ5 9 0).toInt = (σ 9 0).toInt := (congrArg Int32.toInt (show σ5 9 0 = (σ 9 0) from ((jkp 0 eσ5 (by decide)).trans (jkp 0 eσ4 (by decide)))))
  have I9 : jI91 σ5 := ⟨(by omega), (by omega)⟩
  have z10 : (σ5 9 2).toInt = (-1) := ((congrArg Int32.toInt (show σ5 9 2 = (-1) from (jsp eσ5))).trans jz_m1)
  have I11 : jI92 σ5 := (show (-1) ≤ (σ5 9 2).toInt by omega)
  exact hret σ5 τ _ _ _ _ ⟨rfl, (fun i hi => ((jnp i eσ5 (imp_39 i hi)).trans (jnp i eσ4 (imp_39 i hi)))), (fun i hi => ((jkp i eσ5 (imp_40 i hi)).trans (jkp i eσ4 (imp_41 i hi)))), I6, I9, I11, trivial⟩ hP hS dX7_begin_10
set_option maxHeartbeats 4000000 in
set_option maxRecDepth 100000 in
theorem c_X7_isDigit (l : Launch) (D : va_G) (cI cL : ClassId) (ad zz : Nat → Nat) (hJ : jD ad) (σ : Nat → Nat → Int32) (τ : Nat → Nat → Int64) (a1 : Int32) (A1 : Int) (t1 : a1.toInt = A1) : jM l yX7_isDigit cX7_isDigit 1 (some .boolean) ({ frames := 0, cells := 0, slots := 0, locals := 0 }) D cI cL ad zz [.int a1] σ τ (fun r σ' τ' => (σ = σ' ∧ τ = τ') ∧ ((r = 1 ∧ (48 ≤ A1 ∧ A1 ≤ 57)) ∨ (r = 0 ∧ ((A1 < 48) ∨ (57 < A1))))) := by
  refine jM.of hJ (by decide +kernel) (nt := .boolean) rfl (Nat.le_of_ble_eq_true rfl) ?_
  intro p e s m args below meth c Q ls hC hret hl hP
  obtain ⟨hx, hb, hr, hml, hown, hts, hK, -, hlocks, hZ⟩ := hC
  have hown : s.vm.findClass RX7 = some m.cls := hown
  have hS : va_S (jA ad) s.heap s.heap [] := va_S.rf
  have hA : ∀ q, jA ad q → jA ad q := fun _ h => h
  have hl : lv_has ls 1 [(0, .int a1)] := hl
  have g1 := jrg t1
  refine lv_iload_n hx hb dX7_isDigit_0 rfl (lv_at hl 0 rfl) ?_
  refine lv_bipush (v := 48) hx hb dX7_isDigit_1 (by decide) ?_
  refine lv_icmp_lt (tgt := 16) hx hb dX7_isDigit_3 (by decide) (fun c1 => ?_) (fun c1 => ?_)
  · have kc1 := jlt c1 t1 jz_48
    refine lv_iconst (v := 0) hx hb dX7_isDigit_16 (by decide) ?_
    exact hret 0 σ τ _ _ _ _ rfl ⟨⟨rfl, rfl⟩, Or.inr (⟨rfl, (by have h9 := jz_0; omega)⟩)⟩ hP hS dX7_isDigit_17
  · have kc1 := jnlt c1 t1 jz_48
    refine lv_iload_n hx hb dX7_isDigit_6 rfl (lv_at hl 0 rfl) ?_
    refine lv_bipush (v := 57) hx hb dX7_isDigit_7 (by decide) ?_
    refine lv_icmp_gt (tgt := 16) hx hb dX7_isDigit_9 (by decide) (fun c2 => ?_) (fun c2 => ?_)
    · have kc2 := jlt c2 jz_57 t1
      refine lv_iconst (v := 0) hx hb dX7_isDigit_16 (by decide) ?_
      exact hret 0 σ τ _ _ _ _ rfl ⟨⟨rfl, rfl⟩, Or.inr (⟨rfl, (by have h9 := jz_0; omega)⟩)⟩ hP hS dX7_isDigit_17
    · have kc2 := jnlt c2 jz_57 t1
      refine lv_iconst (v := 1) hx hb dX7_isDigit_12 (by decide) ?_
      refine lv_goto (tgt := 17) hx hb dX7_isDigit_13 (by decide) ?_
      exact hret 1 σ τ _ _ _ _ rfl ⟨⟨rfl, rfl⟩, Or.inl ⟨rfl, (by have h9 := jz_1; omega)⟩⟩ hP hS dX7_isDigit_17
set_option maxHeartbeats 4000000 in
set_option maxRecDepth 100000 in
theorem c_X7_sign_9 (l : Launch) (D : va_G) (cI cL : ClassId) (ad zz : Nat → Nat) (hJ : jD ad) (σ : Nat → Nat → Int32) (τ : Nat → Nat → Int64) (hI9 : jI9 σ) : jM l yX7_sign cX7_sign 1 (some .int) ({ frames := 0, cells := 0, slots := 0, locals := 0 }) D cI cL ad zz [.ref (ad 9)] σ τ (fun r σ' τ' => (σ = σ' ∧ τ = τ') ∧ ((r = (σ 10 (σ 9 1).toNatClampNeg) ∧ (0 ≤ (σ 10 (σ 9 1).toNatClampNeg).toInt ∧ (σ 10 (σ 9 1).toNatClampNeg).toInt ≤ 255) ∧ (0 ≤ (σ 9 1).toInt ∧ (σ 9 1).toInt < (σ 9 0).toInt)) ∨ (r = (-1) ∧ (((σ 9 1).toInt < 0) ∨ ((σ 9 0).toInt ≤ (σ 9 1).toInt))))) := by
  refine jM.of hJ (by decide +kernel) (nt := .int) rfl (Nat.le_of_ble_eq_true rfl) ?_
  intro p e s m args below meth c Q ls hC hret hl hP
  obtain ⟨hx, hb, hr, hml, hown, hts, hK, -, hlocks, hZ⟩ := hC
  have hown : s.vm.findClass RX7 = some m.cls := hown
  have hS : va_S (jA ad) s.heap s.heap [] := va_S.rf
  have hA : ∀ q, jA ad q → jA ad q := fun _ h => h
  have hl : lv_has ls 1 [(0, .ref (ad 9))] := hl
  obtain ⟨i1, w2, w3⟩ : (0 ≤ (σ 9 0).toInt ∧ (σ 9 0).toInt ≤ 80) ∧ (∀ k : Nat, k < 80 → 0 ≤ (σ 10 k).toInt ∧ (σ 10 k).toInt ≤ 255) ∧ (∀ k : Nat, k < 8 → 0 ≤ (σ 11 k).toInt ∧ (σ 11 k).toInt ≤ 3) := id hI9
  refine lv_aload_n hx hb dX7_sign_0 rfl (lv_at hl 0 rfl) ?_
  refine va_get (D := D) hx hb hts inlX7 hown hK hP 9 (jc_9 cI cL ad σ τ) rfl 1 (by decide) (hts _ kw_13_17) (fun _ h9 => h9) rfl dX7_sign_1 ?_
  refine lv_if_lt (tgt := 30) hx hb dX7_sign_4 (by decide) (fun c4 => ?_) (fun c4 => ?_)
  · have kc4 := jlt c4 rfl jz_0
    refine lv_iconst (v := (-1)) hx hb dX7_sign_30 (by decide) ?_
    exact hret (-1) σ τ _ _ _ _ rfl ⟨⟨rfl, rfl⟩, Or.inr (⟨rfl, (by have h9 := jz_m1; omega)⟩)⟩ hP hS dX7_sign_31
  · have kc4 := jnlt c4 rfl jz_0
    refine lv_aload_n hx hb dX7_sign_7 rfl (lv_at hl 0 rfl) ?_
    refine va_get (D := D) hx hb hts inlX7 hown hK hP 9 (jc_9 cI cL ad σ τ) rfl 1 (by decide) (hts _ kw_13_17) (fun _ h9 => h9) rfl dX7_sign_8 ?_
    refine lv_aload_n hx hb dX7_sign_11 rfl (lv_at hl 0 rfl) ?_
    refine va_get (D := D) hx hb hts inlX7 hown hK hP 9 (jc_9 cI cL ad σ τ) rfl 0 (by decide) (hts _ kw_13_0) (fun _ h9 => h9) rfl dX7_sign_12 ?_
    refine lv_icmp_ge (tgt := 30) hx hb dX7_sign_15 (by decide) (fun c5 => ?_) (fun c5 => ?_)
    · have kc5 := jle c5 rfl rfl
      refine lv_iconst (v := (-1)) hx hb dX7_sign_30 (by decide) ?_
      exact hret (-1) σ τ _ _ _ _ rfl ⟨⟨rfl, rfl⟩, Or.inr (⟨rfl, (by have h9 := jz_m1; omega)⟩)⟩ hP hS dX7_sign_31
    · have kc5 := jnle c5 rfl rfl
      refine lv_aload_n hx hb dX7_sign_18 rfl (lv_at hl 0 rfl) ?_
      refine va_get (D := D) hx hb hts inlX7 hown hK hP 9 (jc_9 cI cL ad σ τ) rfl 3 (by decide) (hts _ kw_3_20) (fun _ h9 => h9) rfl dX7_sign_19 ?_
      refine lv_aload_n hx hb dX7_sign_22 rfl (lv_at hl 0 rfl) ?_
      refine va_get (D := D) hx hb hts inlX7 hown hK hP 9 (jc_9 cI cL ad σ τ) rfl 1 (by decide) (hts _ kw_13_17) (fun _ h9 => h9) rfl dX7_sign_23 ?_
      refine jald hx hb hK hP (jc_10 cI cL ad σ τ) (jin rfl (by omega) (by omega)) dX7_sign_26 ?_
      have g6 := w2 _ (jnat (x := (σ 9 1)) rfl (n := 80) (by omega) (by decide))
      refine jtopr (y := (σ 10 (σ 9 1).toNatClampNeg)) rfl ?_
      refine lv_goto (tgt := 31) hx hb dX7_sign_27 (by decide) ?_
      exact hret (σ 10 (σ 9 1).toNatClampNeg) σ τ _ _ _ _ rfl ⟨⟨rfl, rfl⟩, Or.inl ⟨rfl, (by omega), (by omega)⟩⟩ hP hS dX7_sign_31
set_option maxHeartbeats 4000000 in
set_option maxRecDepth 100000 in
theorem c_X7_fail_9 (l : Launch) (D : va_G) (cI cL : ClassId) (ad zz : Nat → Nat) (hJ : jD ad) (σ : Nat → Nat → Int32) (τ : Nat → Nat → Int64) (a1 : Int32) (A1 : Int) (t1 : a1.toInt = A1) (hI92 : jI92 σ) (hp0 : 0 ≤ A1) : jMv l yX7_fail cX7_fail 2 none ({ frames := 0, cells := 0, slots := 0, locals := 0 }) D cI cL ad zz [.ref (ad 9), .int a1] σ τ (fun σ' τ' => τ = τ' ∧ (∀ i : Nat, (i < 9 ∨ 9 < i) → σ' i = σ i) ∧ (∀ k : Nat, (k < 2 ∨ 2 < k) → σ' 9 k = σ 9 k) ∧ (0 ≤ (σ' 9 2).toInt) ∧ True) := by
  refine jMv.of hJ (by decide +kernel) rfl (Nat.le_of_ble_eq_true rfl) ?_
  intro p e s m args below meth c Q ls hC hret hl hP
  obtain ⟨hx, hb, hr, hml, hown, hts, hK, -, hlocks, hZ⟩ := hC
  have hown : s.vm.findClass RX7 = some m.cls := hown
  have hS : va_S (jA ad) s.heap s.heap [] := va_S.rf
  have hA : ∀ q, jA ad q → jA ad q := fun _ h => h
  have hl : lv_has ls 2 [(0, .ref (ad 9)), (1, .int a1)] := hl
  have g1 := jrg t1
  have i1 : (-1) ≤ (σ 9 2).toInt := hI92
  refine lv_aload_n hx hb dX7_fail_0 rfl (lv_at hl 0 rfl) ?_
  refine va_get (D := D) hx hb hts inlX7 hown hK hP 9 (jc_9 cI cL ad σ τ) rfl 2 (by decide) (hts _ kw_14_6) (fun _ h9 => h9) rfl dX7_fail_1 ?_
  refine lv_iconst (v := (-1)) hx hb dX7_fail_4 (by decide) ?_
  refine lv_icmp_ne (tgt := 13) hx hb dX7_fail_5 (by decide) (fun c2 => ?_) (fun c2 => ?_)
  · have kc2 := jne c2 rfl jz_m1
    exact hret σ τ _ _ _ _ ⟨rfl, (fun _ _ => rfl), (fun _ _ => rfl), (by omega), trivial⟩ hP hS dX7_fail_13
  · have kc2 := jeq c2 rfl jz_m1
    refine lv_aload_n hx hb dX7_fail_8 rfl (lv_at hl 0 rfl) ?_
    refine lv_iload_n hx hb dX7_fail_9 rfl (lv_at hl 1 rfl) ?_
    refine jput (ty := .int) hx hb hts inlX7 tyX7 tyX7_ok nmX7 hown hK hP hJ hA hS (jc_9 cI cL ad σ τ) rfl (k := 2) (by decide) (Nat.le_of_ble_eq_true rfl) (jp_9_2 cI cL ad σ τ a1) (hts _ kw_14_6) (fun _ h9 => h9) rfl (by decide +kernel) rfl rfl dX7_fail_10 (fun σ3 H locs eσ3 hP hS => ?_)
    have z4 : (σ3 9 2).toInt = A1 := ((congrArg Int32.toInt (show σ3 9 2 = a1 from (jsp eσ3))).trans t1)
    exact hret σ3 τ _ _ _ _ ⟨rfl, (fun i hi => (jnp i eσ3 (imp_39 i hi))), (fun i hi => (jkp i eσ3 (imp_9 i hi))), (by omega), trivial⟩ hP hS dX7_fail_13
set_option maxHeartbeats 4000000 in
set_option maxRecDepth 100000 in
theorem c_X7_end_9 (l : Launch) (D : va_G) (cI cL : ClassId) (ad zz : Nat → Nat) (hJ : jD ad) (σ : Nat → Nat → Int32) (τ : Nat → Nat → Int64) (hI9 : jI9 σ) (hI91 : jI91 σ) (hI92 : jI92 σ) : jM l yX7_end cX7_end 1 (some .int) ({ frames := 0, cells := 0, slots := 0, locals := 0 }) D cI cL ad zz [.ref (ad 9)] σ τ (fun r σ' τ' => τ = τ' ∧ (∀ i : Nat, (i < 9 ∨ 9 < i) → σ' i = σ i) ∧ (∀ k : Nat, (k < 0 ∨ 0 < k) ∧ (k < 2 ∨ 2 < k) → σ' 9 k = σ 9 k) ∧ (jI9 σ') ∧ (jI92 σ') ∧ ((r = (-1) ∧ ((σ 9 2).toInt = (-1))) ∨ (True ∧ (0 ≤ r.toInt)))) := by
  refine jM.of hJ (by decide +kernel) (nt := .int) rfl (Nat.le_of_ble_eq_true rfl) ?_
  intro p e s m args below meth c Q ls hC hret hl hP
  obtain ⟨hx, hb, hr, hml, hown, hts, hK, -, hlocks, hZ⟩ := hC
  have hown : s.vm.findClass RX7 = some m.cls := hown
  have hS : va_S (jA ad) s.heap s.heap [] := va_S.rf
  have hA : ∀ q, jA ad q → jA ad q := fun _ h => h
  have hl : lv_has ls 1 [(0, .ref (ad 9))] := hl
  obtain ⟨i1, w2, w3⟩ : (0 ≤ (σ 9 0).toInt ∧ (σ 9 0).toInt ≤ 80) ∧ (∀ k : Nat, k < 80 → 0 ≤ (σ 10 k).toInt ∧ (σ 10 k).toInt ≤ 255) ∧ (∀ k : Nat, k < 8 → 0 ≤ (σ 11 k).toInt ∧ (σ 11 k).toInt ≤ 3) := id hI9
  obtain ⟨i4, i5⟩ : (0 ≤ (σ 9 1).toInt) ∧ ((σ 9 1).toInt ≤ (σ 9 0).toInt) := id hI91
  have i6 : (-1) ≤ (σ 9 2).toInt := hI92
  refine lv_aload_n hx hb dX7_end_0 rfl (lv_at hl 0 rfl) ?_
  refine va_get (D := D) hx hb hts inlX7 hown hK hP 9 (jc_9 cI cL ad σ τ) rfl 2 (by decide) (hts _ kw_14_6) (fun _ h9 => h9) rfl dX7_end_1 ?_
  refine lv_iconst (v := (-1)) hx hb dX7_end_4 (by decide) ?_
  refine lv_icmp_ne (tgt := 27) hx hb dX7_end_5 (by decide) (fun c7 => ?_) (fun c7 => ?_)
  · have kc7 := jne c7 rfl jz_m1
    refine lv_aload_n hx hb dX7_end_27 rfl (lv_at hl 0 rfl) ?_
    refine lv_iconst (v := 0) hx hb dX7_end_28 (by decide) ?_
    refine jput (ty := .int) hx hb hts inlX7 tyX7 tyX7_ok nmX7 hown hK hP hJ hA hS (jc_9 cI cL ad σ τ) rfl (k := 0) (by decide) (Nat.le_of_ble_eq_true rfl) (jp_9_0 cI cL ad σ τ 0) (hts _ kw_13_0) (fun _ h9 => h9) rfl (by decide +kernel) rfl rfl dX7_end_29 (fun σ8 H locs eσ8 hP hS => ?_)
    refine lv_aload_n hx hb dX7_end_32 rfl (lv_at hl 0 rfl) ?_
    refine va_get (D := D) hx hb hts inlX7 hown hK hP 9 (jc_9 cI cL ad σ8 τ) rfl 2 (by decide) (hts _ kw_14_6) (fun _ h9 => h9) rfl dX7_end_33 ?_
    have m9 : σ8 9 2 = (σ 9 2) := (jkp 2 eσ8 (by decide))
    refine jtopr m9 ?_
    have z10 : (σ8 9 0).toInt = 0 := ((congrArg Int32.toInt (show σ8 9 0 = 0 from (jsp eσ8))).trans jz_0)
    have w11 : ∀ k : Nat, k < 80 → 0 ≤ (σ8 10 k).toInt ∧ (σ8 10 k).toInt ≤ 255 := (jrr_fr (jnp 10 eσ8 (by decide)) w2)
    have w12 : ∀ k : Nat, k < 8 → 0 ≤ (σ8 11 k).toInt ∧ (σ8 11 k).toInt ≤ 3 := (jrr_fr (jnp 11 eσ8 (by decide)) w3)
    have I13 : jI9 σ8 := ⟨(by omega), w11, w12⟩
    have I14 : jI92 σ8 := jI92_fr (jkp 2 eσ8 (by decide)) hI92
    exact hret (σ 9 2) σ8 τ _ _ _ _ rfl ⟨rfl, (fun i hi => (jnp i eσ8 (imp_39 i hi))), (fun i hi => (jkp i eσ8 (imp_42 i hi))), I13, I14, Or.inr (⟨trivial, (by omega)⟩)⟩ hP hS dX7_end_36
  · have kc7 := jeq c7 rfl jz_m1
    refine lv_aload_n hx hb dX7_end_8 rfl (lv_at hl 0 rfl) ?_
    refine va_get (D := D) hx hb hts inlX7 hown hK hP 9 (jc_9 cI cL ad σ τ) rfl 1 (by decide) (hts _ kw_13_17) (fun _ h9 => h9) rfl dX7_end_9 ?_
    refine lv_aload_n hx hb dX7_end_12 rfl (lv_at hl 0 rfl) ?_
    refine va_get (D := D) hx hb hts inlX7 hown hK hP 9 (jc_9 cI cL ad σ τ) rfl 0 (by decide) (hts _ kw_13_0) (fun _ h9 => h9) rfl dX7_end_13 ?_
    refine lv_icmp_ge (tgt := 27) hx hb dX7_end_16 (by decide) (fun c15 => ?_) (fun c15 => ?_)
    · have kc15 := jle c15 rfl rfl
      refine lv_aload_n hx hb dX7_end_27 rfl (lv_at hl 0 rfl) ?_
      refine lv_iconst (v := 0) hx hb dX7_end_28 (by decide) ?_
      refine jput (ty := .int) hx hb hts inlX7 tyX7 tyX7_ok nmX7 hown hK hP hJ hA hS (jc_9 cI cL ad σ τ) rfl (k := 0) (by decide) (Nat.le_of_ble_eq_true rfl) (jp_9_0 cI cL ad σ τ 0) (hts _ kw_13_0) (fun _ h9 => h9) rfl (by decide +kernel) rfl rfl dX7_end_29 (fun σ16 H locs eσ16 hP hS => ?_)
      refine lv_aload_n hx hb dX7_end_32 rfl (lv_at hl 0 rfl) ?_
      refine va_get (D := D) hx hb hts inlX7 hown hK hP 9 (jc_9 cI cL ad σ16 τ) rfl 2 (by decide) (hts _ kw_14_6) (fun _ h9 => h9) rfl dX7_end_33 ?_
      have m17 : σ16 9 2 = (σ 9 2) := (jkp 2 eσ16 (by decide))
      refine jtopr m17 ?_
      have z18 : (σ16 9 0).toInt = 0 := ((congrArg Int32.toInt (show σ16 9 0 = 0 from (jsp eσ16))).trans jz_0)
      have w19 : ∀ k : Nat, k < 80 → 0 ≤ (σ16 10 k).toInt ∧ (σ16 10 k).toInt ≤ 255 := (jrr_fr (jnp 10 eσ16 (by decide)) w2)
      have w20 : ∀ k : Nat, k < 8 → 0 ≤ (σ16 11 k).toInt ∧ (σ16 11 k).toInt ≤ 3 := (jrr_fr (jnp 11 eσ16 (by decide)) w3)
      have I21 : jI9 σ16 := ⟨(by omega), w19, w20⟩
      have I22 : jI92 σ16 := jI92_fr (jkp 2 eσ16 (by decide)) hI92
      exact hret (σ 9 2) σ16 τ _ _ _ _ rfl ⟨rfl, (fun i hi => (jnp i eσ16 (imp_39 i hi))), (fun i hi => (jkp i eσ16 (imp_42 i hi))), I21, I22, Or.inl ⟨jsame rfl jz_m1 (by omega), (by omega)⟩⟩ hP hS dX7_end_36
    · have kc15 := jnle c15 rfl rfl
      refine lv_aload_n hx hb dX7_end_19 rfl (lv_at hl 0 rfl) ?_
      refine lv_aload_n hx hb dX7_end_20 rfl (lv_at hl 0 rfl) ?_
      refine va_get (D := D) hx hb hts inlX7 hown hK hP 9 (jc_9 cI cL ad σ τ) rfl 1 (by decide) (hts _ kw_13_17) (fun _ h9 => h9) rfl dX7_end_21 ?_
      refine jput (ty := .int) hx hb hts inlX7 tyX7 tyX7_ok nmX7 hown hK hP hJ hA hS (jc_9 cI cL ad σ τ) rfl (k := 2) (by decide) (Nat.le_of_ble_eq_true rfl) (jp_9_2 cI cL ad σ τ (σ 9 1)) (hts _ kw_14_6) (fun _ h9 => h9) rfl (by decide +kernel) rfl rfl dX7_end_24 (fun σ23 H locs eσ23 hP hS => ?_)
      refine lv_aload_n hx hb dX7_end_27 rfl (lv_at hl 0 rfl) ?_
      refine lv_iconst (v := 0) hx hb dX7_end_28 (by decide) ?_
      refine jput (ty := .int) hx hb hts inlX7 tyX7 tyX7_ok nmX7 hown hK hP hJ hA hS (jc_9 cI cL ad σ23 τ) rfl (k := 0) (by decide) (Nat.le_of_ble_eq_true rfl) (jp_9_0 cI cL ad σ23 τ 0) (hts _ kw_13_0) (fun _ h9 => h9) rfl (by decide +kernel) rfl rfl dX7_end_29 (fun σ24 H locs eσ24 hP hS => ?_)
      refine lv_aload_n hx hb dX7_end_32 rfl (lv_at hl 0 rfl) ?_
      refine va_get (D := D) hx hb hts inlX7 hown hK hP 9 (jc_9 cI cL ad σ24 τ) rfl 2 (by decide) (hts _ kw_14_6) (fun _ h9 => h9) rfl dX7_end_33 ?_
      have m25 : σ24 9 2 = (σ 9 1) := ((jkp 2 eσ24 (by decide)).trans (jsp eσ23))
      refine jtopr m25 ?_
      have z26 : (σ24 9 0).toInt = 0 := ((congrArg Int32.toInt (show σ24 9 0 = 0 from (jsp eσ24))).trans jz_0)
      have w27 : ∀ k : Nat, k < 80 → 0 ≤ (σ24 10 k).toInt ∧ (σ24 10 k).toInt ≤ 255 := (jrr_fr (jnp 10 eσ24 (by decide)) (jrr_fr (jnp 10 eσ23 (by decide)) w2))
      have w28 : ∀ k : Nat, k < 8 → 0 ≤ (σ24 11 k).toInt ∧ (σ24 11 k).toInt ≤ 3 := (jrr_fr (jnp 11 eσ24 (by decide)) (jrr_fr (jnp 11 eσ23 (by decide)) w3))
      have I29 : jI9 σ24 := ⟨(by omega), w27, w28⟩
      have z30 : (σ24 9 2).toInt = (σ 9 1).toInt := (congrArg Int32.toInt (show σ24 9 2 = (σ 9 1) from m25))
      have I31 : jI92 σ24 := (show (-1) ≤ (σ24 9 2).toInt by omega)
      exact hret (σ 9 1) σ24 τ _ _ _ _ rfl ⟨rfl, (fun i hi => ((jnp i eσ24 (imp_39 i hi)).trans (jnp i eσ23 (imp_39 i hi)))), (fun i hi => ((jkp i eσ24 (imp_42 i hi)).trans (jkp i eσ23 (imp_43 i hi)))), I29, I31, Or.inr (⟨trivial, (by omega)⟩)⟩ hP hS dX7_end_36
set_option maxHeartbeats 4000000 in
set_option maxRecDepth 100000 in
theorem c_X7_skip_9 (l : Launch) (D : va_G) (cI cL : ClassId) (ad zz : Nat → Nat) (hJ : jD ad) (σ : Nat → Nat → Int32) (τ : Nat → Nat → Int64) (a1 : Int32) (A1 : Int) (t1 : a1.toInt = A1) (hI9 : jI9 σ) (hI91 : jI91 σ) (hI92 : jI92 σ) (hp0 : 0 ≤ A1) : jM l yX7_skip cX7_skip 2 (some .boolean) ({ frames := 1, cells := 0, slots := 0, locals := 20 }) D cI cL ad zz [.ref (ad 9), .int a1] σ τ (fun r σ' τ' => τ = τ' ∧ (∀ i : Nat, (i < 9 ∨ 9 < i) → σ' i = σ i) ∧ (∀ k : Nat, (k < 1 ∨ 1 < k) → σ' 9 k = σ 9 k) ∧ (jI9 σ') ∧ (jI91 σ') ∧ (jI92 σ') ∧ True) := by
  refine jM.of hJ (by decide +kernel) (nt := .boolean) rfl (Nat.le_of_ble_eq_true rfl) ?_
  intro p e s m args below meth c Q ls hC hret hl hP
  obtain ⟨hx, hb, hr, hml, hown, hts, hK, -, hlocks, hZ⟩ := hC
  have hown : s.vm.findClass RX7 = some m.cls := hown
  have hS : va_S (jA ad) s.heap s.heap [] := va_S.rf
  have hA : ∀ q, jA ad q → jA ad q := fun _ h => h
  have hl : lv_has ls 2 [(0, .ref (ad 9)), (1, .int a1)] := hl
  have g1 := jrg t1
  obtain ⟨i1, w2, w3⟩ : (0 ≤ (σ 9 0).toInt ∧ (σ 9 0).toInt ≤ 80) ∧ (∀ k : Nat, k < 80 → 0 ≤ (σ 10 k).toInt ∧ (σ 10 k).toInt ≤ 255) ∧ (∀ k : Nat, k < 8 → 0 ≤ (σ 11 k).toInt ∧ (σ 11 k).toInt ≤ 3) := id hI9
  obtain ⟨i4, i5⟩ : (0 ≤ (σ 9 1).toInt) ∧ ((σ 9 1).toInt ≤ (σ 9 0).toInt) := id hI91
  have i6 : (-1) ≤ (σ 9 2).toInt := hI92
  refine lv_aload_n hx hb dX7_skip_0 rfl (lv_at hl 0 rfl) ?_
  refine va_get (D := D) hx hb hts inlX7 hown hK hP 9 (jc_9 cI cL ad σ τ) rfl 2 (by decide) (hts _ kw_14_6) (fun _ h9 => h9) rfl dX7_skip_1 ?_
  refine lv_iconst (v := (-1)) hx hb dX7_skip_4 (by decide) ?_
  refine lv_icmp_ne (tgt := 16) hx hb dX7_skip_5 (by decide) (fun c7 => ?_) (fun c7 => ?_)
  · have kc7 := jne c7 rfl jz_m1
    refine lv_iconst (v := 0) hx hb dX7_skip_16 (by decide) ?_
    exact hret 0 σ τ _ _ _ _ rfl ⟨rfl, (fun _ _ => rfl), (fun _ _ => rfl), hI9, hI91, hI92, trivial⟩ hP hS dX7_skip_17
  · have kc7 := jeq c7 rfl jz_m1
    refine lv_aload_n hx hb dX7_skip_8 rfl (lv_at hl 0 rfl) ?_
    refine jcallV (As := []) (rest := []) ⟨hx, hb, hml, hown, hts⟩ hK hP hA hS hZ (c_X7_sign_9 l D cI cL ad zz hJ σ τ hI9) cw_RX7_35 (jc_9 cI cL ad σ τ) rfl ⟨Nat.le_of_ble_eq_true rfl, Nat.le_of_ble_eq_true rfl⟩ rfl rfl rfl hl.1 rfl (Nat.le_of_ble_eq_true rfl) dX7_skip_9 ⟨Nat.zero_le _, Nat.zero_le _⟩ (fun r9 σ8 τ8 H locs h8 hP hS => ?_)
    obtain ⟨⟨rfl, rfl⟩, h8⟩ := h8
    rcases h8 with h10 | h11
    · obtain ⟨q14, k12, k13⟩ := h10
      have q15 : r9 = (σ 10 (σ 9 1).toNatClampNeg) := q14.trans rfl
      have q15 := q15.symm
      subst q15
      refine lv_iload_n hx hb dX7_skip_12 rfl (lv_at hl 1 rfl) ?_
      refine lv_icmp_eq (tgt := 18) hx hb dX7_skip_13 (by decide) (fun c16 => ?_) (fun c16 => ?_)
      · have kc16 := jeq c16 rfl t1
        refine lv_aload_n hx hb dX7_skip_18 rfl (lv_at hl 0 rfl) ?_
        refine lv_dup hx hb dX7_skip_19 rfl ?_
        refine va_get (D := D) hx hb hts inlX7 hown hK hP 9 (jc_9 cI cL ad σ τ) rfl 1 (by decide) (hts _ kw_13_17) (fun _ h9 => h9) rfl dX7_skip_20 ?_
        refine lv_iconst (v := 1) hx hb dX7_skip_23 (by decide) ?_
        have g17 := jrg (rfl : (σ 9 1).toInt = (σ 9 1).toInt)
        refine lv_iadd hx hb dX7_skip_24 ?_
        refine lv_topi (fun x18 ex18 => ?_)
        have tx18 : x18.toInt = (σ 9 1).toInt + 1 := (jadd ex18 rfl jz_1 (by omega) (by omega)).trans (by omega)
        refine jput (ty := .int) hx hb hts inlX7 tyX7 tyX7_ok nmX7 hown hK hP hJ hA hS (jc_9 cI cL ad σ τ) rfl (k := 1) (by decide) (Nat.le_of_ble_eq_true rfl) (jp_9_1 cI cL ad σ τ x18) (hts _ kw_13_17) (fun _ h9 => h9) rfl (by decide +kernel) rfl rfl dX7_skip_25 (fun σ19 H locs eσ19 hP hS => ?_)
        refine lv_iconst (v := 1) hx hb dX7_skip_28 (by decide) ?_
        have I20 : jI9 σ19 := jI9_fr (jkp 0 eσ19 (by decide)) (jnp 10 eσ19 (by decide)) (jnp 11 eσ19 (by decide)) hI9
        have z21 : (σ19 9 1).toInt = (σ 9 1).toInt + 1 := ((congrArg Int32.toInt (show σ19 9 1 = x18 from (jsp eσ19))).trans tx18)
        have z22 : (σ19 9 0).toInt = (σ 9 0).toInt := (congrArg Int32.toInt (show σ19 9 0 = (σ 9 0) from (jkp 0 eσ19 (by decide))))
        have I23 : jI91 σ19 := ⟨(by omega), (by omega)⟩
        have I24 : jI92 σ19 := jI92_fr (jkp 2 eσ19 (by decide)) hI92
        exact hret 1 σ19 τ _ _ _ _ rfl ⟨rfl, (fun i hi => (jnp i eσ19 (imp_39 i hi))), (fun i hi => (jkp i eσ19 (imp_44 i hi))), I20, I23, I24, trivial⟩ hP hS dX7_skip_29
      · have kc16 := jne c16 rfl t1
        refine lv_iconst (v := 0) hx hb dX7_skip_16 (by decide) ?_
        exact hret 0 σ τ _ _ _ _ rfl ⟨rfl, (fun _ _ => rfl), (fun _ _ => rfl), hI9, hI91, hI92, trivial⟩ hP hS dX7_skip_17
    · obtain ⟨q26, k25⟩ := h11
      have q26 := q26.symm
      subst q26
      refine lv_iload_n hx hb dX7_skip_12 rfl (lv_at hl 1 rfl) ?_
      refine lv_icmp_eq (tgt := 18) hx hb dX7_skip_13 (by decide) (fun c => absurd (jeq c jz_m1 t1) (by omega)) (fun c27 => ?_)
      have kc27 := jne c27 jz_m1 t1
      refine lv_iconst (v := 0) hx hb dX7_skip_16 (by decide) ?_
      exact hret 0 σ τ _ _ _ _ rfl ⟨rfl, (fun _ _ => rfl), (fun _ _ => rfl), hI9, hI91, hI92, trivial⟩ hP hS dX7_skip_17
set_option maxHeartbeats 4000000 in
set_option maxRecDepth 100000 in
theorem c_X7_number_2 (l : Launch) (D : va_G) (cI cL : ClassId) (ad zz : Nat → Nat) (hJ : jD ad) (σ : Nat → Nat → Int32) (τ : Nat → Nat → Int64) (hI9 : jI9 σ) (hI91 : jI91 σ) (hI92 : jI92 σ) : jM l yX7_number cX7_number 4 (some .int) ({ frames := 1, cells := 0, slots := 0, locals := 21 }) D cI cL ad zz [.ref (ad 9), .int 2] σ τ (fun r σ' τ' => τ = τ' ∧ (∀ i : Nat, (i < 9 ∨ 9 < i) → σ' i = σ i) ∧ (∀ k : Nat, (k < 1 ∨ 1 < k) ∧ (k < 2 ∨ 2 < k) → σ' 9 k = σ 9 k) ∧ (jI9 σ') ∧ (jI91 σ') ∧ (jI92 σ') ∧ ((0 ≤ (σ 9 2).toInt ∧ 0 ≤ (σ' 9 2).toInt) ∨ ((σ 9 2).toInt = (-1))) ∧ ((True ∧ (0 ≤ r.toInt ∧ r.toInt ≤ 99)))) := by
  refine jM.of hJ (by decide +kernel) (nt := .int) rfl (Nat.le_of_ble_eq_true rfl) ?_
  intro p e s m args below meth c Q ls hC hret hl hP
  obtain ⟨hx, hb, hr, hml, hown, hts, hK, -, hlocks, hZ⟩ := hC
  have hown : s.vm.findClass RX7 = some m.cls := hown
  have hS : va_S (jA ad) s.heap s.heap [] := va_S.rf
  have hA : ∀ q, jA ad q → jA ad q := fun _ h => h
  have hl : lv_has ls 4 [(0, .ref (ad 9)), (1, .int 2)] := hl
  obtain ⟨i1, w2, w3⟩ : (0 ≤ (σ 9 0).toInt ∧ (σ 9 0).toInt ≤ 80) ∧ (∀ k : Nat, k < 80 → 0 ≤ (σ 10 k).toInt ∧ (σ 10 k).toInt ≤ 255) ∧ (∀ k : Nat, k < 8 → 0 ≤ (σ 11 k).toInt ∧ (σ 11 k).toInt ≤ 3) := id hI9
  obtain ⟨i4, i5⟩ : (0 ≤ (σ 9 1).toInt) ∧ ((σ 9 1).toInt ≤ (σ 9 0).toInt) := id hI91
  have i6 : (-1) ≤ (σ 9 2).toInt := hI92
  refine lv_aload_n hx hb dX7_number_0 rfl (lv_at hl 0 rfl) ?_
  refine jcallV (As := []) (rest := []) ⟨hx, hb, hml, hown, hts⟩ hK hP hA hS hZ (c_X7_sign_9 l D cI cL ad zz hJ σ τ hI9) cw_RX7_35 (jc_9 cI cL ad σ τ) rfl ⟨Nat.le_of_ble_eq_true rfl, Nat.le_of_ble_eq_true rfl⟩ rfl rfl rfl hl.1 rfl (Nat.le_of_ble_eq_true rfl) dX7_number_1 ⟨Nat.zero_le _, Nat.zero_le _⟩ (fun r8 σ7 τ7 H locs h7 hP hS => ?_)
  obtain ⟨⟨rfl, rfl⟩, h7⟩ := h7
  rcases h7 with h9 | h10
  · obtain ⟨q13, k11, k12⟩ := h9
    have q14 : r8 = (σ 10 (σ 9 1).toNatClampNeg) := q13.trans rfl
    have q14 := q14.symm
    subst q14
    refine jcallS (As := [.int (σ 10 (σ 9 1).toNatClampNeg)]) (rest := []) ⟨hx, hb, hml, hown, hts⟩ hK hP hA hS hZ (c_X7_isDigit l D cI cL ad zz hJ σ τ (σ 10 (σ 9 1).toNatClampNeg) ((σ 10 (σ 9 1).toNatClampNeg).toInt) rfl) cw_RX7_39 ⟨Nat.le_of_ble_eq_true rfl, Nat.le_of_ble_eq_true rfl⟩ rfl rfl rfl hl.1 rfl (Nat.le_of_ble_eq_true rfl) dX7_number_4 ⟨Nat.zero_le _, Nat.zero_le _⟩ (fun r16 σ15 τ15 H locs h15 hP hS => ?_)
    obtain ⟨⟨rfl, rfl⟩, h15⟩ := h15
    rcases h15 with h17 | h18
    · obtain ⟨q20, k19⟩ := h17
      have q20 := q20.symm
      subst q20
      refine lv_if_ne (tgt := 18) hx hb dX7_number_7 (by decide) (fun _ => ?_) (fun c => absurd c (by decide))
      refine lv_iconst (v := 0) hx hb dX7_number_18 (by decide) ?_
      refine lv_istore_n (lv' := [(2, .int 0), (0, .ref (ad 9)), (1, .int 2)]) hx hb dX7_number_19 rfl hl (by decide) rfl (fun ls hl => ?_)
      refine lv_iconst (v := 0) hx hb dX7_number_20 (by decide) ?_
      refine lv_istore_n (lv' := [(3, .int 0), (2, .int 0), (0, .ref (ad 9)), (1, .int 2)]) hx hb dX7_number_21 rfl hl (by decide) rfl (fun ls hl => ?_)
      refine lv_iload_n hx hb dX7_number_22 rfl (lv_at hl 0 rfl) ?_
      refine lv_iload_n hx hb dX7_number_23 rfl (lv_at hl 3 rfl) ?_
      refine lv_icmp_ge (tgt := 68) hx hb dX7_number_24 (by decide) (fun c => absurd c (by decide)) (fun _ => ?_)
      refine lv_aload_n hx hb dX7_number_27 rfl (lv_at hl 2 rfl) ?_
      refine jcallV (As := []) (rest := []) ⟨hx, hb, hml, hown, hts⟩ hK hP hA hS hZ (c_X7_sign_9 l D cI cL ad zz hJ σ τ hI9) cw_RX7_35 (jc_9 cI cL ad σ τ) rfl ⟨Nat.le_of_ble_eq_true rfl, Nat.le_of_ble_eq_true rfl⟩ rfl rfl rfl hl.1 rfl (Nat.le_of_ble_eq_true rfl) dX7_number_28 ⟨Nat.zero_le _, Nat.zero_le _⟩ (fun r22 σ21 τ21 H locs h21 hP hS => ?_)
      obtain ⟨⟨rfl, rfl⟩, h21⟩ := h21
      rcases h21 with h23 | h24
      · obtain ⟨q27, k25, k26⟩ := h23
        have q28 : r22 = (σ 10 (σ 9 1).toNatClampNeg) := q27.trans rfl
        have q28 := q28.symm
        subst q28
        refine jcallS (As := [.int (σ 10 (σ 9 1).toNatClampNeg)]) (rest := []) ⟨hx, hb, hml, hown, hts⟩ hK hP hA hS hZ (c_X7_isDigit l D cI cL ad zz hJ σ τ (σ 10 (σ 9 1).toNatClampNeg) ((σ 10 (σ 9 1).toNatClampNeg).toInt) rfl) cw_RX7_39 ⟨Nat.le_of_ble_eq_true rfl, Nat.le_of_ble_eq_true rfl⟩ rfl rfl rfl hl.1 rfl (Nat.le_of_ble_eq_true rfl) dX7_number_31 ⟨Nat.zero_le _, Nat.zero_le _⟩ (fun r30 σ29 τ29 H locs h29 hP hS => ?_)
        obtain ⟨⟨rfl, rfl⟩, h29⟩ := h29
        rcases h29 with h31 | h32
        · obtain ⟨q34, k33⟩ := h31
          have q34 := q34.symm
          subst q34
          refine lv_if_eq (tgt := 68) hx hb dX7_number_34 (by decide) (fun c => absurd c (by decide)) (fun _ => ?_)
          refine lv_iload_n hx hb dX7_number_37 rfl (lv_at hl 1 rfl) ?_
          refine lv_bipush (v := 10) hx hb dX7_number_38 (by decide) ?_
          refine lv_imul hx hb dX7_number_40 ?_
          refine jtopr (y := 0) (by decide) ?_
          refine lv_aload_n hx hb dX7_number_41 rfl (lv_at hl 2 rfl) ?_
          refine va_get (D := D) hx hb hts inlX7 hown hK hP 9 (jc_9 cI cL ad σ τ) rfl 3 (by decide) (hts _ kw_3_20) (fun _ h9 => h9) rfl dX7_number_42 ?_
          refine lv_aload_n hx hb dX7_number_45 rfl (lv_at hl 2 rfl) ?_
          refine lv_dup hx hb dX7_number_46 rfl ?_
          refine va_get (D := D) hx hb hts inlX7 hown hK hP 9 (jc_9 cI cL ad σ τ) rfl 1 (by decide) (hts _ kw_13_17) (fun _ h9 => h9) rfl dX7_number_47 ?_
          refine lv_dup_x1 hx hb dX7_number_50 rfl rfl ?_
          refine lv_iconst (v := 1) hx hb dX7_number_51 (by decide) ?_
          have g35 := jrg (rfl : (σ 9 1).toInt = (σ 9 1).toInt)
          refine lv_iadd hx hb dX7_number_52 ?_
          refine lv_topi (fun x36 ex36 => ?_)
          have tx36 : x36.toInt = (σ 9 1).toInt + 1 := (jadd ex36 rfl jz_1 (by omega) (by omega)).trans (by omega)
          refine jput (ty := .int) hx hb hts inlX7 tyX7 tyX7_ok nmX7 hown hK hP hJ hA hS (jc_9 cI cL ad σ τ) rfl (k := 1) (by decide) (Nat.le_of_ble_eq_true rfl) (jp_9_1 cI cL ad σ τ x36) (hts _ kw_13_17) (fun _ h9 => h9) rfl (by decide +kernel) rfl rfl dX7_number_53 (fun σ37 H locs eσ37 hP hS => ?_)
          refine jald hx hb hK hP (jc_10 cI cL ad σ37 τ) (jin rfl (by omega) (by omega)) dX7_number_56 ?_
          refine jtopr (y := (σ 10 (σ 9 1).toNatClampNeg)) (by rw [jnp 10 eσ37 (by decide)]) ?_
          refine lv_iadd hx hb dX7_number_57 ?_
          refine jtopr (y := (σ 10 (σ 9 1).toNatClampNeg)) (by rw [Int32.zero_add]) ?_
          refine lv_bipush (v := 48) hx hb dX7_number_58 (by decide) ?_
          have g38 := jrg (rfl : (σ 10 (σ 9 1).toNatClampNeg).toInt = (σ 10 (σ 9 1).toNatClampNeg).toInt)
          refine lv_isub hx hb dX7_number_60 ?_
          refine lv_topi (fun x39 ex39 => ?_)
          have tx39 : x39.toInt = (σ 10 (σ 9 1).toNatClampNeg).toInt - 48 := (jsub ex39 rfl jz_48 (by omega) (by omega)).trans (by omega)
          refine lv_istore_n (lv' := [(2, .int x39), (3, .int 0), (0, .ref (ad 9)), (1, .int 2)]) hx hb dX7_number_61 rfl hl (by decide) rfl (fun ls hl => ?_)
          refine lv_iinc (v := 1) (lv' := [(3, .int 1), (2, .int x39), (0, .ref (ad 9)), (1, .int 2)]) hx hb dX7_number_62 hl (k := 1) rfl (by decide) (by decide) rfl (fun ls hl => ?_)
          refine lv_goto (tgt := 22) hx hb dX7_number_65 (by decide) ?_
          refine lv_iload_n hx hb dX7_number_22 rfl (lv_at hl 0 rfl) ?_
          refine lv_iload_n hx hb dX7_number_23 rfl (lv_at hl 3 rfl) ?_
          refine lv_icmp_ge (tgt := 68) hx hb dX7_number_24 (by decide) (fun c => absurd c (by decide)) (fun _ => ?_)
          refine lv_aload_n hx hb dX7_number_27 rfl (lv_at hl 2 rfl) ?_
          have I40 : jI9 σ37 := jI9_fr (jkp 0 eσ37 (by decide)) (jnp 10 eσ37 (by decide)) (jnp 11 eσ37 (by decide)) hI9
          have z41 : (σ37 9 1).toInt = (σ 9 1).toInt + 1 := ((congrArg Int32.toInt (show σ37 9 1 = x36 from (jsp eσ37))).trans tx36)
          have z42 : (σ37 9 0).toInt = (σ 9 0).toInt := (congrArg Int32.toInt (show σ37 9 0 = (σ 9 0) from (jkp 0 eσ37 (by decide))))
          refine jcallV (As := []) (rest := []) ⟨hx, hb, hml, hown, hts⟩ hK hP hA hS hZ (c_X7_sign_9 l D cI cL ad zz hJ σ37 τ I40) cw_RX7_35 (jc_9 cI cL ad σ37 τ) rfl ⟨Nat.le_of_ble_eq_true rfl, Nat.le_of_ble_eq_true rfl⟩ rfl rfl rfl hl.1 rfl (Nat.le_of_ble_eq_true rfl) dX7_number_28 ⟨Nat.zero_le _, Nat.zero_le _⟩ (fun r44 σ43 τ43 H locs h43 hP hS => ?_)
          obtain ⟨⟨rfl, rfl⟩, h43⟩ := h43
          rcases h43 with h45 | h46
          · obtain ⟨q49, k47, k48⟩ := h45
            have q50 : r44 = (σ 10 x36.toNatClampNeg) := q49.trans (by rw [(show σ37 9 1 = x36 from (jsp eσ37)), jnp 10 eσ37 (by decide)])
            have q50e : (σ37 10 (σ37 9 1).toNatClampNeg).toInt = (σ 10 x36.toNatClampNeg).toInt := by rw [← q49, ← q50]
            have q50 := q50.symm
            subst q50
            refine jcallS (As := [.int (σ 10 x36.toNatClampNeg)]) (rest := []) ⟨hx, hb, hml, hown, hts⟩ hK hP hA hS hZ (c_X7_isDigit l D cI cL ad zz hJ σ37 τ (σ 10 x36.toNatClampNeg) ((σ 10 x36.toNatClampNeg).toInt) rfl) cw_RX7_39 ⟨Nat.le_of_ble_eq_true rfl, Nat.le_of_ble_eq_true rfl⟩ rfl rfl rfl hl.1 rfl (Nat.le_of_ble_eq_true rfl) dX7_number_31 ⟨Nat.zero_le _, Nat.zero_le _⟩ (fun r52 σ51 τ51 H locs h51 hP hS => ?_)
            obtain ⟨⟨rfl, rfl⟩, h51⟩ := h51
            rcases h51 with h53 | h54
            · obtain ⟨q56, k55⟩ := h53
              have q56 := q56.symm
              subst q56
              refine lv_if_eq (tgt := 68) hx hb dX7_number_34 (by decide) (fun c => absurd c (by decide)) (fun _ => ?_)
              refine lv_iload_n hx hb dX7_number_37 rfl (lv_at hl 1 rfl) ?_
              refine lv_bipush (v := 10) hx hb dX7_number_38 (by decide) ?_
              refine lv_imul hx hb dX7_number_40 ?_
              refine lv_topi (fun x57 ex57 => ?_)
              have tx57 : x57.toInt = 10 * (σ 10 (σ 9 1).toNatClampNeg).toInt - 480 := (jmul ex57 tx39 jz_10 (by omega) (by omega)).trans (by omega)
              refine lv_aload_n hx hb dX7_number_41 rfl (lv_at hl 2 rfl) ?_
              refine va_get (D := D) hx hb hts inlX7 hown hK hP 9 (jc_9 cI cL ad σ37 τ) rfl 3 (by decide) (hts _ kw_3_20) (fun _ h9 => h9) rfl dX7_number_42 ?_
              refine lv_aload_n hx hb dX7_number_45 rfl (lv_at hl 2 rfl) ?_
              refine lv_dup hx hb dX7_number_46 rfl ?_
              refine va_get (D := D) hx hb hts inlX7 hown hK hP 9 (jc_9 cI cL ad σ37 τ) rfl 1 (by decide) (hts _ kw_13_17) (fun _ h9 => h9) rfl dX7_number_47 ?_
              have m58 : σ37 9 1 = x36 := (jsp eσ37)
              refine jtopr m58 ?_
              refine lv_dup_x1 hx hb dX7_number_50 rfl rfl ?_
              refine lv_iconst (v := 1) hx hb dX7_number_51 (by decide) ?_
              refine lv_iadd hx hb dX7_number_52 ?_
              refine lv_topi (fun x59 ex59 => ?_)
              have tx59 : x59.toInt = (σ 9 1).toInt + 2 := (jadd ex59 tx36 jz_1 (by omega) (by omega)).trans (by omega)
              refine jput (ty := .int) hx hb hts inlX7 tyX7 tyX7_ok nmX7 hown hK hP hJ hA hS (jc_9 cI cL ad σ37 τ) rfl (k := 1) (by decide) (Nat.le_of_ble_eq_true rfl) (jp_9_1 cI cL ad σ37 τ x59) (hts _ kw_13_17) (fun _ h9 => h9) rfl (by decide +kernel) rfl rfl dX7_number_53 (fun σ60 H locs eσ60 hP hS => ?_)
              refine jald hx hb hK hP (jc_10 cI cL ad σ60 τ) (jin tx36 (by omega) (by omega)) dX7_number_56 ?_
              refine jtopr (y := (σ 10 x36.toNatClampNeg)) (by rw [jnp 10 eσ60 (by decide), jnp 10 eσ37 (by decide)]) ?_
              have g61 := jrg (rfl : (σ 10 x36.toNatClampNeg).toInt = (σ 10 x36.toNatClampNeg).toInt)
              refine lv_iadd hx hb dX7_number_57 ?_
              refine lv_topi (fun x62 ex62 => ?_)
              have tx62 : x62.toInt = 10 * (σ 10 (σ 9 1).toNatClampNeg).toInt + (σ 10 x36.toNatClampNeg).toInt - 480 := (jadd ex62 tx57 rfl (by omega) (by omega)).trans (by omega)
              refine lv_bipush (v := 48) hx hb dX7_number_58 (by decide) ?_
              refine lv_isub hx hb dX7_number_60 ?_
              refine lv_topi (fun x63 ex63 => ?_)
              have tx63 : x63.toInt = 10 * (σ 10 (σ 9 1).toNatClampNeg).toInt + (σ 10 x36.toNatClampNeg).toInt - 528 := (jsub ex63 tx62 jz_48 (by omega) (by omega)).trans (by omega)
              refine lv_istore_n (lv' := [(2, .int x63), (3, .int 1), (0, .ref (ad 9)), (1, .int 2)]) hx hb dX7_number_61 rfl hl (by decide) rfl (fun ls hl => ?_)
              refine lv_iinc (v := 2) (lv' := [(3, .int 2), (2, .int x63), (0, .ref (ad 9)), (1, .int 2)]) hx hb dX7_number_62 hl (k := 1) rfl (by decide) (by decide) rfl (fun ls hl => ?_)
              refine lv_goto (tgt := 22) hx hb dX7_number_65 (by decide) ?_
              refine lv_iload_n hx hb dX7_number_22 rfl (lv_at hl 0 rfl) ?_
              refine lv_iload_n hx hb dX7_number_23 rfl (lv_at hl 3 rfl) ?_
              refine lv_icmp_ge (tgt := 68) hx hb dX7_number_24 (by decide) (fun _ => ?_) (fun c => absurd (by decide) c)
              refine lv_iload_n hx hb dX7_number_68 rfl (lv_at hl 1 rfl) ?_
              have I64 : jI9 σ60 := jI9_fr (jkp 0 eσ60 (by decide)) (jnp 10 eσ60 (by decide)) (jnp 11 eσ60 (by decide)) I40
              have z65 : (σ60 9 1).toInt = (σ 9 1).toInt + 2 := ((congrArg Int32.toInt (show σ60 9 1 = x59 from (jsp eσ60))).trans tx59)
              have z66 : (σ60 9 0).toInt = (σ 9 0).toInt := (congrArg Int32.toInt (show σ60 9 0 = (σ 9 0) from ((jkp 0 eσ60 (by decide)).trans (jkp 0 eσ37 (by decide)))))
              have I67 : jI91 σ60 := ⟨(by omega), (by omega)⟩
              have I68 : jI92 σ60 := jI92_fr ((jkp 2 eσ60 (by decide)).trans (jkp 2 eσ37 (by decide))) hI92
              have z69 : (σ60 9 2).toInt = (σ 9 2).toInt := (congrArg Int32.toInt (show σ60 9 2 = (σ 9 2) from ((jkp 2 eσ60 (by decide)).trans (jkp 2 eσ37 (by decide)))))
              exact hret x63 σ60 τ _ _ _ _ rfl ⟨rfl, (fun i hi => ((jnp i eσ60 (imp_39 i hi)).trans (jnp i eσ37 (imp_39 i hi)))), (fun i hi => ((jkp i eσ60 (imp_41 i hi)).trans (jkp i eσ37 (imp_41 i hi)))), I64, I67, I68, (by omega), ⟨trivial, (by have h9 := tx63; omega)⟩⟩ hP hS dX7_number_69
            · obtain ⟨q71, k70⟩ := h54
              have q71 := q71.symm
              subst q71
              refine lv_if_eq (tgt := 68) hx hb dX7_number_34 (by decide) (fun _ => ?_) (fun c => absurd (by decide) c)
              refine lv_iload_n hx hb dX7_number_68 rfl (lv_at hl 1 rfl) ?_
              have I72 : jI91 σ37 := ⟨(by omega), (by omega)⟩
              have I73 : jI92 σ37 := jI92_fr (jkp 2 eσ37 (by decide)) hI92
              have z74 : (σ37 9 2).toInt = (σ 9 2).toInt := (congrArg Int32.toInt (show σ37 9 2 = (σ 9 2) from (jkp 2 eσ37 (by decide))))
              exact hret x39 σ37 τ _ _ _ _ rfl ⟨rfl, (fun i hi => (jnp i eσ37 (imp_39 i hi))), (fun i hi => (jkp i eσ37 (imp_41 i hi))), I40, I72, I73, (by omega), ⟨trivial, (by have h9 := tx39; omega)⟩⟩ hP hS dX7_number_69
          · obtain ⟨q76, k75⟩ := h46
            have q76 := q76.symm
            subst q76
            refine jcallS (As := [.int (-1)]) (rest := []) ⟨hx, hb, hml, hown, hts⟩ hK hP hA hS hZ (c_X7_isDigit l D cI cL ad zz hJ σ37 τ (-1) ((-1)) jz_m1) cw_RX7_39 ⟨Nat.le_of_ble_eq_true rfl, Nat.le_of_ble_eq_true rfl⟩ rfl rfl rfl hl.1 rfl (Nat.le_of_ble_eq_true rfl) dX7_number_31 ⟨Nat.zero_le _, Nat.zero_le _⟩ (fun r78 σ77 τ77 H locs h77 hP hS => ?_)
            obtain ⟨⟨rfl, rfl⟩, h77⟩ := h77
            rcases h77 with h79 | h80
            · obtain ⟨q82, k81⟩ := h79
              exact absurd (by omega : False) id
            · obtain ⟨q84, k83⟩ := h80
              have q84 := q84.symm
              subst q84
              refine lv_if_eq (tgt := 68) hx hb dX7_number_34 (by decide) (fun _ => ?_) (fun c => absurd (by decide) c)
              refine lv_iload_n hx hb dX7_number_68 rfl (lv_at hl 1 rfl) ?_
              have I85 : jI91 σ37 := ⟨(by omega), (by omega)⟩
              have I86 : jI92 σ37 := jI92_fr (jkp 2 eσ37 (by decide)) hI92
              have z87 : (σ37 9 2).toInt = (σ 9 2).toInt := (congrArg Int32.toInt (show σ37 9 2 = (σ 9 2) from (jkp 2 eσ37 (by decide))))
              exact hret x39 σ37 τ _ _ _ _ rfl ⟨rfl, (fun i hi => (jnp i eσ37 (imp_39 i hi))), (fun i hi => (jkp i eσ37 (imp_41 i hi))), I40, I85, I86, (by omega), ⟨trivial, (by have h9 := tx39; omega)⟩⟩ hP hS dX7_number_69
        · obtain ⟨q89, k88⟩ := h32
          exact absurd (by omega : False) id
      · obtain ⟨q91, k90⟩ := h24
        exact absurd (by omega : False) id
    · obtain ⟨q93, k92⟩ := h18
      have q93 := q93.symm
      subst q93
      refine lv_if_ne (tgt := 18) hx hb dX7_number_7 (by decide) (fun c => absurd (by decide) c) (fun _ => ?_)
      refine lv_aload_n hx hb dX7_number_10 rfl (lv_at hl 0 rfl) ?_
      refine lv_aload_n hx hb dX7_number_11 rfl (lv_at hl 0 rfl) ?_
      refine va_get (D := D) hx hb hts inlX7 hown hK hP 9 (jc_9 cI cL ad σ τ) rfl 1 (by decide) (hts _ kw_13_17) (fun _ h9 => h9) rfl dX7_number_12 ?_
      refine jcallVv (As := [.int (σ 9 1)]) (rest := []) ⟨hx, hb, hml, hown, hts⟩ hK hP hA hS hZ (c_X7_fail_9 l D cI cL ad zz hJ σ τ (σ 9 1) ((σ 9 1).toInt) rfl hI92 (by omega)) cw_RX7_43 (jc_9 cI cL ad σ τ) rfl ⟨Nat.le_of_ble_eq_true rfl, Nat.le_of_ble_eq_true rfl⟩ rfl rfl rfl hl.1 rfl (Nat.le_of_ble_eq_true rfl) dX7_number_15 ⟨Nat.zero_le _, Nat.zero_le _⟩ (fun σ94 τ94 H locs h94 hP hS => ?_)
      obtain ⟨rfl, f96, f97, h94⟩ := h94
      obtain ⟨k98, h94⟩ := h94
      refine lv_iconst (v := 0) hx hb dX7_number_18 (by decide) ?_
      refine lv_istore_n (lv' := [(2, .int 0), (0, .ref (ad 9)), (1, .int 2)]) hx hb dX7_number_19 rfl hl (by decide) rfl (fun ls hl => ?_)
      refine lv_iconst (v := 0) hx hb dX7_number_20 (by decide) ?_
      refine lv_istore_n (lv' := [(3, .int 0), (2, .int 0), (0, .ref (ad 9)), (1, .int 2)]) hx hb dX7_number_21 rfl hl (by decide) rfl (fun ls hl => ?_)
      refine lv_iload_n hx hb dX7_number_22 rfl (lv_at hl 0 rfl) ?_
      refine lv_iload_n hx hb dX7_number_23 rfl (lv_at hl 3 rfl) ?_
      refine lv_icmp_ge (tgt := 68) hx hb dX7_number_24 (by decide) (fun c => absurd c (by decide)) (fun _ => ?_)
      refine lv_aload_n hx hb dX7_number_27 rfl (lv_at hl 2 rfl) ?_
      have I99 : jI9 σ94 := jI9_fr (f97 0 (by decide)) (f96 10 (by decide)) (f96 11 (by decide)) hI9
      have z100 : (σ94 9 1).toInt = (σ 9 1).toInt := (congrArg Int32.toInt (show σ94 9 1 = (σ 9 1) from (f97 1 (by decide))))
      have z101 : (σ94 9 0).toInt = (σ 9 0).toInt := (congrArg Int32.toInt (show σ94 9 0 = (σ 9 0) from (f97 0 (by decide))))
      refine jcallV (As := []) (rest := []) ⟨hx, hb, hml, hown, hts⟩ hK hP hA hS hZ (c_X7_sign_9 l D cI cL ad zz hJ σ94 τ I99) cw_RX7_35 (jc_9 cI cL ad σ94 τ) rfl ⟨Nat.le_of_ble_eq_true rfl, Nat.le_of_ble_eq_true rfl⟩ rfl rfl rfl hl.1 rfl (Nat.le_of_ble_eq_true rfl) dX7_number_28 ⟨Nat.zero_le _, Nat.zero_le _⟩ (fun r103 σ102 τ102 H locs h102 hP hS => ?_)
      obtain ⟨⟨rfl, rfl⟩, h102⟩ := h102
      rcases h102 with h104 | h105
      · obtain ⟨q108, k106, k107⟩ := h104
        have q109 : r103 = (σ 10 (σ 9 1).toNatClampNeg) := q108.trans (by rw [(show σ94 9 1 = (σ 9 1) from (f97 1 (by decide))), f96 10 (by decide)])
        have q109e : (σ94 10 (σ94 9 1).toNatClampNeg).toInt = (σ 10 (σ 9 1).toNatClampNeg).toInt := by rw [← q108, ← q109]
        have q109 := q109.symm
        subst q109
        refine jcallS (As := [.int (σ 10 (σ 9 1).toNatClampNeg)]) (rest := []) ⟨hx, hb, hml, hown, hts⟩ hK hP hA hS hZ (c_X7_isDigit l D cI cL ad zz hJ σ94 τ (σ 10 (σ 9 1).toNatClampNeg) ((σ 10 (σ 9 1).toNatClampNeg).toInt) rfl) cw_RX7_39 ⟨Nat.le_of_ble_eq_true rfl, Nat.le_of_ble_eq_true rfl⟩ rfl rfl rfl hl.1 rfl (Nat.le_of_ble_eq_true rfl) dX7_number_31 ⟨Nat.zero_le _, Nat.zero_le _⟩ (fun r111 σ110 τ110 H locs h110 hP hS => ?_)
        obtain ⟨⟨rfl, rfl⟩, h110⟩ := h110
        rcases h110 with h112 | h113
        · obtain ⟨q115, k114⟩ := h112
          exact absurd (by omega : False) id
        · obtain ⟨q117, k116⟩ := h113
          have q117 := q117.symm
          subst q117
          refine lv_if_eq (tgt := 68) hx hb dX7_number_34 (by decide) (fun _ => ?_) (fun c => absurd (by decide) c)
          refine lv_iload_n hx hb dX7_number_68 rfl (lv_at hl 1 rfl) ?_
          have I118 : jI91 σ94 := jI91_fr (f97 0 (by decide)) (f97 1 (by decide)) hI91
          have I119 : jI92 σ94 := (show (-1) ≤ (σ94 9 2).toInt by omega)
          exact hret 0 σ94 τ _ _ _ _ rfl ⟨rfl, (fun i hi => (f96 i hi)), (fun i hi => (f97 i (imp_45 i hi))), I99, I118, I119, (by omega), ⟨trivial, (by have h9 := jz_0; omega)⟩⟩ hP hS dX7_number_69
      · obtain ⟨q121, k120⟩ := h105
        have q121 := q121.symm
        subst q121
        refine jcallS (As := [.int (-1)]) (rest := []) ⟨hx, hb, hml, hown, hts⟩ hK hP hA hS hZ (c_X7_isDigit l D cI cL ad zz hJ σ94 τ (-1) ((-1)) jz_m1) cw_RX7_39 ⟨Nat.le_of_ble_eq_true rfl, Nat.le_of_ble_eq_true rfl⟩ rfl rfl rfl hl.1 rfl (Nat.le_of_ble_eq_true rfl) dX7_number_31 ⟨Nat.zero_le _, Nat.zero_le _⟩ (fun r123 σ122 τ122 H locs h122 hP hS => ?_)
        obtain ⟨⟨rfl, rfl⟩, h122⟩ := h122
        rcases h122 with h124 | h125
        · obtain ⟨q127, k126⟩ := h124
          exact absurd (by omega : False) id
        · obtain ⟨q129, k128⟩ := h125
          have q129 := q129.symm
          subst q129
          refine lv_if_eq (tgt := 68) hx hb dX7_number_34 (by decide) (fun _ => ?_) (fun c => absurd (by decide) c)
          refine lv_iload_n hx hb dX7_number_68 rfl (lv_at hl 1 rfl) ?_
          have I130 : jI91 σ94 := jI91_fr (f97 0 (by decide)) (f97 1 (by decide)) hI91
          have I131 : jI92 σ94 := (show (-1) ≤ (σ94 9 2).toInt by omega)
          exact hret 0 σ94 τ _ _ _ _ rfl ⟨rfl, (fun i hi => (f96 i hi)), (fun i hi => (f97 i (imp_45 i hi))), I99, I130, I131, (by omega), ⟨trivial, (by have h9 := jz_0; omega)⟩⟩ hP hS dX7_number_69
  · obtain ⟨q133, k132⟩ := h10
    have q133 := q133.symm
    subst q133
    refine jcallS (As := [.int (-1)]) (rest := []) ⟨hx, hb, hml, hown, hts⟩ hK hP hA hS hZ (c_X7_isDigit l D cI cL ad zz hJ σ τ (-1) ((-1)) jz_m1) cw_RX7_39 ⟨Nat.le_of_ble_eq_true rfl, Nat.le_of_ble_eq_true rfl⟩ rfl rfl rfl hl.1 rfl (Nat.le_of_ble_eq_true rfl) dX7_number_4 ⟨Nat.zero_le _, Nat.zero_le _⟩ (fun r135 σ134 τ134 H locs h134 hP hS => ?_)
    obtain ⟨⟨rfl, rfl⟩, h134⟩ := h134
    rcases h134 with h136 | h137
    · obtain ⟨q139, k138⟩ := h136
      exact absurd (by omega : False) id
    · obtain ⟨q141, k140⟩ := h137
      have q141 := q141.symm
      subst q141
      refine lv_if_ne (tgt := 18) hx hb dX7_number_7 (by decide) (fun c => absurd (by decide) c) (fun _ => ?_)
      refine lv_aload_n hx hb dX7_number_10 rfl (lv_at hl 0 rfl) ?_
      refine lv_aload_n hx hb dX7_number_11 rfl (lv_at hl 0 rfl) ?_
      refine va_get (D := D) hx hb hts inlX7 hown hK hP 9 (jc_9 cI cL ad σ τ) rfl 1 (by decide) (hts _ kw_13_17) (fun _ h9 => h9) rfl dX7_number_12 ?_
      refine jcallVv (As := [.int (σ 9 1)]) (rest := []) ⟨hx, hb, hml, hown, hts⟩ hK hP hA hS hZ (c_X7_fail_9 l D cI cL ad zz hJ σ τ (σ 9 1) ((σ 9 1).toInt) rfl hI92 (by omega)) cw_RX7_43 (jc_9 cI cL ad σ τ) rfl ⟨Nat.le_of_ble_eq_true rfl, Nat.le_of_ble_eq_true rfl⟩ rfl rfl rfl hl.1 rfl (Nat.le_of_ble_eq_true rfl) dX7_number_15 ⟨Nat.zero_le _, Nat.zero_le _⟩ (fun σ142 τ142 H locs h142 hP hS => ?_)
      obtain ⟨rfl, f144, f145, h142⟩ := h142
      obtain ⟨k146, h142⟩ := h142
      refine lv_iconst (v := 0) hx hb dX7_number_18 (by decide) ?_
      refine lv_istore_n (lv' := [(2, .int 0), (0, .ref (ad 9)), (1, .int 2)]) hx hb dX7_number_19 rfl hl (by decide) rfl (fun ls hl => ?_)
      refine lv_iconst (v := 0) hx hb dX7_number_20 (by decide) ?_
      refine lv_istore_n (lv' := [(3, .int 0), (2, .int 0), (0, .ref (ad 9)), (1, .int 2)]) hx hb dX7_number_21 rfl hl (by decide) rfl (fun ls hl => ?_)
      refine lv_iload_n hx hb dX7_number_22 rfl (lv_at hl 0 rfl) ?_
      refine lv_iload_n hx hb dX7_number_23 rfl (lv_at hl 3 rfl) ?_
      refine lv_icmp_ge (tgt := 68) hx hb dX7_number_24 (by decide) (fun c => absurd c (by decide)) (fun _ => ?_)
      refine lv_aload_n hx hb dX7_number_27 rfl (lv_at hl 2 rfl) ?_
      have I147 : jI9 σ142 := jI9_fr (f145 0 (by decide)) (f144 10 (by decide)) (f144 11 (by decide)) hI9
      have z148 : (σ142 9 1).toInt = (σ 9 1).toInt := (congrArg Int32.toInt (show σ142 9 1 = (σ 9 1) from (f145 1 (by decide))))
      have z149 : (σ142 9 0).toInt = (σ 9 0).toInt := (congrArg Int32.toInt (show σ142 9 0 = (σ 9 0) from (f145 0 (by decide))))
      refine jcallV (As := []) (rest := []) ⟨hx, hb, hml, hown, hts⟩ hK hP hA hS hZ (c_X7_sign_9 l D cI cL ad zz hJ σ142 τ I147) cw_RX7_35 (jc_9 cI cL ad σ142 τ) rfl ⟨Nat.le_of_ble_eq_true rfl, Nat.le_of_ble_eq_true rfl⟩ rfl rfl rfl hl.1 rfl (Nat.le_of_ble_eq_true rfl) dX7_number_28 ⟨Nat.zero_le _, Nat.zero_le _⟩ (fun r151 σ150 τ150 H locs h150 hP hS => ?_)
      obtain ⟨⟨rfl, rfl⟩, h150⟩ := h150
      rcases h150 with h152 | h153
      · obtain ⟨q156, k154, k155⟩ := h152
        have q157 : r151 = (σ 10 (σ 9 1).toNatClampNeg) := q156.trans (by rw [(show σ142 9 1 = (σ 9 1) from (f145 1 (by decide))), f144 10 (by decide)])
        have q157e : (σ142 10 (σ142 9 1).toNatClampNeg).toInt = (σ 10 (σ 9 1).toNatClampNeg).toInt := by rw [← q156, ← q157]
        have q157 := q157.symm
        subst q157
        refine jcallS (As := [.int (σ 10 (σ 9 1).toNatClampNeg)]) (rest := []) ⟨hx, hb, hml, hown, hts⟩ hK hP hA hS hZ (c_X7_isDigit l D cI cL ad zz hJ σ142 τ (σ 10 (σ 9 1).toNatClampNeg) ((σ 10 (σ 9 1).toNatClampNeg).toInt) rfl) cw_RX7_39 ⟨Nat.le_of_ble_eq_true rfl, Nat.le_of_ble_eq_true rfl⟩ rfl rfl rfl hl.1 rfl (Nat.le_of_ble_eq_true rfl) dX7_number_31 ⟨Nat.zero_le _, Nat.zero_le _⟩ (fun r159 σ158 τ158 H locs h158 hP hS => ?_)
        obtain ⟨⟨rfl, rfl⟩, h158⟩ := h158
        rcases h158 with h160 | h161
        · obtain ⟨q163, k162⟩ := h160
          have q163 := q163.symm
          subst q163
          refine lv_if_eq (tgt := 68) hx hb dX7_number_34 (by decide) (fun c => absurd c (by decide)) (fun _ => ?_)
          refine lv_iload_n hx hb dX7_number_37 rfl (lv_at hl 1 rfl) ?_
          refine lv_bipush (v := 10) hx hb dX7_number_38 (by decide) ?_
          refine lv_imul hx hb dX7_number_40 ?_
          refine jtopr (y := 0) (by decide) ?_
          refine lv_aload_n hx hb dX7_number_41 rfl (lv_at hl 2 rfl) ?_
          refine va_get (D := D) hx hb hts inlX7 hown hK hP 9 (jc_9 cI cL ad σ142 τ) rfl 3 (by decide) (hts _ kw_3_20) (fun _ h9 => h9) rfl dX7_number_42 ?_
          refine lv_aload_n hx hb dX7_number_45 rfl (lv_at hl 2 rfl) ?_
          refine lv_dup hx hb dX7_number_46 rfl ?_
          refine va_get (D := D) hx hb hts inlX7 hown hK hP 9 (jc_9 cI cL ad σ142 τ) rfl 1 (by decide) (hts _ kw_13_17) (fun _ h9 => h9) rfl dX7_number_47 ?_
          have m164 : σ142 9 1 = (σ 9 1) := (f145 1 (by decide))
          refine jtopr m164 ?_
          refine lv_dup_x1 hx hb dX7_number_50 rfl rfl ?_
          refine lv_iconst (v := 1) hx hb dX7_number_51 (by decide) ?_
          have g165 := jrg (rfl : (σ 9 1).toInt = (σ 9 1).toInt)
          refine lv_iadd hx hb dX7_number_52 ?_
          refine lv_topi (fun x166 ex166 => ?_)
          have tx166 : x166.toInt = (σ 9 1).toInt + 1 := (jadd ex166 rfl jz_1 (by omega) (by omega)).trans (by omega)
          refine jput (ty := .int) hx hb hts inlX7 tyX7 tyX7_ok nmX7 hown hK hP hJ hA hS (jc_9 cI cL ad σ142 τ) rfl (k := 1) (by decide) (Nat.le_of_ble_eq_true rfl) (jp_9_1 cI cL ad σ142 τ x166) (hts _ kw_13_17) (fun _ h9 => h9) rfl (by decide +kernel) rfl rfl dX7_number_53 (fun σ167 H locs eσ167 hP hS => ?_)
          refine jald hx hb hK hP (jc_10 cI cL ad σ167 τ) (jin rfl (by omega) (by omega)) dX7_number_56 ?_
          refine jtopr (y := (σ 10 (σ 9 1).toNatClampNeg)) (by rw [jnp 10 eσ167 (by decide), f144 10 (by decide)]) ?_
          refine lv_iadd hx hb dX7_number_57 ?_
          refine jtopr (y := (σ 10 (σ 9 1).toNatClampNeg)) (by rw [Int32.zero_add]) ?_
          refine lv_bipush (v := 48) hx hb dX7_number_58 (by decide) ?_
          have g168 := jrg (rfl : (σ 10 (σ 9 1).toNatClampNeg).toInt = (σ 10 (σ 9 1).toNatClampNeg).toInt)
          refine lv_isub hx hb dX7_number_60 ?_
          refine lv_topi (fun x169 ex169 => ?_)
          have tx169 : x169.toInt = (σ 10 (σ 9 1).toNatClampNeg).toInt - 48 := (jsub ex169 rfl jz_48 (by omega) (by omega)).trans (by omega)
          refine lv_istore_n (lv' := [(2, .int x169), (3, .int 0), (0, .ref (ad 9)), (1, .int 2)]) hx hb dX7_number_61 rfl hl (by decide) rfl (fun ls hl => ?_)
          refine lv_iinc (v := 1) (lv' := [(3, .int 1), (2, .int x169), (0, .ref (ad 9)), (1, .int 2)]) hx hb dX7_number_62 hl (k := 1) rfl (by decide) (by decide) rfl (fun ls hl => ?_)
          refine lv_goto (tgt := 22) hx hb dX7_number_65 (by decide) ?_
          refine lv_iload_n hx hb dX7_number_22 rfl (lv_at hl 0 rfl) ?_
          refine lv_iload_n hx hb dX7_number_23 rfl (lv_at hl 3 rfl) ?_
          refine lv_icmp_ge (tgt := 68) hx hb dX7_number_24 (by decide) (fun c => absurd c (by decide)) (fun _ => ?_)
          refine lv_aload_n hx hb dX7_number_27 rfl (lv_at hl 2 rfl) ?_
          have I170 : jI9 σ167 := jI9_fr (jkp 0 eσ167 (by decide)) (jnp 10 eσ167 (by decide)) (jnp 11 eσ167 (by decide)) I147
          have z171 : (σ167 9 1).toInt = (σ 9 1).toInt + 1 := ((congrArg Int32.toInt (show σ167 9 1 = x166 from (jsp eσ167))).trans tx166)
          have z172 : (σ167 9 0).toInt = (σ 9 0).toInt := (congrArg Int32.toInt (show σ167 9 0 = (σ 9 0) from ((jkp 0 eσ167 (by decide)).trans (f145 0 (by decide)))))
          refine jcallV (As := []) (rest := []) ⟨hx, hb, hml, hown, hts⟩ hK hP hA hS hZ (c_X7_sign_9 l D cI cL ad zz hJ σ167 τ I170) cw_RX7_35 (jc_9 cI cL ad σ167 τ) rfl ⟨Nat.le_of_ble_eq_true rfl, Nat.le_of_ble_eq_true rfl⟩ rfl rfl rfl hl.1 rfl (Nat.le_of_ble_eq_true rfl) dX7_number_28 ⟨Nat.zero_le _, Nat.zero_le _⟩ (fun r174 σ173 τ173 H locs h173 hP hS => ?_)
          obtain ⟨⟨rfl, rfl⟩, h173⟩ := h173
          rcases h173 with h175 | h176
          · obtain ⟨q179, k177, k178⟩ := h175
            exact absurd (by omega : False) id
          · obtain ⟨q181, k180⟩ := h176
            have q181 := q181.symm
            subst q181
            refine jcallS (As := [.int (-1)]) (rest := []) ⟨hx, hb, hml, hown, hts⟩ hK hP hA hS hZ (c_X7_isDigit l D cI cL ad zz hJ σ167 τ (-1) ((-1)) jz_m1) cw_RX7_39 ⟨Nat.le_of_ble_eq_true rfl, Nat.le_of_ble_eq_true rfl⟩ rfl rfl rfl hl.1 rfl (Nat.le_of_ble_eq_true rfl) dX7_number_31 ⟨Nat.zero_le _, Nat.zero_le _⟩ (fun r183 σ182 τ182 H locs h182 hP hS => ?_)
            obtain ⟨⟨rfl, rfl⟩, h182⟩ := h182
            rcases h182 with h184 | h185
            · obtain ⟨q187, k186⟩ := h184
              exact absurd (by omega : False) id
            · obtain ⟨q189, k188⟩ := h185
              have q189 := q189.symm
              subst q189
              refine lv_if_eq (tgt := 68) hx hb dX7_number_34 (by decide) (fun _ => ?_) (fun c => absurd (by decide) c)
              refine lv_iload_n hx hb dX7_number_68 rfl (lv_at hl 1 rfl) ?_
              have I190 : jI91 σ167 := ⟨(by omega), (by omega)⟩
              have z191 : (σ167 9 2).toInt = (σ142 9 2).toInt := (congrArg Int32.toInt (show σ167 9 2 = (σ142 9 2) from (jkp 2 eσ167 (by decide))))
              have I192 : jI92 σ167 := (show (-1) ≤ (σ167 9 2).toInt by omega)
              exact hret x169 σ167 τ _ _ _ _ rfl ⟨rfl, (fun i hi => ((jnp i eσ167 (imp_39 i hi)).trans (f144 i hi))), (fun i hi => ((jkp i eσ167 (imp_41 i hi)).trans (f145 i (imp_45 i hi)))), I170, I190, I192, (by omega), ⟨trivial, (by have h9 := tx169; omega)⟩⟩ hP hS dX7_number_69
        · obtain ⟨q194, k193⟩ := h161
          have q194 := q194.symm
          subst q194
          refine lv_if_eq (tgt := 68) hx hb dX7_number_34 (by decide) (fun _ => ?_) (fun c => absurd (by decide) c)
          refine lv_iload_n hx hb dX7_number_68 rfl (lv_at hl 1 rfl) ?_
          have I195 : jI91 σ142 := jI91_fr (f145 0 (by decide)) (f145 1 (by decide)) hI91
          have I196 : jI92 σ142 := (show (-1) ≤ (σ142 9 2).toInt by omega)
          exact hret 0 σ142 τ _ _ _ _ rfl ⟨rfl, (fun i hi => (f144 i hi)), (fun i hi => (f145 i (imp_45 i hi))), I147, I195, I196, (by omega), ⟨trivial, (by have h9 := jz_0; omega)⟩⟩ hP hS dX7_number_69
      · obtain ⟨q198, k197⟩ := h153
        have q198 := q198.symm
        subst q198
        refine jcallS (As := [.int (-1)]) (rest := []) ⟨hx, hb, hml, hown, hts⟩ hK hP hA hS hZ (c_X7_isDigit l D cI cL ad zz hJ σ142 τ (-1) ((-1)) jz_m1) cw_RX7_39 ⟨Nat.le_of_ble_eq_true rfl, Nat.le_of_ble_eq_true rfl⟩ rfl rfl rfl hl.1 rfl (Nat.le_of_ble_eq_true rfl) dX7_number_31 ⟨Nat.zero_le _, Nat.zero_le _⟩ (fun r200 σ199 τ199 H locs h199 hP hS => ?_)
        obtain ⟨⟨rfl, rfl⟩, h199⟩ := h199
        rcases h199 with h201 | h202
        · obtain ⟨q204, k203⟩ := h201
          exact absurd (by omega : False) id
        · obtain ⟨q206, k205⟩ := h202
          have q206 := q206.symm
          subst q206
          refine lv_if_eq (tgt := 68) hx hb dX7_number_34 (by decide) (fun _ => ?_) (fun c => absurd (by decide) c)
          refine lv_iload_n hx hb dX7_number_68 rfl (lv_at hl 1 rfl) ?_
          have I207 : jI91 σ142 := jI91_fr (f145 0 (by decide)) (f145 1 (by decide)) hI91
          have I208 : jI92 σ142 := (show (-1) ≤ (σ142 9 2).toInt by omega)
          exact hret 0 σ142 τ _ _ _ _ rfl ⟨rfl, (fun i hi => (f144 i hi)), (fun i hi => (f145 i (imp_45 i hi))), I147, I207, I208, (by omega), ⟨trivial, (by have h9 := jz_0; omega)⟩⟩ hP hS dX7_number_69
set_option maxHeartbeats 4000000 in
set_option maxRecDepth 100000 in
theorem c_X7_number_3 (l : Launch) (D : va_G) (cI cL : ClassId) (ad zz : Nat → Nat) (hJ : jD ad) (σ : Nat → Nat → Int32) (τ : Nat → Nat → Int64) (hI9 : jI9 σ) (hI91 : jI91 σ) (hI92 : jI92 σ) : jM l yX7_number cX7_number 4 (some .int) ({ frames := 1, cells := 0, slots := 0, locals := 21 }) D cI cL ad zz [.ref (ad 9), .int 3] σ τ (fun r σ' τ' => τ = τ' ∧ (∀ i : Nat, (i < 9 ∨ 9 < i) → σ' i = σ i) ∧ (∀ k : Nat, (k < 1 ∨ 1 < k) ∧ (k < 2 ∨ 2 < k) → σ' 9 k = σ 9 k) ∧ (jI9 σ') ∧ (jI91 σ') ∧ (jI92 σ') ∧ ((0 ≤ (σ 9 2).toInt ∧ 0 ≤ (σ' 9 2).toInt) ∨ ((σ 9 2).toInt = (-1))) ∧ ((True ∧ (0 ≤ r.toInt ∧ r.toInt ≤ 999)))) := by
  refine jM.of hJ (by decide +kernel) (nt := .int) rfl (Nat.le_of_ble_eq_true rfl) ?_
  intro p e s m args below meth c Q ls hC hret hl hP
  obtain ⟨hx, hb, hr, hml, hown, hts, hK, -, hlocks, hZ⟩ := hC
  have hown : s.vm.findClass RX7 = some m.cls := hown
  have hS : va_S (jA ad) s.heap s.heap [] := va_S.rf
  have hA : ∀ q, jA ad q → jA ad q := fun _ h => h
  have hl : lv_has ls 4 [(0, .ref (ad 9)), (1, .int 3)] := hl
  obtain ⟨i1, w2, w3⟩ : (0 ≤ (σ 9 0).toInt ∧ (σ 9 0).toInt ≤ 80) ∧ (∀ k : Nat, k < 80 → 0 ≤ (σ 10 k).toInt ∧ (σ 10 k).toInt ≤ 255) ∧ (∀ k : Nat, k < 8 → 0 ≤ (σ 11 k).toInt ∧ (σ 11 k).toInt ≤ 3) := id hI9
  obtain ⟨i4, i5⟩ : (0 ≤ (σ 9 1).toInt) ∧ ((σ 9 1).toInt ≤ (σ 9 0).toInt) := id hI91
  have i6 : (-1) ≤ (σ 9 2).toInt := hI92
  refine lv_aload_n hx hb dX7_number_0 rfl (lv_at hl 0 rfl) ?_
  refine jcallV (As := []) (rest := []) ⟨hx, hb, hml, hown, hts⟩ hK hP hA hS hZ (c_X7_sign_9 l D cI cL ad zz hJ σ τ hI9) cw_RX7_35 (jc_9 cI cL ad σ τ) rfl ⟨Nat.le_of_ble_eq_true rfl, Nat.le_of_ble_eq_true rfl⟩ rfl rfl rfl hl.1 rfl (Nat.le_of_ble_eq_true rfl) dX7_number_1 ⟨Nat.zero_le _, Nat.zero_le _⟩ (fun r8 σ7 τ7 H locs h7 hP hS => ?_)
  obtain ⟨⟨rfl, rfl⟩, h7⟩ := h7
  rcases h7 with h9 | h10
  · obtain ⟨q13, k11, k12⟩ := h9
    have q14 : r8 = (σ 10 (σ 9 1).toNatClampNeg) := q13.trans rfl
    have q14 := q14.symm
    subst q14
    refine jcallS (As := [.int (σ 10 (σ 9 1).toNatClampNeg)]) (rest := []) ⟨hx, hb, hml, hown, hts⟩ hK hP hA hS hZ (c_X7_isDigit l D cI cL ad zz hJ σ τ (σ 10 (σ 9 1).toNatClampNeg) ((σ 10 (σ 9 1).toNatClampNeg).toInt) rfl) cw_RX7_39 ⟨Nat.le_of_ble_eq_true rfl, Nat.le_of_ble_eq_true rfl⟩ rfl rfl rfl hl.1 rfl (Nat.le_of_ble_eq_true rfl) dX7_number_4 ⟨Nat.zero_le _, Nat.zero_le _⟩ (fun r16 σ15 τ15 H locs h15 hP hS => ?_)
    obtain ⟨⟨rfl, rfl⟩, h15⟩ := h15
    rcases h15 with h17 | h18
    · obtain ⟨q20, k19⟩ := h17
      have q20 := q20.symm
      subst q20
      refine lv_if_ne (tgt := 18) hx hb dX7_number_7 (by decide) (fun _ => ?_) (fun c => absurd c (by decide))
      refine lv_iconst (v := 0) hx hb dX7_number_18 (by decide) ?_
      refine lv_istore_n (lv' := [(2, .int 0), (0, .ref (ad 9)), (1, .int 3)]) hx hb dX7_number_19 rfl hl (by decide) rfl (fun ls hl => ?_)
      refine lv_iconst (v := 0) hx hb dX7_number_20 (by decide) ?_
      refine lv_istore_n (lv' := [(3, .int 0), (2, .int 0), (0, .ref (ad 9)), (1, .int 3)]) hx hb dX7_number_21 rfl hl (by decide) rfl (fun ls hl => ?_)
      refine lv_iload_n hx hb dX7_number_22 rfl (lv_at hl 0 rfl) ?_
      refine lv_iload_n hx hb dX7_number_23 rfl (lv_at hl 3 rfl) ?_
      refine lv_icmp_ge (tgt := 68) hx hb dX7_number_24 (by decide) (fun c => absurd c (by decide)) (fun _ => ?_)
      refine lv_aload_n hx hb dX7_number_27 rfl (lv_at hl 2 rfl) ?_
      refine jcallV (As := []) (rest := []) ⟨hx, hb, hml, hown, hts⟩ hK hP hA hS hZ (c_X7_sign_9 l D cI cL ad zz hJ σ τ hI9) cw_RX7_35 (jc_9 cI cL ad σ τ) rfl ⟨Nat.le_of_ble_eq_true rfl, Nat.le_of_ble_eq_true rfl⟩ rfl rfl rfl hl.1 rfl (Nat.le_of_ble_eq_true rfl) dX7_number_28 ⟨Nat.zero_le _, Nat.zero_le _⟩ (fun r22 σ21 τ21 H locs h21 hP hS => ?_)
      obtain ⟨⟨rfl, rfl⟩, h21⟩ := h21
      rcases h21 with h23 | h24
      · obtain ⟨q27, k25, k26⟩ := h23
        have q28 : r22 = (σ 10 (σ 9 1).toNatClampNeg) := q27.trans rfl
        have q28 := q28.symm
        subst q28
        refine jcallS (As := [.int (σ 10 (σ 9 1).toNatClampNeg)]) (rest := []) ⟨hx, hb, hml, hown, hts⟩ hK hP hA hS hZ (c_X7_isDigit l D cI cL ad zz hJ σ τ (σ 10 (σ 9 1).toNatClampNeg) ((σ 10 (σ 9 1).toNatClampNeg).toInt) rfl) cw_RX7_39 ⟨Nat.le_of_ble_eq_true rfl, Nat.le_of_ble_eq_true rfl⟩ rfl rfl rfl hl.1 rfl (Nat.le_of_ble_eq_true rfl) dX7_number_31 ⟨Nat.zero_le _, Nat.zero_le _⟩ (fun r30 σ29 τ29 H locs h29 hP hS => ?_)
        obtain ⟨⟨rfl, rfl⟩, h29⟩ := h29
        rcases h29 with h31 | h32
        · obtain ⟨q34, k33⟩ := h31
          have q34 := q34.symm
          subst q34
          refine lv_if_eq (tgt := 68) hx hb dX7_number_34 (by decide) (fun c => absurd c (by decide)) (fun _ => ?_)
          refine lv_iload_n hx hb dX7_number_37 rfl (lv_at hl 1 rfl) ?_
          refine lv_bipush (v := 10) hx hb dX7_number_38 (by decide) ?_
          refine lv_imul hx hb dX7_number_40 ?_
          refine jtopr (y := 0) (by decide) ?_
          refine lv_aload_n hx hb dX7_number_41 rfl (lv_at hl 2 rfl) ?_
          refine va_get (D := D) hx hb hts inlX7 hown hK hP 9 (jc_9 cI cL ad σ τ) rfl 3 (by decide) (hts _ kw_3_20) (fun _ h9 => h9) rfl dX7_number_42 ?_
          refine lv_aload_n hx hb dX7_number_45 rfl (lv_at hl 2 rfl) ?_
          refine lv_dup hx hb dX7_number_46 rfl ?_
          refine va_get (D := D) hx hb hts inlX7 hown hK hP 9 (jc_9 cI cL ad σ τ) rfl 1 (by decide) (hts _ kw_13_17) (fun _ h9 => h9) rfl dX7_number_47 ?_
          refine lv_dup_x1 hx hb dX7_number_50 rfl rfl ?_
          refine lv_iconst (v := 1) hx hb dX7_number_51 (by decide) ?_
          have g35 := jrg (rfl : (σ 9 1).toInt = (σ 9 1).toInt)
          refine lv_iadd hx hb dX7_number_52 ?_
          refine lv_topi (fun x36 ex36 => ?_)
          have tx36 : x36.toInt = (σ 9 1).toInt + 1 := (jadd ex36 rfl jz_1 (by omega) (by omega)).trans (by omega)
          refine jput (ty := .int) hx hb hts inlX7 tyX7 tyX7_ok nmX7 hown hK hP hJ hA hS (jc_9 cI cL ad σ τ) rfl (k := 1) (by decide) (Nat.le_of_ble_eq_true rfl) (jp_9_1 cI cL ad σ τ x36) (hts _ kw_13_17) (fun _ h9 => h9) rfl (by decide +kernel) rfl rfl dX7_number_53 (fun σ37 H locs eσ37 hP hS => ?_)
          refine jald hx hb hK hP (jc_10 cI cL ad σ37 τ) (jin rfl (by omega) (by omega)) dX7_number_56 ?_
          refine jtopr (y := (σ 10 (σ 9 1).toNatClampNeg)) (by rw [jnp 10 eσ37 (by decide)]) ?_
          refine lv_iadd hx hb dX7_number_57 ?_
          refine jtopr (y := (σ 10 (σ 9 1).toNatClampNeg)) (by rw [Int32.zero_add]) ?_
          refine lv_bipush (v := 48) hx hb dX7_number_58 (by decide) ?_
          have g38 := jrg (rfl : (σ 10 (σ 9 1).toNatClampNeg).toInt = (σ 10 (σ 9 1).toNatClampNeg).toInt)
          refine lv_isub hx hb dX7_number_60 ?_
          refine lv_topi (fun x39 ex39 => ?_)
          have tx39 : x39.toInt = (σ 10 (σ 9 1).toNatClampNeg).toInt - 48 := (jsub ex39 rfl jz_48 (by omega) (by omega)).trans (by omega)
          refine lv_istore_n (lv' := [(2, .int x39), (3, .int 0), (0, .ref (ad 9)), (1, .int 3)]) hx hb dX7_number_61 rfl hl (by decide) rfl (fun ls hl => ?_)
          refine lv_iinc (v := 1) (lv' := [(3, .int 1), (2, .int x39), (0, .ref (ad 9)), (1, .int 3)]) hx hb dX7_number_62 hl (k := 1) rfl (by decide) (by decide) rfl (fun ls hl => ?_)
          refine lv_goto (tgt := 22) hx hb dX7_number_65 (by decide) ?_
          refine lv_iload_n hx hb dX7_number_22 rfl (lv_at hl 0 rfl) ?_
          refine lv_iload_n hx hb dX7_number_23 rfl (lv_at hl 3 rfl) ?_
          refine lv_icmp_ge (tgt := 68) hx hb dX7_number_24 (by decide) (fun c => absurd c (by decide)) (fun _ => ?_)
          refine lv_aload_n hx hb dX7_number_27 rfl (lv_at hl 2 rfl) ?_
          have I40 : jI9 σ37 := jI9_fr (jkp 0 eσ37 (by decide)) (jnp 10 eσ37 (by decide)) (jnp 11 eσ37 (by decide)) hI9
          have z41 : (σ37 9 1).toInt = (σ 9 1).toInt + 1 := ((congrArg Int32.toInt (show σ37 9 1 = x36 from (jsp eσ37))).trans tx36)
          have z42 : (σ37 9 0).toInt = (σ 9 0).toInt := (congrArg Int32.toInt (show σ37 9 0 = (σ 9 0) from (jkp 0 eσ37 (by decide))))
          refine jcallV (As := []) (rest := []) ⟨hx, hb, hml, hown, hts⟩ hK hP hA hS hZ (c_X7_sign_9 l D cI cL ad zz hJ σ37 τ I40) cw_RX7_35 (jc_9 cI cL ad σ37 τ) rfl ⟨Nat.le_of_ble_eq_true rfl, Nat.le_of_ble_eq_true rfl⟩ rfl rfl rfl hl.1 rfl (Nat.le_of_ble_eq_true rfl) dX7_number_28 ⟨Nat.zero_le _, Nat.zero_le _⟩ (fun r44 σ43 τ43 H locs h43 hP hS => ?_)
          obtain ⟨⟨rfl, rfl⟩, h43⟩ := h43
          rcases h43 with h45 | h46
          · obtain ⟨q49, k47, k48⟩ := h45
            have q50 : r44 = (σ 10 x36.toNatClampNeg) := q49.trans (by rw [(show σ37 9 1 = x36 from (jsp eσ37)), jnp 10 eσ37 (by decide)])
            have q50e : (σ37 10 (σ37 9 1).toNatClampNeg).toInt = (σ 10 x36.toNatClampNeg).toInt := by rw [← q49, ← q50]
            have q50 := q50.symm
            subst q50
            refine jcallS (As := [.int (σ 10 x36.toNatClampNeg)]) (rest := []) ⟨hx, hb, hml, hown, hts⟩ hK hP hA hS hZ (c_X7_isDigit l D cI cL ad zz hJ σ37 τ (σ 10 x36.toNatClampNeg) ((σ 10 x36.toNatClampNeg).toInt) rfl) cw_RX7_39 ⟨Nat.le_of_ble_eq_true rfl, Nat.le_of_ble_eq_true rfl⟩ rfl rfl rfl hl.1 rfl (Nat.le_of_ble_eq_true rfl) dX7_number_31 ⟨Nat.zero_le _, Nat.zero_le _⟩ (fun r52 σ51 τ51 H locs h51 hP hS => ?_)
            obtain ⟨⟨rfl, rfl⟩, h51⟩ := h51
            rcases h51 with h53 | h54
            · obtain ⟨q56, k55⟩ := h53
              have q56 := q56.symm
              subst q56
              refine lv_if_eq (tgt := 68) hx hb dX7_number_34 (by decide) (fun c => absurd c (by decide)) (fun _ => ?_)
              refine lv_iload_n hx hb dX7_number_37 rfl (lv_at hl 1 rfl) ?_
              refine lv_bipush (v := 10) hx hb dX7_number_38 (by decide) ?_
              refine lv_imul hx hb dX7_number_40 ?_
              refine lv_topi (fun x57 ex57 => ?_)
              have tx57 : x57.toInt = 10 * (σ 10 (σ 9 1).toNatClampNeg).toInt - 480 := (jmul ex57 tx39 jz_10 (by omega) (by omega)).trans (by omega)
              refine lv_aload_n hx hb dX7_number_41 rfl (lv_at hl 2 rfl) ?_
              refine va_get (D := D) hx hb hts inlX7 hown hK hP 9 (jc_9 cI cL ad σ37 τ) rfl 3 (by decide) (hts _ kw_3_20) (fun _ h9 => h9) rfl dX7_number_42 ?_
              refine lv_aload_n hx hb dX7_number_45 rfl (lv_at hl 2 rfl) ?_
              refine lv_dup hx hb dX7_number_46 rfl ?_
              refine va_get (D := D) hx hb hts inlX7 hown hK hP 9 (jc_9 cI cL ad σ37 τ) rfl 1 (by decide) (hts _ kw_13_17) (fun _ h9 => h9) rfl dX7_number_47 ?_
              have m58 : σ37 9 1 = x36 := (jsp eσ37)
              refine jtopr m58 ?_
              refine lv_dup_x1 hx hb dX7_number_50 rfl rfl ?_
              refine lv_iconst (v := 1) hx hb dX7_number_51 (by decide) ?_
              refine lv_iadd hx hb dX7_number_52 ?_
              refine lv_topi (fun x59 ex59 => ?_)
              have tx59 : x59.toInt = (σ 9 1).toInt + 2 := (jadd ex59 tx36 jz_1 (by omega) (by omega)).trans (by omega)
              refine jput (ty := .int) hx hb hts inlX7 tyX7 tyX7_ok nmX7 hown hK hP hJ hA hS (jc_9 cI cL ad σ37 τ) rfl (k := 1) (by decide) (Nat.le_of_ble_eq_true rfl) (jp_9_1 cI cL ad σ37 τ x59) (hts _ kw_13_17) (fun _ h9 => h9) rfl (by decide +kernel) rfl rfl dX7_number_53 (fun σ60 H locs eσ60 hP hS => ?_)
              refine jald hx hb hK hP (jc_10 cI cL ad σ60 τ) (jin tx36 (by omega) (by omega)) dX7_number_56 ?_
              refine jtopr (y := (σ 10 x36.toNatClampNeg)) (by rw [jnp 10 eσ60 (by decide), jnp 10 eσ37 (by decide)]) ?_
              have g61 := jrg (rfl : (σ 10 x36.toNatClampNeg).toInt = (σ 10 x36.toNatClampNeg).toInt)
              refine lv_iadd hx hb dX7_number_57 ?_
              refine lv_topi (fun x62 ex62 => ?_)
              have tx62 : x62.toInt = 10 * (σ 10 (σ 9 1).toNatClampNeg).toInt + (σ 10 x36.toNatClampNeg).toInt - 480 := (jadd ex62 tx57 rfl (by omega) (by omega)).trans (by omega)
              refine lv_bipush (v := 48) hx hb dX7_number_58 (by decide) ?_
              refine lv_isub hx hb dX7_number_60 ?_
              refine lv_topi (fun x63 ex63 => ?_)
              have tx63 : x63.toInt = 10 * (σ 10 (σ 9 1).toNatClampNeg).toInt + (σ 10 x36.toNatClampNeg).toInt - 528 := (jsub ex63 tx62 jz_48 (by omega) (by omega)).trans (by omega)
              refine lv_istore_n (lv' := [(2, .int x63), (3, .int 1), (0, .ref (ad 9)), (1, .int 3)]) hx hb dX7_number_61 rfl hl (by decide) rfl (fun ls hl => ?_)
              refine lv_iinc (v := 2) (lv' := [(3, .int 2), (2, .int x63), (0, .ref (ad 9)), (1, .int 3)]) hx hb dX7_number_62 hl (k := 1) rfl (by decide) (by decide) rfl (fun ls hl => ?_)
              refine lv_goto (tgt := 22) hx hb dX7_number_65 (by decide) ?_
              refine lv_iload_n hx hb dX7_number_22 rfl (lv_at hl 0 rfl) ?_
              refine lv_iload_n hx hb dX7_number_23 rfl (lv_at hl 3 rfl) ?_
              refine lv_icmp_ge (tgt := 68) hx hb dX7_number_24 (by decide) (fun c => absurd c (by decide)) (fun _ => ?_)
              refine lv_aload_n hx hb dX7_number_27 rfl (lv_at hl 2 rfl) ?_
              have I64 : jI9 σ60 := jI9_fr (jkp 0 eσ60 (by decide)) (jnp 10 eσ60 (by decide)) (jnp 11 eσ60 (by decide)) I40
              have z65 : (σ60 9 1).toInt = (σ 9 1).toInt + 2 := ((congrArg Int32.toInt (show σ60 9 1 = x59 from (jsp eσ60))).trans tx59)
              have z66 : (σ60 9 0).toInt = (σ 9 0).toInt := (congrArg Int32.toInt (show σ60 9 0 = (σ 9 0) from ((jkp 0 eσ60 (by decide)).trans (jkp 0 eσ37 (by decide)))))
              refine jcallV (As := []) (rest := []) ⟨hx, hb, hml, hown, hts⟩ hK hP hA hS hZ (c_X7_sign_9 l D cI cL ad zz hJ σ60 τ I64) cw_RX7_35 (jc_9 cI cL ad σ60 τ) rfl ⟨Nat.le_of_ble_eq_true rfl, Nat.le_of_ble_eq_true rfl⟩ rfl rfl rfl hl.1 rfl (Nat.le_of_ble_eq_true rfl) dX7_number_28 ⟨Nat.zero_le _, Nat.zero_le _⟩ (fun r68 σ67 τ67 H locs h67 hP hS => ?_)
              obtain ⟨⟨rfl, rfl⟩, h67⟩ := h67
              rcases h67 with h69 | h70
              · obtain ⟨q73, k71, k72⟩ := h69
                have q74 : r68 = (σ 10 x59.toNatClampNeg) := q73.trans (by rw [(show σ60 9 1 = x59 from (jsp eσ60)), jnp 10 eσ60 (by decide), jnp 10 eσ37 (by decide)])
                have q74e : (σ60 10 (σ60 9 1).toNatClampNeg).toInt = (σ 10 x59.toNatClampNeg).toInt := by rw [← q73, ← q74]
                have q74 := q74.symm
                subst q74
                refine jcallS (As := [.int (σ 10 x59.toNatClampNeg)]) (rest := []) ⟨hx, hb, hml, hown, hts⟩ hK hP hA hS hZ (c_X7_isDigit l D cI cL ad zz hJ σ60 τ (σ 10 x59.toNatClampNeg) ((σ 10 x59.toNatClampNeg).toInt) rfl) cw_RX7_39 ⟨Nat.le_of_ble_eq_true rfl, Nat.le_of_ble_eq_true rfl⟩ rfl rfl rfl hl.1 rfl (Nat.le_of_ble_eq_true rfl) dX7_number_31 ⟨Nat.zero_le _, Nat.zero_le _⟩ (fun r76 σ75 τ75 H locs h75 hP hS => ?_)
                obtain ⟨⟨rfl, rfl⟩, h75⟩ := h75
                rcases h75 with h77 | h78
                · obtain ⟨q80, k79⟩ := h77
                  have q80 := q80.symm
                  subst q80
                  refine lv_if_eq (tgt := 68) hx hb dX7_number_34 (by decide) (fun c => absurd c (by decide)) (fun _ => ?_)
                  refine lv_iload_n hx hb dX7_number_37 rfl (lv_at hl 1 rfl) ?_
                  refine lv_bipush (v := 10) hx hb dX7_number_38 (by decide) ?_
                  refine lv_imul hx hb dX7_number_40 ?_
                  refine lv_topi (fun x81 ex81 => ?_)
                  have tx81 : x81.toInt = 100 * (σ 10 (σ 9 1).toNatClampNeg).toInt + 10 * (σ 10 x36.toNatClampNeg).toInt - 5280 := (jmul ex81 tx63 jz_10 (by omega) (by omega)).trans (by omega)
                  refine lv_aload_n hx hb dX7_number_41 rfl (lv_at hl 2 rfl) ?_
                  refine va_get (D := D) hx hb hts inlX7 hown hK hP 9 (jc_9 cI cL ad σ60 τ) rfl 3 (by decide) (hts _ kw_3_20) (fun _ h9 => h9) rfl dX7_number_42 ?_
                  refine lv_aload_n hx hb dX7_number_45 rfl (lv_at hl 2 rfl) ?_
                  refine lv_dup hx hb dX7_number_46 rfl ?_
                  refine va_get (D := D) hx hb hts inlX7 hown hK hP 9 (jc_9 cI cL ad σ60 τ) rfl 1 (by decide) (hts _ kw_13_17) (fun _ h9 => h9) rfl dX7_number_47 ?_
                  have m82 : σ60 9 1 = x59 := (jsp eσ60)
                  refine jtopr m82 ?_
                  refine lv_dup_x1 hx hb dX7_number_50 rfl rfl ?_
                  refine lv_iconst (v := 1) hx hb dX7_number_51 (by decide) ?_
                  refine lv_iadd hx hb dX7_number_52 ?_
                  refine lv_topi (fun x83 ex83 => ?_)
                  have tx83 : x83.toInt = (σ 9 1).toInt + 3 := (jadd ex83 tx59 jz_1 (by omega) (by omega)).trans (by omega)
                  refine jput (ty := .int) hx hb hts inlX7 tyX7 tyX7_ok nmX7 hown hK hP hJ hA hS (jc_9 cI cL ad σ60 τ) rfl (k := 1) (by decide) (Nat.le_of_ble_eq_true rfl) (jp_9_1 cI cL ad σ60 τ x83) (hts _ kw_13_17) (fun _ h9 => h9) rfl (by decide +kernel) rfl rfl dX7_number_53 (fun σ84 H locs eσ84 hP hS => ?_)
                  refine jald hx hb hK hP (jc_10 cI cL ad σ84 τ) (jin tx59 (by omega) (by omega)) dX7_number_56 ?_
                  refine jtopr (y := (σ 10 x59.toNatClampNeg)) (by rw [jnp 10 eσ84 (by decide), jnp 10 eσ60 (by decide), jnp 10 eσ37 (by decide)]) ?_
                  have g85 := jrg (rfl : (σ 10 x59.toNatClampNeg).toInt = (σ 10 x59.toNatClampNeg).toInt)
                  refine lv_iadd hx hb dX7_number_57 ?_
                  refine lv_topi (fun x86 ex86 => ?_)
                  have tx86 : x86.toInt = 100 * (σ 10 (σ 9 1).toNatClampNeg).toInt + 10 * (σ 10 x36.toNatClampNeg).toInt + (σ 10 x59.toNatClampNeg).toInt - 5280 := (jadd ex86 tx81 rfl (by omega) (by omega)).trans (by omega)
                  refine lv_bipush (v := 48) hx hb dX7_number_58 (by decide) ?_
                  refine lv_isub hx hb dX7_number_60 ?_
                  refine lv_topi (fun x87 ex87 => ?_)
                  have tx87 : x87.toInt = 100 * (σ 10 (σ 9 1).toNatClampNeg).toInt + 10 * (σ 10 x36.toNatClampNeg).toInt + (σ 10 x59.toNatClampNeg).toInt - 5328 := (jsub ex87 tx86 jz_48 (by omega) (by omega)).trans (by omega)
                  refine lv_istore_n (lv' := [(2, .int x87), (3, .int 2), (0, .ref (ad 9)), (1, .int 3)]) hx hb dX7_number_61 rfl hl (by decide) rfl (fun ls hl => ?_)
                  refine lv_iinc (v := 3) (lv' := [(3, .int 3), (2, .int x87), (0, .ref (ad 9)), (1, .int 3)]) hx hb dX7_number_62 hl (k := 1) rfl (by decide) (by decide) rfl (fun ls hl => ?_)
                  refine lv_goto (tgt := 22) hx hb dX7_number_65 (by decide) ?_
                  refine lv_iload_n hx hb dX7_number_22 rfl (lv_at hl 0 rfl) ?_
                  refine lv_iload_n hx hb dX7_number_23 rfl (lv_at hl 3 rfl) ?_
                  refine lv_icmp_ge (tgt := 68) hx hb dX7_number_24 (by decide) (fun _ => ?_) (fun c => absurd (by decide) c)
                  refine lv_iload_n hx hb dX7_number_68 rfl (lv_at hl 1 rfl) ?_
                  have I88 : jI9 σ84 := jI9_fr (jkp 0 eσ84 (by decide)) (jnp 10 eσ84 (by decide)) (jnp 11 eσ84 (by decide)) I64
                  have z89 : (σ84 9 1).toInt = (σ 9 1).toInt + 3 := ((congrArg Int32.toInt (show σ84 9 1 = x83 from (jsp eσ84))).trans tx83)
                  have z90 : (σ84 9 0).toInt = (σ 9 0).toInt := (congrArg Int32.toInt (show σ84 9 0 = (σ 9 0) from ((jkp 0 eσ84 (by decide)).trans ((jkp 0 eσ60 (by decide)).trans (jkp 0 eσ37 (by decide))))))
                  have I91 : jI91 σ84 := ⟨(by omega), (by omega)⟩
                  have I92 : jI92 σ84 := jI92_fr ((jkp 2 eσ84 (by decide)).trans ((jkp 2 eσ60 (by decide)).trans (jkp 2 eσ37 (by decide)))) hI92
                  have z93 : (σ84 9 2).toInt = (σ 9 2).toInt := (congrArg Int32.toInt (show σ84 9 2 = (σ 9 2) from ((jkp 2 eσ84 (by decide)).trans ((jkp 2 eσ60 (by decide)).trans (jkp 2 eσ37 (by decide))))))
                  exact hret x87 σ84 τ _ _ _ _ rfl ⟨rfl, (fun i hi => ((jnp i eσ84 (imp_39 i hi)).trans ((jnp i eσ60 (imp_39 i hi)).trans (jnp i eσ37 (imp_39 i hi))))), (fun i hi => ((jkp i eσ84 (imp_41 i hi)).trans ((jkp i eσ60 (imp_41 i hi)).trans (jkp i eσ37 (imp_41 i hi))))), I88, I91, I92, (by omega), ⟨trivial, (by have h9 := tx87; omega)⟩⟩ hP hS dX7_number_69
                · obtain ⟨q95, k94⟩ := h78
                  have q95 := q95.symm
                  subst q95
                  refine lv_if_eq (tgt := 68) hx hb dX7_number_34 (by decide) (fun _ => ?_) (fun c => absurd (by decide) c)
                  refine lv_iload_n hx hb dX7_number_68 rfl (lv_at hl 1 rfl) ?_
                  have I96 : jI91 σ60 := ⟨(by omega), (by omega)⟩
                  have I97 : jI92 σ60 := jI92_fr ((jkp 2 eσ60 (by decide)).trans (jkp 2 eσ37 (by decide))) hI92
                  have z98 : (σ60 9 2).toInt = (σ 9 2).toInt := (congrArg Int32.toInt (show σ60 9 2 = (σ 9 2) from ((jkp 2 eσ60 (by decide)).trans (jkp 2 eσ37 (by decide)))))
                  exact hret x63 σ60 τ _ _ _ _ rfl ⟨rfl, (fun i hi => ((jnp i eσ60 (imp_39 i hi)).trans (jnp i eσ37 (imp_39 i hi)))), (fun i hi => ((jkp i eσ60 (imp_41 i hi)).trans (jkp i eσ37 (imp_41 i hi)))), I64, I96, I97, (by omega), ⟨trivial, (by have h9 := tx63; omega)⟩⟩ hP hS dX7_number_69
              · obtain ⟨q100, k99⟩ := h70
                have q100 := q100.symm
                subst q100
                refine jcallS (As := [.int (-1)]) (rest := []) ⟨hx, hb, hml, hown, hts⟩ hK hP hA hS hZ (c_X7_isDigit l D cI cL ad zz hJ σ60 τ (-1) ((-1)) jz_m1) cw_RX7_39 ⟨Nat.le_of_ble_eq_true rfl, Nat.le_of_ble_eq_true rfl⟩ rfl rfl rfl hl.1 rfl (Nat.le_of_ble_eq_true rfl) dX7_number_31 ⟨Nat.zero_le _, Nat.zero_le _⟩ (fun r102 σ101 τ101 H locs h101 hP hS => ?_)
                obtain ⟨⟨rfl, rfl⟩, h101⟩ := h101
                rcases h101 with h103 | h104
                · obtain ⟨q106, k105⟩ := h103
                  exact absurd (by omega : False) id
                · obtain ⟨q108, k107⟩ := h104
                  have q108 := q108.symm
                  subst q108
                  refine lv_if_eq (tgt := 68) hx hb dX7_number_34 (by decide) (fun _ => ?_) (fun c => absurd (by decide) c)
                  refine lv_iload_n hx hb dX7_number_68 rfl (lv_at hl 1 rfl) ?_
                  have I109 : jI91 σ60 := ⟨(by omega), (by omega)⟩
                  have I110 : jI92 σ60 := jI92_fr ((jkp 2 eσ60 (by decide)).trans (jkp 2 eσ37 (by decide))) hI92
                  have z111 : (σ60 9 2).toInt = (σ 9 2).toInt := (congrArg Int32.toInt (show σ60 9 2 = (σ 9 2) from ((jkp 2 eσ60 (by decide)).trans (jkp 2 eσ37 (by decide)))))
                  exact hret x63 σ60 τ _ _ _ _ rfl ⟨rfl, (fun i hi => ((jnp i eσ60 (imp_39 i hi)).trans (jnp i eσ37 (imp_39 i hi)))), (fun i hi => ((jkp i eσ60 (imp_41 i hi)).trans (jkp i eσ37 (imp_41 i hi)))), I64, I109, I110, (by omega), ⟨trivial, (by have h9 := tx63; omega)⟩⟩ hP hS dX7_number_69
            · obtain ⟨q113, k112⟩ := h54
              have q113 := q113.symm
              subst q113
              refine lv_if_eq (tgt := 68) hx hb dX7_number_34 (by decide) (fun _ => ?_) (fun c => absurd (by decide) c)
              refine lv_iload_n hx hb dX7_number_68 rfl (lv_at hl 1 rfl) ?_
              have I114 : jI91 σ37 := ⟨(by omega), (by omega)⟩
              have I115 : jI92 σ37 := jI92_fr (jkp 2 eσ37 (by decide)) hI92
              have z116 : (σ37 9 2).toInt = (σ 9 2).toInt := (congrArg Int32.toInt (show σ37 9 2 = (σ 9 2) from (jkp 2 eσ37 (by decide))))
              exact hret x39 σ37 τ _ _ _ _ rfl ⟨rfl, (fun i hi => (jnp i eσ37 (imp_39 i hi))), (fun i hi => (jkp i eσ37 (imp_41 i hi))), I40, I114, I115, (by omega), ⟨trivial, (by have h9 := tx39; omega)⟩⟩ hP hS dX7_number_69
          · obtain ⟨q118, k117⟩ := h46
            have q118 := q118.symm
            subst q118
            refine jcallS (As := [.int (-1)]) (rest := []) ⟨hx, hb, hml, hown, hts⟩ hK hP hA hS hZ (c_X7_isDigit l D cI cL ad zz hJ σ37 τ (-1) ((-1)) jz_m1) cw_RX7_39 ⟨Nat.le_of_ble_eq_true rfl, Nat.le_of_ble_eq_true rfl⟩ rfl rfl rfl hl.1 rfl (Nat.le_of_ble_eq_true rfl) dX7_number_31 ⟨Nat.zero_le _, Nat.zero_le _⟩ (fun r120 σ119 τ119 H locs h119 hP hS => ?_)
            obtain ⟨⟨rfl, rfl⟩, h119⟩ := h119
            rcases h119 with h121 | h122
            · obtain ⟨q124, k123⟩ := h121
              exact absurd (by omega : False) id
            · obtain ⟨q126, k125⟩ := h122
              have q126 := q126.symm
              subst q126
              refine lv_if_eq (tgt := 68) hx hb dX7_number_34 (by decide) (fun _ => ?_) (fun c => absurd (by decide) c)
              refine lv_iload_n hx hb dX7_number_68 rfl (lv_at hl 1 rfl) ?_
              have I127 : jI91 σ37 := ⟨(by omega), (by omega)⟩
              have I128 : jI92 σ37 := jI92_fr (jkp 2 eσ37 (by decide)) hI92
              have z129 : (σ37 9 2).toInt = (σ 9 2).toInt := (congrArg Int32.toInt (show σ37 9 2 = (σ 9 2) from (jkp 2 eσ37 (by decide))))
              exact hret x39 σ37 τ _ _ _ _ rfl ⟨rfl, (fun i hi => (jnp i eσ37 (imp_39 i hi))), (fun i hi => (jkp i eσ37 (imp_41 i hi))), I40, I127, I128, (by omega), ⟨trivial, (by have h9 := tx39; omega)⟩⟩ hP hS dX7_number_69
        · obtain ⟨q131, k130⟩ := h32
          exact absurd (by omega : False) id
      · obtain ⟨q133, k132⟩ := h24
        exact absurd (by omega : False) id
    · obtain ⟨q135, k134⟩ := h18
      have q135 := q135.symm
      subst q135
      refine lv_if_ne (tgt := 18) hx hb dX7_number_7 (by decide) (fun c => absurd (by decide) c) (fun _ => ?_)
      refine lv_aload_n hx hb dX7_number_10 rfl (lv_at hl 0 rfl) ?_
      refine lv_aload_n hx hb dX7_number_11 rfl (lv_at hl 0 rfl) ?_
      refine va_get (D := D) hx hb hts inlX7 hown hK hP 9 (jc_9 cI cL ad σ τ) rfl 1 (by decide) (hts _ kw_13_17) (fun _ h9 => h9) rfl dX7_number_12 ?_
      refine jcallVv (As := [.int (σ 9 1)]) (rest := []) ⟨hx, hb, hml, hown, hts⟩ hK hP hA hS hZ (c_X7_fail_9 l D cI cL ad zz hJ σ τ (σ 9 1) ((σ 9 1).toInt) rfl hI92 (by omega)) cw_RX7_43 (jc_9 cI cL ad σ τ) rfl ⟨Nat.le_of_ble_eq_true rfl, Nat.le_of_ble_eq_true rfl⟩ rfl rfl rfl hl.1 rfl (Nat.le_of_ble_eq_true rfl) dX7_number_15 ⟨Nat.zero_le _, Nat.zero_le _⟩ (fun σ136 τ136 H locs h136 hP hS => ?_)
      obtain ⟨rfl, f138, f139, h136⟩ := h136
      obtain ⟨k140, h136⟩ := h136
      refine lv_iconst (v := 0) hx hb dX7_number_18 (by decide) ?_
      refine lv_istore_n (lv' := [(2, .int 0), (0, .ref (ad 9)), (1, .int 3)]) hx hb dX7_number_19 rfl hl (by decide) rfl (fun ls hl => ?_)
      refine lv_iconst (v := 0) hx hb dX7_number_20 (by decide) ?_
      refine lv_istore_n (lv' := [(3, .int 0), (2, .int 0), (0, .ref (ad 9)), (1, .int 3)]) hx hb dX7_number_21 rfl hl (by decide) rfl (fun ls hl => ?_)
      refine lv_iload_n hx hb dX7_number_22 rfl (lv_at hl 0 rfl) ?_
      refine lv_iload_n hx hb dX7_number_23 rfl (lv_at hl 3 rfl) ?_
      refine lv_icmp_ge (tgt := 68) hx hb dX7_number_24 (by decide) (fun c => absurd c (by decide)) (fun _ => ?_)
      refine lv_aload_n hx hb dX7_number_27 rfl (lv_at hl 2 rfl) ?_
      have I141 : jI9 σ136 := jI9_fr (f139 0 (by decide)) (f138 10 (by decide)) (f138 11 (by decide)) hI9
      have z142 : (σ136 9 1).toInt = (σ 9 1).toInt := (congrArg Int32.toInt (show σ136 9 1 = (σ 9 1) from (f139 1 (by decide))))
      have z143 : (σ136 9 0).toInt = (σ 9 0).toInt := (congrArg Int32.toInt (show σ136 9 0 = (σ 9 0) from (f139 0 (by decide))))
      refine jcallV (As := []) (rest := []) ⟨hx, hb, hml, hown, hts⟩ hK hP hA hS hZ (c_X7_sign_9 l D cI cL ad zz hJ σ136 τ I141) cw_RX7_35 (jc_9 cI cL ad σ136 τ) rfl ⟨Nat.le_of_ble_eq_true rfl, Nat.le_of_ble_eq_true rfl⟩ rfl rfl rfl hl.1 rfl (Nat.le_of_ble_eq_true rfl) dX7_number_28 ⟨Nat.zero_le _, Nat.zero_le _⟩ (fun r145 σ144 τ144 H locs h144 hP hS => ?_)
      obtain ⟨⟨rfl, rfl⟩, h144⟩ := h144
      rcases h144 with h146 | h147
      · obtain ⟨q150, k148, k149⟩ := h146
        have q151 : r145 = (σ 10 (σ 9 1).toNatClampNeg) := q150.trans (by rw [(show σ136 9 1 = (σ 9 1) from (f139 1 (by decide))), f138 10 (by decide)])
        have q151e : (σ136 10 (σ136 9 1).toNatClampNeg).toInt = (σ 10 (σ 9 1).toNatClampNeg).toInt := by rw [← q150, ← q151]
        have q151 := q151.symm
        subst q151
        refine jcallS (As := [.int (σ 10 (σ 9 1).toNatClampNeg)]) (rest := []) ⟨hx, hb, hml, hown, hts⟩ hK hP hA hS hZ (c_X7_isDigit l D cI cL ad zz hJ σ136 τ (σ 10 (σ 9 1).toNatClampNeg) ((σ 10 (σ 9 1).toNatClampNeg).toInt) rfl) cw_RX7_39 ⟨Nat.le_of_ble_eq_true rfl, Nat.le_of_ble_eq_true rfl⟩ rfl rfl rfl hl.1 rfl (Nat.le_of_ble_eq_true rfl) dX7_number_31 ⟨Nat.zero_le _, Nat.zero_le _⟩ (fun r153 σ152 τ152 H locs h152 hP hS => ?_)
        obtain ⟨⟨rfl, rfl⟩, h152⟩ := h152
        rcases h152 with h154 | h155
        · obtain ⟨q157, k156⟩ := h154
          exact absurd (by omega : False) id
        · obtain ⟨q159, k158⟩ := h155
          have q159 := q159.symm
          subst q159
          refine lv_if_eq (tgt := 68) hx hb dX7_number_34 (by decide) (fun _ => ?_) (fun c => absurd (by decide) c)
          refine lv_iload_n hx hb dX7_number_68 rfl (lv_at hl 1 rfl) ?_
          have I160 : jI91 σ136 := jI91_fr (f139 0 (by decide)) (f139 1 (by decide)) hI91
          have I161 : jI92 σ136 := (show (-1) ≤ (σ136 9 2).toInt by omega)
          exact hret 0 σ136 τ _ _ _ _ rfl ⟨rfl, (fun i hi => (f138 i hi)), (fun i hi => (f139 i (imp_45 i hi))), I141, I160, I161, (by omega), ⟨trivial, (by have h9 := jz_0; omega)⟩⟩ hP hS dX7_number_69
      · obtain ⟨q163, k162⟩ := h147
        have q163 := q163.symm
        subst q163
        refine jcallS (As := [.int (-1)]) (rest := []) ⟨hx, hb, hml, hown, hts⟩ hK hP hA hS hZ (c_X7_isDigit l D cI cL ad zz hJ σ136 τ (-1) ((-1)) jz_m1) cw_RX7_39 ⟨Nat.le_of_ble_eq_true rfl, Nat.le_of_ble_eq_true rfl⟩ rfl rfl rfl hl.1 rfl (Nat.le_of_ble_eq_true rfl) dX7_number_31 ⟨Nat.zero_le _, Nat.zero_le _⟩ (fun r165 σ164 τ164 H locs h164 hP hS => ?_)
        obtain ⟨⟨rfl, rfl⟩, h164⟩ := h164
        rcases h164 with h166 | h167
        · obtain ⟨q169, k168⟩ := h166
          exact absurd (by omega : False) id
        · obtain ⟨q171, k170⟩ := h167
          have q171 := q171.symm
          subst q171
          refine lv_if_eq (tgt := 68) hx hb dX7_number_34 (by decide) (fun _ => ?_) (fun c => absurd (by decide) c)
          refine lv_iload_n hx hb dX7_number_68 rfl (lv_at hl 1 rfl) ?_
          have I172 : jI91 σ136 := jI91_fr (f139 0 (by decide)) (f139 1 (by decide)) hI91
          have I173 : jI92 σ136 := (show (-1) ≤ (σ136 9 2).toInt by omega)
          exact hret 0 σ136 τ _ _ _ _ rfl ⟨rfl, (fun i hi => (f138 i hi)), (fun i hi => (f139 i (imp_45 i hi))), I141, I172, I173, (by omega), ⟨trivial, (by have h9 := jz_0; omega)⟩⟩ hP hS dX7_number_69
  · obtain ⟨q175, k174⟩ := h10
    have q175 := q175.symm
    subst q175
    refine jcallS (As := [.int (-1)]) (rest := []) ⟨hx, hb, hml, hown, hts⟩ hK hP hA hS hZ (c_X7_isDigit l D cI cL ad zz hJ σ τ (-1) ((-1)) jz_m1) cw_RX7_39 ⟨Nat.le_of_ble_eq_true rfl, Nat.le_of_ble_eq_true rfl⟩ rfl rfl rfl hl.1 rfl (Nat.le_of_ble_eq_true rfl) dX7_number_4 ⟨Nat.zero_le _, Nat.zero_le _⟩ (fun r177 σ176 τ176 H locs h176 hP hS => ?_)
    obtain ⟨⟨rfl, rfl⟩, h176⟩ := h176
    rcases h176 with h178 | h179
    · obtain ⟨q181, k180⟩ := h178
      exact absurd (by omega : False) id
    · obtain ⟨q183, k182⟩ := h179
      have q183 := q183.symm
      subst q183
      refine lv_if_ne (tgt := 18) hx hb dX7_number_7 (by decide) (fun c => absurd (by decide) c) (fun _ => ?_)
      refine lv_aload_n hx hb dX7_number_10 rfl (lv_at hl 0 rfl) ?_
      refine lv_aload_n hx hb dX7_number_11 rfl (lv_at hl 0 rfl) ?_
      refine va_get (D := D) hx hb hts inlX7 hown hK hP 9 (jc_9 cI cL ad σ τ) rfl 1 (by decide) (hts _ kw_13_17) (fun _ h9 => h9) rfl dX7_number_12 ?_
      refine jcallVv (As := [.int (σ 9 1)]) (rest := []) ⟨hx, hb, hml, hown, hts⟩ hK hP hA hS hZ (c_X7_fail_9 l D cI cL ad zz hJ σ τ (σ 9 1) ((σ 9 1).toInt) rfl hI92 (by omega)) cw_RX7_43 (jc_9 cI cL ad σ τ) rfl ⟨Nat.le_of_ble_eq_true rfl, Nat.le_of_ble_eq_true rfl⟩ rfl rfl rfl hl.1 rfl (Nat.le_of_ble_eq_true rfl) dX7_number_15 ⟨Nat.zero_le _, Nat.zero_le _⟩ (fun σ184 τ184 H locs h184 hP hS => ?_)
      obtain ⟨rfl, f186, f187, h184⟩ := h184
      obtain ⟨k188, h184⟩ := h184
      refine lv_iconst (v := 0) hx hb dX7_number_18 (by decide) ?_
      refine lv_istore_n (lv' := [(2, .int 0), (0, .ref (ad 9)), (1, .int 3)]) hx hb dX7_number_19 rfl hl (by decide) rfl (fun ls hl => ?_)
      refine lv_iconst (v := 0) hx hb dX7_number_20 (by decide) ?_
      refine lv_istore_n (lv' := [(3, .int 0), (2, .int 0), (0, .ref (ad 9)), (1, .int 3)]) hx hb dX7_number_21 rfl hl (by decide) rfl (fun ls hl => ?_)
      refine lv_iload_n hx hb dX7_number_22 rfl (lv_at hl 0 rfl) ?_
      refine lv_iload_n hx hb dX7_number_23 rfl (lv_at hl 3 rfl) ?_
      refine lv_icmp_ge (tgt := 68) hx hb dX7_number_24 (by decide) (fun c => absurd c (by decide)) (fun _ => ?_)
      refine lv_aload_n hx hb dX7_number_27 rfl (lv_at hl 2 rfl) ?_
      have I189 : jI9 σ184 := jI9_fr (f187 0 (by decide)) (f186 10 (by decide)) (f186 11 (by decide)) hI9
      have z190 : (σ184 9 1).toInt = (σ 9 1).toInt := (congrArg Int32.toInt (show σ184 9 1 = (σ 9 1) from (f187 1 (by decide))))
      have z191 : (σ184 9 0).toInt = (σ 9 0).toInt := (congrArg Int32.toInt (show σ184 9 0 = (σ 9 0) from (f187 0 (by decide))))
      refine jcallV (As := []) (rest := []) ⟨hx, hb, hml, hown, hts⟩ hK hP hA hS hZ (c_X7_sign_9 l D cI cL ad zz hJ σ184 τ I189) cw_RX7_35 (jc_9 cI cL ad σ184 τ) rfl ⟨Nat.le_of_ble_eq_true rfl, Nat.le_of_ble_eq_true rfl⟩ rfl rfl rfl hl.1 rfl (Nat.le_of_ble_eq_true rfl) dX7_number_28 ⟨Nat.zero_le _, Nat.zero_le _⟩ (fun r193 σ192 τ192 H locs h192 hP hS => ?_)
      obtain ⟨⟨rfl, rfl⟩, h192⟩ := h192
      rcases h192 with h194 | h195
      · obtain ⟨q198, k196, k197⟩ := h194
        have q199 : r193 = (σ 10 (σ 9 1).toNatClampNeg) := q198.trans (by rw [(show σ184 9 1 = (σ 9 1) from (f187 1 (by decide))), f186 10 (by decide)])
        have q199e : (σ184 10 (σ184 9 1).toNatClampNeg).toInt = (σ 10 (σ 9 1).toNatClampNeg).toInt := by rw [← q198, ← q199]
        have q199 := q199.symm
        subst q199
        refine jcallS (As := [.int (σ 10 (σ 9 1).toNatClampNeg)]) (rest := []) ⟨hx, hb, hml, hown, hts⟩ hK hP hA hS hZ (c_X7_isDigit l D cI cL ad zz hJ σ184 τ (σ 10 (σ 9 1).toNatClampNeg) ((σ 10 (σ 9 1).toNatClampNeg).toInt) rfl) cw_RX7_39 ⟨Nat.le_of_ble_eq_true rfl, Nat.le_of_ble_eq_true rfl⟩ rfl rfl rfl hl.1 rfl (Nat.le_of_ble_eq_true rfl) dX7_number_31 ⟨Nat.zero_le _, Nat.zero_le _⟩ (fun r201 σ200 τ200 H locs h200 hP hS => ?_)
        obtain ⟨⟨rfl, rfl⟩, h200⟩ := h200
        rcases h200 with h202 | h203
        · obtain ⟨q205, k204⟩ := h202
          have q205 := q205.symm
          subst q205
          refine lv_if_eq (tgt := 68) hx hb dX7_number_34 (by decide) (fun c => absurd c (by decide)) (fun _ => ?_)
          refine lv_iload_n hx hb dX7_number_37 rfl (lv_at hl 1 rfl) ?_
          refine lv_bipush (v := 10) hx hb dX7_number_38 (by decide) ?_
          refine lv_imul hx hb dX7_number_40 ?_
          refine jtopr (y := 0) (by decide) ?_
          refine lv_aload_n hx hb dX7_number_41 rfl (lv_at hl 2 rfl) ?_
          refine va_get (D := D) hx hb hts inlX7 hown hK hP 9 (jc_9 cI cL ad σ184 τ) rfl 3 (by decide) (hts _ kw_3_20) (fun _ h9 => h9) rfl dX7_number_42 ?_
          refine lv_aload_n hx hb dX7_number_45 rfl (lv_at hl 2 rfl) ?_
          refine lv_dup hx hb dX7_number_46 rfl ?_
          refine va_get (D := D) hx hb hts inlX7 hown hK hP 9 (jc_9 cI cL ad σ184 τ) rfl 1 (by decide) (hts _ kw_13_17) (fun _ h9 => h9) rfl dX7_number_47 ?_
          have m206 : σ184 9 1 = (σ 9 1) := (f187 1 (by decide))
          refine jtopr m206 ?_
          refine lv_dup_x1 hx hb dX7_number_50 rfl rfl ?_
          refine lv_iconst (v := 1) hx hb dX7_number_51 (by decide) ?_
          have g207 := jrg (rfl : (σ 9 1).toInt = (σ 9 1).toInt)
          refine lv_iadd hx hb dX7_number_52 ?_
          refine lv_topi (fun x208 ex208 => ?_)
          have tx208 : x208.toInt = (σ 9 1).toInt + 1 := (jadd ex208 rfl jz_1 (by omega) (by omega)).trans (by omega)
          refine jput (ty := .int) hx hb hts inlX7 tyX7 tyX7_ok nmX7 hown hK hP hJ hA hS (jc_9 cI cL ad σ184 τ) rfl (k := 1) (by decide) (Nat.le_of_ble_eq_true rfl) (jp_9_1 cI cL ad σ184 τ x208) (hts _ kw_13_17) (fun _ h9 => h9) rfl (by decide +kernel) rfl rfl dX7_number_53 (fun σ209 H locs eσ209 hP hS => ?_)
          refine jald hx hb hK hP (jc_10 cI cL ad σ209 τ) (jin rfl (by omega) (by omega)) dX7_number_56 ?_
          refine jtopr (y := (σ 10 (σ 9 1).toNatClampNeg)) (by rw [jnp 10 eσ209 (by decide), f186 10 (by decide)]) ?_
          refine lv_iadd hx hb dX7_number_57 ?_
          refine jtopr (y := (σ 10 (σ 9 1).toNatClampNeg)) (by rw [Int32.zero_add]) ?_
          refine lv_bipush (v := 48) hx hb dX7_number_58 (by decide) ?_
          have g210 := jrg (rfl : (σ 10 (σ 9 1).toNatClampNeg).toInt = (σ 10 (σ 9 1).toNatClampNeg).toInt)
          refine lv_isub hx hb dX7_number_60 ?_
          refine lv_topi (fun x211 ex211 => ?_)
          have tx211 : x211.toInt = (σ 10 (σ 9 1).toNatClampNeg).toInt - 48 := (jsub ex211 rfl jz_48 (by omega) (by omega)).trans (by omega)
          refine lv_istore_n (lv' := [(2, .int x211), (3, .int 0), (0, .ref (ad 9)), (1, .int 3)]) hx hb dX7_number_61 rfl hl (by decide) rfl (fun ls hl => ?_)
          refine lv_iinc (v := 1) (lv' := [(3, .int 1), (2, .int x211), (0, .ref (ad 9)), (1, .int 3)]) hx hb dX7_number_62 hl (k := 1) rfl (by decide) (by decide) rfl (fun ls hl => ?_)
          refine lv_goto (tgt := 22) hx hb dX7_number_65 (by decide) ?_
          refine lv_iload_n hx hb dX7_number_22 rfl (lv_at hl 0 rfl) ?_
          refine lv_iload_n hx hb dX7_number_23 rfl (lv_at hl 3 rfl) ?_
          refine lv_icmp_ge (tgt := 68) hx hb dX7_number_24 (by decide) (fun c => absurd c (by decide)) (fun _ => ?_)
          refine lv_aload_n hx hb dX7_number_27 rfl (lv_at hl 2 rfl) ?_
          have I212 : jI9 σ209 := jI9_fr (jkp 0 eσ209 (by decide)) (jnp 10 eσ209 (by decide)) (jnp 11 eσ209 (by decide)) I189
          have z213 : (σ209 9 1).toInt = (σ 9 1).toInt + 1 := ((congrArg Int32.toInt (show σ209 9 1 = x208 from (jsp eσ209))).trans tx208)
          have z214 : (σ209 9 0).toInt = (σ 9 0).toInt := (congrArg Int32.toInt (show σ209 9 0 = (σ 9 0) from ((jkp 0 eσ209 (by decide)).trans (f187 0 (by decide)))))
          refine jcallV (As := []) (rest := []) ⟨hx, hb, hml, hown, hts⟩ hK hP hA hS hZ (c_X7_sign_9 l D cI cL ad zz hJ σ209 τ I212) cw_RX7_35 (jc_9 cI cL ad σ209 τ) rfl ⟨Nat.le_of_ble_eq_true rfl, Nat.le_of_ble_eq_true rfl⟩ rfl rfl rfl hl.1 rfl (Nat.le_of_ble_eq_true rfl) dX7_number_28 ⟨Nat.zero_le _, Nat.zero_le _⟩ (fun r216 σ215 τ215 H locs h215 hP hS => ?_)
          obtain ⟨⟨rfl, rfl⟩, h215⟩ := h215
          rcases h215 with h217 | h218
          · obtain ⟨q221, k219, k220⟩ := h217
            exact absurd (by omega : False) id
          · obtain ⟨q223, k222⟩ := h218
            have q223 := q223.symm
            subst q223
            refine jcallS (As := [.int (-1)]) (rest := []) ⟨hx, hb, hml, hown, hts⟩ hK hP hA hS hZ (c_X7_isDigit l D cI cL ad zz hJ σ209 τ (-1) ((-1)) jz_m1) cw_RX7_39 ⟨Nat.le_of_ble_eq_true rfl, Nat.le_of_ble_eq_true rfl⟩ rfl rfl rfl hl.1 rfl (Nat.le_of_ble_eq_true rfl) dX7_number_31 ⟨Nat.zero_le _, Nat.zero_le _⟩ (fun r225 σ224 τ224 H locs h224 hP hS => ?_)
            obtain ⟨⟨rfl, rfl⟩, h224⟩ := h224
            rcases h224 with h226 | h227
            · obtain ⟨q229, k228⟩ := h226
              exact absurd (by omega : False) id
            · obtain ⟨q231, k230⟩ := h227
              have q231 := q231.symm
              subst q231
              refine lv_if_eq (tgt := 68) hx hb dX7_number_34 (by decide) (fun _ => ?_) (fun c => absurd (by decide) c)
              refine lv_iload_n hx hb dX7_number_68 rfl (lv_at hl 1 rfl) ?_
              have I232 : jI91 σ209 := ⟨(by omega), (by omega)⟩
              have z233 : (σ209 9 2).toInt = (σ184 9 2).toInt := (congrArg Int32.toInt (show σ209 9 2 = (σ184 9 2) from (jkp 2 eσ209 (by decide))))
              have I234 : jI92 σ209 := (show (-1) ≤ (σ209 9 2).toInt by omega)
              exact hret x211 σ209 τ _ _ _ _ rfl ⟨rfl, (fun i hi => ((jnp i eσ209 (imp_39 i hi)).trans (f186 i hi))), (fun i hi => ((jkp i eσ209 (imp_41 i hi)).trans (f187 i (imp_45 i hi)))), I212, I232, I234, (by omega), ⟨trivial, (by have h9 := tx211; omega)⟩⟩ hP hS dX7_number_69
        · obtain ⟨q236, k235⟩ := h203
          have q236 := q236.symm
          subst q236
          refine lv_if_eq (tgt := 68) hx hb dX7_number_34 (by decide) (fun _ => ?_) (fun c => absurd (by decide) c)
          refine lv_iload_n hx hb dX7_number_68 rfl (lv_at hl 1 rfl) ?_
          have I237 : jI91 σ184 := jI91_fr (f187 0 (by decide)) (f187 1 (by decide)) hI91
          have I238 : jI92 σ184 := (show (-1) ≤ (σ184 9 2).toInt by omega)
          exact hret 0 σ184 τ _ _ _ _ rfl ⟨rfl, (fun i hi => (f186 i hi)), (fun i hi => (f187 i (imp_45 i hi))), I189, I237, I238, (by omega), ⟨trivial, (by have h9 := jz_0; omega)⟩⟩ hP hS dX7_number_69
      · obtain ⟨q240, k239⟩ := h195
        have q240 := q240.symm
        subst q240
        refine jcallS (As := [.int (-1)]) (rest := []) ⟨hx, hb, hml, hown, hts⟩ hK hP hA hS hZ (c_X7_isDigit l D cI cL ad zz hJ σ184 τ (-1) ((-1)) jz_m1) cw_RX7_39 ⟨Nat.le_of_ble_eq_true rfl, Nat.le_of_ble_eq_true rfl⟩ rfl rfl rfl hl.1 rfl (Nat.le_of_ble_eq_true rfl) dX7_number_31 ⟨Nat.zero_le _, Nat.zero_le _⟩ (fun r242 σ241 τ241 H locs h241 hP hS => ?_)
        obtain ⟨⟨rfl, rfl⟩, h241⟩ := h241
        rcases h241 with h243 | h244
        · obtain ⟨q246, k245⟩ := h243
          exact absurd (by omega : False) id
        · obtain ⟨q248, k247⟩ := h244
          have q248 := q248.symm
          subst q248
          refine lv_if_eq (tgt := 68) hx hb dX7_number_34 (by decide) (fun _ => ?_) (fun c => absurd (by decide) c)
          refine lv_iload_n hx hb dX7_number_68 rfl (lv_at hl 1 rfl) ?_
          have I249 : jI91 σ184 := jI91_fr (f187 0 (by decide)) (f187 1 (by decide)) hI91
          have I250 : jI92 σ184 := (show (-1) ≤ (σ184 9 2).toInt by omega)
          exact hret 0 σ184 τ _ _ _ _ rfl ⟨rfl, (fun i hi => (f186 i hi)), (fun i hi => (f187 i (imp_45 i hi))), I189, I249, I250, (by omega), ⟨trivial, (by have h9 := jz_0; omega)⟩⟩ hP hS dX7_number_69
set_option maxHeartbeats 4000000 in
set_option maxRecDepth 100000 in
theorem c_X7_number_4 (l : Launch) (D : va_G) (cI cL : ClassId) (ad zz : Nat → Nat) (hJ : jD ad) (σ : Nat → Nat → Int32) (τ : Nat → Nat → Int64) (hI9 : jI9 σ) (hI91 : jI91 σ) (hI92 : jI92 σ) : jM l yX7_number cX7_number 4 (some .int) ({ frames := 1, cells := 0, slots := 0, locals := 21 }) D cI cL ad zz [.ref (ad 9), .int 4] σ τ (fun r σ' τ' => τ = τ' ∧ (∀ i : Nat, (i < 9 ∨ 9 < i) → σ' i = σ i) ∧ (∀ k : Nat, (k < 1 ∨ 1 < k) ∧ (k < 2 ∨ 2 < k) → σ' 9 k = σ 9 k) ∧ (jI9 σ') ∧ (jI91 σ') ∧ (jI92 σ') ∧ ((0 ≤ (σ 9 2).toInt ∧ 0 ≤ (σ' 9 2).toInt) ∨ ((σ 9 2).toInt = (-1))) ∧ ((True ∧ (0 ≤ r.toInt ∧ r.toInt ≤ 9999)))) := by
  refine jM.of hJ (by decide +kernel) (nt := .int) rfl (Nat.le_of_ble_eq_true rfl) ?_
  intro p e s m args below meth c Q ls hC hret hl hP
  obtain ⟨hx, hb, hr, hml, hown, hts, hK, -, hlocks, hZ⟩ := hC
  have hown : s.vm.findClass RX7 = some m.cls := hown
  have hS : va_S (jA ad) s.heap s.heap [] := va_S.rf
  have hA : ∀ q, jA ad q → jA ad q := fun _ h => h
  have hl : lv_has ls 4 [(0, .ref (ad 9)), (1, .int 4)] := hl
  obtain ⟨i1, w2, w3⟩ : (0 ≤ (σ 9 0).toInt ∧ (σ 9 0).toInt ≤ 80) ∧ (∀ k : Nat, k < 80 → 0 ≤ (σ 10 k).toInt ∧ (σ 10 k).toInt ≤ 255) ∧ (∀ k : Nat, k < 8 → 0 ≤ (σ 11 k).toInt ∧ (σ 11 k).toInt ≤ 3) := id hI9
  obtain ⟨i4, i5⟩ : (0 ≤ (σ 9 1).toInt) ∧ ((σ 9 1).toInt ≤ (σ 9 0).toInt) := id hI91
  have i6 : (-1) ≤ (σ 9 2).toInt := hI92
  refine lv_aload_n hx hb dX7_number_0 rfl (lv_at hl 0 rfl) ?_
  refine jcallV (As := []) (rest := []) ⟨hx, hb, hml, hown, hts⟩ hK hP hA hS hZ (c_X7_sign_9 l D cI cL ad zz hJ σ τ hI9) cw_RX7_35 (jc_9 cI cL ad σ τ) rfl ⟨Nat.le_of_ble_eq_true rfl, Nat.le_of_ble_eq_true rfl⟩ rfl rfl rfl hl.1 rfl (Nat.le_of_ble_eq_true rfl) dX7_number_1 ⟨Nat.zero_le _, Nat.zero_le _⟩ (fun r8 σ7 τ7 H locs h7 hP hS => ?_)
  obtain ⟨⟨rfl, rfl⟩, h7⟩ := h7
  rcases h7 with h9 | h10
  · obtain ⟨q13, k11, k12⟩ := h9
    have q14 : r8 = (σ 10 (σ 9 1).toNatClampNeg) := q13.trans rfl
    have q14 := q14.symm
    subst q14
    refine jcallS (As := [.int (σ 10 (σ 9 1).toNatClampNeg)]) (rest := []) ⟨hx, hb, hml, hown, hts⟩ hK hP hA hS hZ (c_X7_isDigit l D cI cL ad zz hJ σ τ (σ 10 (σ 9 1).toNatClampNeg) ((σ 10 (σ 9 1).toNatClampNeg).toInt) rfl) cw_RX7_39 ⟨Nat.le_of_ble_eq_true rfl, Nat.le_of_ble_eq_true rfl⟩ rfl rfl rfl hl.1 rfl (Nat.le_of_ble_eq_true rfl) dX7_number_4 ⟨Nat.zero_le _, Nat.zero_le _⟩ (fun r16 σ15 τ15 H locs h15 hP hS => ?_)
    obtain ⟨⟨rfl, rfl⟩, h15⟩ := h15
    rcases h15 with h17 | h18
    · obtain ⟨q20, k19⟩ := h17
      have q20 := q20.symm
      subst q20
      refine lv_if_ne (tgt := 18) hx hb dX7_number_7 (by decide) (fun _ => ?_) (fun c => absurd c (by decide))
      refine lv_iconst (v := 0) hx hb dX7_number_18 (by decide) ?_
      refine lv_istore_n (lv' := [(2, .int 0), (0, .ref (ad 9)), (1, .int 4)]) hx hb dX7_number_19 rfl hl (by decide) rfl (fun ls hl => ?_)
      refine lv_iconst (v := 0) hx hb dX7_number_20 (by decide) ?_
      refine lv_istore_n (lv' := [(3, .int 0), (2, .int 0), (0, .ref (ad 9)), (1, .int 4)]) hx hb dX7_number_21 rfl hl (by decide) rfl (fun ls hl => ?_)
      refine lv_iload_n hx hb dX7_number_22 rfl (lv_at hl 0 rfl) ?_
      refine lv_iload_n hx hb dX7_number_23 rfl (lv_at hl 3 rfl) ?_
      refine lv_icmp_ge (tgt := 68) hx hb dX7_number_24 (by decide) (fun c => absurd c (by decide)) (fun _ => ?_)
      refine lv_aload_n hx hb dX7_number_27 rfl (lv_at hl 2 rfl) ?_
      refine jcallV (As := []) (rest := []) ⟨hx, hb, hml, hown, hts⟩ hK hP hA hS hZ (c_X7_sign_9 l D cI cL ad zz hJ σ τ hI9) cw_RX7_35 (jc_9 cI cL ad σ τ) rfl ⟨Nat.le_of_ble_eq_true rfl, Nat.le_of_ble_eq_true rfl⟩ rfl rfl rfl hl.1 rfl (Nat.le_of_ble_eq_true rfl) dX7_number_28 ⟨Nat.zero_le _, Nat.zero_le _⟩ (fun r22 σ21 τ21 H locs h21 hP hS => ?_)
      obtain ⟨⟨rfl, rfl⟩, h21⟩ := h21
      rcases h21 with h23 | h24
      · obtain ⟨q27, k25, k26⟩ := h23
        have q28 : r22 = (σ 10 (σ 9 1).toNatClampNeg) := q27.trans rfl
        have q28 := q28.symm
        subst q28
        refine jcallS (As := [.int (σ 10 (σ 9 1).toNatClampNeg)]) (rest := []) ⟨hx, hb, hml, hown, hts⟩ hK hP hA hS hZ (c_X7_isDigit l D cI cL ad zz hJ σ τ (σ 10 (σ 9 1).toNatClampNeg) ((σ 10 (σ 9 1).toNatClampNeg).toInt) rfl) cw_RX7_39 ⟨Nat.le_of_ble_eq_true rfl, Nat.le_of_ble_eq_true rfl⟩ rfl rfl rfl hl.1 rfl (Nat.le_of_ble_eq_true rfl) dX7_number_31 ⟨Nat.zero_le _, Nat.zero_le _⟩ (fun r30 σ29 τ29 H locs h29 hP hS => ?_)
        obtain ⟨⟨rfl, rfl⟩, h29⟩ := h29
        rcases h29 with h31 | h32
        · obtain ⟨q34, k33⟩ := h31
          have q34 := q34.symm
          subst q34
          refine lv_if_eq (tgt := 68) hx hb dX7_number_34 (by decide) (fun c => absurd c (by decide)) (fun _ => ?_)
          refine lv_iload_n hx hb dX7_number_37 rfl (lv_at hl 1 rfl) ?_
          refine lv_bipush (v := 10) hx hb dX7_number_38 (by decide) ?_
          refine lv_imul hx hb dX7_number_40 ?_
          refine jtopr (y := 0) (by decide) ?_
          refine lv_aload_n hx hb dX7_number_41 rfl (lv_at hl 2 rfl) ?_
          refine va_get (D := D) hx hb hts inlX7 hown hK hP 9 (jc_9 cI cL ad σ τ) rfl 3 (by decide) (hts _ kw_3_20) (fun _ h9 => h9) rfl dX7_number_42 ?_
          refine lv_aload_n hx hb dX7_number_45 rfl (lv_at hl 2 rfl) ?_
          refine lv_dup hx hb dX7_number_46 rfl ?_
          refine va_get (D := D) hx hb hts inlX7 hown hK hP 9 (jc_9 cI cL ad σ τ) rfl 1 (by decide) (hts _ kw_13_17) (fun _ h9 => h9) rfl dX7_number_47 ?_
          refine lv_dup_x1 hx hb dX7_number_50 rfl rfl ?_
          refine lv_iconst (v := 1) hx hb dX7_number_51 (by decide) ?_
          have g35 := jrg (rfl : (σ 9 1).toInt = (σ 9 1).toInt)
          refine lv_iadd hx hb dX7_number_52 ?_
          refine lv_topi (fun x36 ex36 => ?_)
          have tx36 : x36.toInt = (σ 9 1).toInt + 1 := (jadd ex36 rfl jz_1 (by omega) (by omega)).trans (by omega)
          refine jput (ty := .int) hx hb hts inlX7 tyX7 tyX7_ok nmX7 hown hK hP hJ hA hS (jc_9 cI cL ad σ τ) rfl (k := 1) (by decide) (Nat.le_of_ble_eq_true rfl) (jp_9_1 cI cL ad σ τ x36) (hts _ kw_13_17) (fun _ h9 => h9) rfl (by decide +kernel) rfl rfl dX7_number_53 (fun σ37 H locs eσ37 hP hS => ?_)
          refine jald hx hb hK hP (jc_10 cI cL ad σ37 τ) (jin rfl (by omega) (by omega)) dX7_number_56 ?_
          refine jtopr (y := (σ 10 (σ 9 1).toNatClampNeg)) (by rw [jnp 10 eσ37 (by decide)]) ?_
          refine lv_iadd hx hb dX7_number_57 ?_
          refine jtopr (y := (σ 10 (σ 9 1).toNatClampNeg)) (by rw [Int32.zero_add]) ?_
          refine lv_bipush (v := 48) hx hb dX7_number_58 (by decide) ?_
          have g38 := jrg (rfl : (σ 10 (σ 9 1).toNatClampNeg).toInt = (σ 10 (σ 9 1).toNatClampNeg).toInt)
          refine lv_isub hx hb dX7_number_60 ?_
          refine lv_topi (fun x39 ex39 => ?_)
          have tx39 : x39.toInt = (σ 10 (σ 9 1).toNatClampNeg).toInt - 48 := (jsub ex39 rfl jz_48 (by omega) (by omega)).trans (by omega)
          refine lv_istore_n (lv' := [(2, .int x39), (3, .int 0), (0, .ref (ad 9)), (1, .int 4)]) hx hb dX7_number_61 rfl hl (by decide) rfl (fun ls hl => ?_)
          refine lv_iinc (v := 1) (lv' := [(3, .int 1), (2, .int x39), (0, .ref (ad 9)), (1, .int 4)]) hx hb dX7_number_62 hl (k := 1) rfl (by decide) (by decide) rfl (fun ls hl => ?_)
          refine lv_goto (tgt := 22) hx hb dX7_number_65 (by decide) ?_
          refine lv_iload_n hx hb dX7_number_22 rfl (lv_at hl 0 rfl) ?_
          refine lv_iload_n hx hb dX7_number_23 rfl (lv_at hl 3 rfl) ?_
          refine lv_icmp_ge (tgt := 68) hx hb dX7_number_24 (by decide) (fun c => absurd c (by decide)) (fun _ => ?_)
          refine lv_aload_n hx hb dX7_number_27 rfl (lv_at hl 2 rfl) ?_
          have I40 : jI9 σ37 := jI9_fr (jkp 0 eσ37 (by decide)) (jnp 10 eσ37 (by decide)) (jnp 11 eσ37 (by decide)) hI9
          have z41 : (σ37 9 1).toInt = (σ 9 1).toInt + 1 := ((congrArg Int32.toInt (show σ37 9 1 = x36 from (jsp eσ37))).trans tx36)
          have z42 : (σ37 9 0).toInt = (σ 9 0).toInt := (congrArg Int32.toInt (show σ37 9 0 = (σ 9 0) from (jkp 0 eσ37 (by decide))))
          refine jcallV (As := []) (rest := []) ⟨hx, hb, hml, hown, hts⟩ hK hP hA hS hZ (c_X7_sign_9 l D cI cL ad zz hJ σ37 τ I40) cw_RX7_35 (jc_9 cI cL ad σ37 τ) rfl ⟨Nat.le_of_ble_eq_true rfl, Nat.le_of_ble_eq_true rfl⟩ rfl rfl rfl hl.1 rfl (Nat.le_of_ble_eq_true rfl) dX7_number_28 ⟨Nat.zero_le _, Nat.zero_le _⟩ (fun r44 σ43 τ43 H locs h43 hP hS => ?_)
          obtain ⟨⟨rfl, rfl⟩, h43⟩ := h43
          rcases h43 with h45 | h46
          · obtain ⟨q49, k47, k48⟩ := h45
            have q50 : r44 = (σ 10 x36.toNatClampNeg) := q49.trans (by rw [(show σ37 9 1 = x36 from (jsp eσ37)), jnp 10 eσ37 (by decide)])
            have q50e : (σ37 10 (σ37 9 1).toNatClampNeg).toInt = (σ 10 x36.toNatClampNeg).toInt := by rw [← q49, ← q50]
            have q50 := q50.symm
            subst q50
            refine jcallS (As := [.int (σ 10 x36.toNatClampNeg)]) (rest := []) ⟨hx, hb, hml, hown, hts⟩ hK hP hA hS hZ (c_X7_isDigit l D cI cL ad zz hJ σ37 τ (σ 10 x36.toNatClampNeg) ((σ 10 x36.toNatClampNeg).toInt) rfl) cw_RX7_39 ⟨Nat.le_of_ble_eq_true rfl, Nat.le_of_ble_eq_true rfl⟩ rfl rfl rfl hl.1 rfl (Nat.le_of_ble_eq_true rfl) dX7_number_31 ⟨Nat.zero_le _, Nat.zero_le _⟩ (fun r52 σ51 τ51 H locs h51 hP hS => ?_)
            obtain ⟨⟨rfl, rfl⟩, h51⟩ := h51
            rcases h51 with h53 | h54
            · obtain ⟨q56, k55⟩ := h53
              have q56 := q56.symm
              subst q56
              refine lv_if_eq (tgt := 68) hx hb dX7_number_34 (by decide) (fun c => absurd c (by decide)) (fun _ => ?_)
              refine lv_iload_n hx hb dX7_number_37 rfl (lv_at hl 1 rfl) ?_
              refine lv_bipush (v := 10) hx hb dX7_number_38 (by decide) ?_
              refine lv_imul hx hb dX7_number_40 ?_
              refine lv_topi (fun x57 ex57 => ?_)
              have tx57 : x57.toInt = 10 * (σ 10 (σ 9 1).toNatClampNeg).toInt - 480 := (jmul ex57 tx39 jz_10 (by omega) (by omega)).trans (by omega)
              refine lv_aload_n hx hb dX7_number_41 rfl (lv_at hl 2 rfl) ?_
              refine va_get (D := D) hx hb hts inlX7 hown hK hP 9 (jc_9 cI cL ad σ37 τ) rfl 3 (by decide) (hts _ kw_3_20) (fun _ h9 => h9) rfl dX7_number_42 ?_
              refine lv_aload_n hx hb dX7_number_45 rfl (lv_at hl 2 rfl) ?_
              refine lv_dup hx hb dX7_number_46 rfl ?_
              refine va_get (D := D) hx hb hts inlX7 hown hK hP 9 (jc_9 cI cL ad σ37 τ) rfl 1 (by decide) (hts _ kw_13_17) (fun _ h9 => h9) rfl dX7_number_47 ?_
              have m58 : σ37 9 1 = x36 := (jsp eσ37)
              refine jtopr m58 ?_
              refine lv_dup_x1 hx hb dX7_number_50 rfl rfl ?_
              refine lv_iconst (v := 1) hx hb dX7_number_51 (by decide) ?_
              refine lv_iadd hx hb dX7_number_52 ?_
              refine lv_topi (fun x59 ex59 => ?_)
              have tx59 : x59.toInt = (σ 9 1).toInt + 2 := (jadd ex59 tx36 jz_1 (by omega) (by omega)).trans (by omega)
              refine jput (ty := .int) hx hb hts inlX7 tyX7 tyX7_ok nmX7 hown hK hP hJ hA hS (jc_9 cI cL ad σ37 τ) rfl (k := 1) (by decide) (Nat.le_of_ble_eq_true rfl) (jp_9_1 cI cL ad σ37 τ x59) (hts _ kw_13_17) (fun _ h9 => h9) rfl (by decide +kernel) rfl rfl dX7_number_53 (fun σ60 H locs eσ60 hP hS => ?_)
              refine jald hx hb hK hP (jc_10 cI cL ad σ60 τ) (jin tx36 (by omega) (by omega)) dX7_number_56 ?_
              refine jtopr (y := (σ 10 x36.toNatClampNeg)) (by rw [jnp 10 eσ60 (by decide), jnp 10 eσ37 (by decide)]) ?_
              have g61 := jrg (rfl : (σ 10 x36.toNatClampNeg).toInt = (σ 10 x36.toNatClampNeg).toInt)
              refine lv_iadd hx hb dX7_number_57 ?_
              refine lv_topi (fun x62 ex62 => ?_)
              have tx62 : x62.toInt = 10 * (σ 10 (σ 9 1).toNatClampNeg).toInt + (σ 10 x36.toNatClampNeg).toInt - 480 := (jadd ex62 tx57 rfl (by omega) (by omega)).trans (by omega)
              refine lv_bipush (v := 48) hx hb dX7_number_58 (by decide) ?_
              refine lv_isub hx hb dX7_number_60 ?_
              refine lv_topi (fun x63 ex63 => ?_)
              have tx63 : x63.toInt = 10 * (σ 10 (σ 9 1).toNatClampNeg).toInt + (σ 10 x36.toNatClampNeg).toInt - 528 := (jsub ex63 tx62 jz_48 (by omega) (by omega)).trans (by omega)
              refine lv_istore_n (lv' := [(2, .int x63), (3, .int 1), (0, .ref (ad 9)), (1, .int 4)]) hx hb dX7_number_61 rfl hl (by decide) rfl (fun ls hl => ?_)
              refine lv_iinc (v := 2) (lv' := [(3, .int 2), (2, .int x63), (0, .ref (ad 9)), (1, .int 4)]) hx hb dX7_number_62 hl (k := 1) rfl (by decide) (by decide) rfl (fun ls hl => ?_)
              refine lv_goto (tgt := 22) hx hb dX7_number_65 (by decide) ?_
              refine lv_iload_n hx hb dX7_number_22 rfl (lv_at hl 0 rfl) ?_
              refine lv_iload_n hx hb dX7_number_23 rfl (lv_at hl 3 rfl) ?_
              refine lv_icmp_ge (tgt := 68) hx hb dX7_number_24 (by decide) (fun c => absurd c (by decide)) (fun _ => ?_)
              refine lv_aload_n hx hb dX7_number_27 rfl (lv_at hl 2 rfl) ?_
              have I64 : jI9 σ60 := jI9_fr (jkp 0 eσ60 (by decide)) (jnp 10 eσ60 (by decide)) (jnp 11 eσ60 (by decide)) I40
              have z65 : (σ60 9 1).toInt = (σ 9 1).toInt + 2 := ((congrArg Int32.toInt (show σ60 9 1 = x59 from (jsp eσ60))).trans tx59)
              have z66 : (σ60 9 0).toInt = (σ 9 0).toInt := (congrArg Int32.toInt (show σ60 9 0 = (σ 9 0) from ((jkp 0 eσ60 (by decide)).trans (jkp 0 eσ37 (by decide)))))
              refine jcallV (As := []) (rest := []) ⟨hx, hb, hml, hown, hts⟩ hK hP hA hS hZ (c_X7_sign_9 l D cI cL ad zz hJ σ60 τ I64) cw_RX7_35 (jc_9 cI cL ad σ60 τ) rfl ⟨Nat.le_of_ble_eq_true rfl, Nat.le_of_ble_eq_true rfl⟩ rfl rfl rfl hl.1 rfl (Nat.le_of_ble_eq_true rfl) dX7_number_28 ⟨Nat.zero_le _, Nat.zero_le _⟩ (fun r68 σ67 τ67 H locs h67 hP hS => ?_)
              obtain ⟨⟨rfl, rfl⟩, h67⟩ := h67
              rcases h67 with h69 | h70
              · obtain ⟨q73, k71, k72⟩ := h69
                have q74 : r68 = (σ 10 x59.toNatClampNeg) := q73.trans (by rw [(show σ60 9 1 = x59 from (jsp eσ60)), jnp 10 eσ60 (by decide), jnp 10 eσ37 (by decide)])
                have q74e : (σ60 10 (σ60 9 1).toNatClampNeg).toInt = (σ 10 x59.toNatClampNeg).toInt := by rw [← q73, ← q74]
                have q74 := q74.symm
                subst q74
                refine jcallS (As := [.int (σ 10 x59.toNatClampNeg)]) (rest := []) ⟨hx, hb, hml, hown, hts⟩ hK hP hA hS hZ (c_X7_isDigit l D cI cL ad zz hJ σ60 τ (σ 10 x59.toNatClampNeg) ((σ 10 x59.toNatClampNeg).toInt) rfl) cw_RX7_39 ⟨Nat.le_of_ble_eq_true rfl, Nat.le_of_ble_eq_true rfl⟩ rfl rfl rfl hl.1 rfl (Nat.le_of_ble_eq_true rfl) dX7_number_31 ⟨Nat.zero_le _, Nat.zero_le _⟩ (fun r76 σ75 τ75 H locs h75 hP hS => ?_)
                obtain ⟨⟨rfl, rfl⟩, h75⟩ := h75
                rcases h75 with h77 | h78
                · obtain ⟨q80, k79⟩ := h77
                  have q80 := q80.symm
                  subst q80
                  refine lv_if_eq (tgt := 68) hx hb dX7_number_34 (by decide) (fun c => absurd c (by decide)) (fun _ => ?_)
                  refine lv_iload_n hx hb dX7_number_37 rfl (lv_at hl 1 rfl) ?_
                  refine lv_bipush (v := 10) hx hb dX7_number_38 (by decide) ?_
                  refine lv_imul hx hb dX7_number_40 ?_
                  refine lv_topi (fun x81 ex81 => ?_)
                  have tx81 : x81.toInt = 100 * (σ 10 (σ 9 1).toNatClampNeg).toInt + 10 * (σ 10 x36.toNatClampNeg).toInt - 5280 := (jmul ex81 tx63 jz_10 (by omega) (by omega)).trans (by omega)
                  refine lv_aload_n hx hb dX7_number_41 rfl (lv_at hl 2 rfl) ?_
                  refine va_get (D := D) hx hb hts inlX7 hown hK hP 9 (jc_9 cI cL ad σ60 τ) rfl 3 (by decide) (hts _ kw_3_20) (fun _ h9 => h9) rfl dX7_number_42 ?_
                  refine lv_aload_n hx hb dX7_number_45 rfl (lv_at hl 2 rfl) ?_
                  refine lv_dup hx hb dX7_number_46 rfl ?_
                  refine va_get (D := D) hx hb hts inlX7 hown hK hP 9 (jc_9 cI cL ad σ60 τ) rfl 1 (by decide) (hts _ kw_13_17) (fun _ h9 => h9) rfl dX7_number_47 ?_
                  have m82 : σ60 9 1 = x59 := (jsp eσ60)
                  refine jtopr m82 ?_
                  refine lv_dup_x1 hx hb dX7_number_50 rfl rfl ?_
                  refine lv_iconst (v := 1) hx hb dX7_number_51 (by decide) ?_
                  refine lv_iadd hx hb dX7_number_52 ?_
                  refine lv_topi (fun x83 ex83 => ?_)
                  have tx83 : x83.toInt = (σ 9 1).toInt + 3 := (jadd ex83 tx59 jz_1 (by omega) (by omega)).trans (by omega)
                  refine jput (ty := .int) hx hb hts inlX7 tyX7 tyX7_ok nmX7 hown hK hP hJ hA hS (jc_9 cI cL ad σ60 τ) rfl (k := 1) (by decide) (Nat.le_of_ble_eq_true rfl) (jp_9_1 cI cL ad σ60 τ x83) (hts _ kw_13_17) (fun _ h9 => h9) rfl (by decide +kernel) rfl rfl dX7_number_53 (fun σ84 H locs eσ84 hP hS => ?_)
                  refine jald hx hb hK hP (jc_10 cI cL ad σ84 τ) (jin tx59 (by omega) (by omega)) dX7_number_56 ?_
                  refine jtopr (y := (σ 10 x59.toNatClampNeg)) (by rw [jnp 10 eσ84 (by decide), jnp 10 eσ60 (by decide), jnp 10 eσ37 (by decide)]) ?_
                  have g85 := jrg (rfl : (σ 10 x59.toNatClampNeg).toInt = (σ 10 x59.toNatClampNeg).toInt)
                  refine lv_iadd hx hb dX7_number_57 ?_
                  refine lv_topi (fun x86 ex86 => ?_)
                  have tx86 : x86.toInt = 100 * (σ 10 (σ 9 1).toNatClampNeg).toInt + 10 * (σ 10 x36.toNatClampNeg).toInt + (σ 10 x59.toNatClampNeg).toInt - 5280 := (jadd ex86 tx81 rfl (by omega) (by omega)).trans (by omega)
                  refine lv_bipush (v := 48) hx hb dX7_number_58 (by decide) ?_
                  refine lv_isub hx hb dX7_number_60 ?_
                  refine lv_topi (fun x87 ex87 => ?_)
                  have tx87 : x87.toInt = 100 * (σ 10 (σ 9 1).toNatClampNeg).toInt + 10 * (σ 10 x36.toNatClampNeg).toInt + (σ 10 x59.toNatClampNeg).toInt - 5328 := (jsub ex87 tx86 jz_48 (by omega) (by omega)).trans (by omega)
                  refine lv_istore_n (lv' := [(2, .int x87), (3, .int 2), (0, .ref (ad 9)), (1, .int 4)]) hx hb dX7_number_61 rfl hl (by decide) rfl (fun ls hl => ?_)
                  refine lv_iinc (v := 3) (lv' := [(3, .int 3), (2, .int x87), (0, .ref (ad 9)), (1, .int 4)]) hx hb dX7_number_62 hl (k := 1) rfl (by decide) (by decide) rfl (fun ls hl => ?_)
                  refine lv_goto (tgt := 22) hx hb dX7_number_65 (by decide) ?_
                  refine lv_iload_n hx hb dX7_number_22 rfl (lv_at hl 0 rfl) ?_
                  refine lv_iload_n hx hb dX7_number_23 rfl (lv_at hl 3 rfl) ?_
                  refine lv_icmp_ge (tgt := 68) hx hb dX7_number_24 (by decide) (fun c => absurd c (by decide)) (fun _ => ?_)
                  refine lv_aload_n hx hb dX7_number_27 rfl (lv_at hl 2 rfl) ?_
                  have I88 : jI9 σ84 := jI9_fr (jkp 0 eσ84 (by decide)) (jnp 10 eσ84 (by decide)) (jnp 11 eσ84 (by decide)) I64
                  have z89 : (σ84 9 1).toInt = (σ 9 1).toInt + 3 := ((congrArg Int32.toInt (show σ84 9 1 = x83 from (jsp eσ84))).trans tx83)
                  have z90 : (σ84 9 0).toInt = (σ 9 0).toInt := (congrArg Int32.toInt (show σ84 9 0 = (σ 9 0) from ((jkp 0 eσ84 (by decide)).trans ((jkp 0 eσ60 (by decide)).trans (jkp 0 eσ37 (by decide))))))
                  refine jcallV (As := []) (rest := []) ⟨hx, hb, hml, hown, hts⟩ hK hP hA hS hZ (c_X7_sign_9 l D cI cL ad zz hJ σ84 τ I88) cw_RX7_35 (jc_9 cI cL ad σ84 τ) rfl ⟨Nat.le_of_ble_eq_true rfl, Nat.le_of_ble_eq_true rfl⟩ rfl rfl rfl hl.1 rfl (Nat.le_of_ble_eq_true rfl) dX7_number_28 ⟨Nat.zero_le _, Nat.zero_le _⟩ (fun r92 σ91 τ91 H locs h91 hP hS => ?_)
                  obtain ⟨⟨rfl, rfl⟩, h91⟩ := h91
                  rcases h91 with h93 | h94
                  · obtain ⟨q97, k95, k96⟩ := h93
                    have q98 : r92 = (σ 10 x83.toNatClampNeg) := q97.trans (by rw [(show σ84 9 1 = x83 from (jsp eσ84)), jnp 10 eσ84 (by decide), jnp 10 eσ60 (by decide), jnp 10 eσ37 (by decide)])
                    have q98e : (σ84 10 (σ84 9 1).toNatClampNeg).toInt = (σ 10 x83.toNatClampNeg).toInt := by rw [← q97, ← q98]
                    have q98 := q98.symm
                    subst q98
                    refine jcallS (As := [.int (σ 10 x83.toNatClampNeg)]) (rest := []) ⟨hx, hb, hml, hown, hts⟩ hK hP hA hS hZ (c_X7_isDigit l D cI cL ad zz hJ σ84 τ (σ 10 x83.toNatClampNeg) ((σ 10 x83.toNatClampNeg).toInt) rfl) cw_RX7_39 ⟨Nat.le_of_ble_eq_true rfl, Nat.le_of_ble_eq_true rfl⟩ rfl rfl rfl hl.1 rfl (Nat.le_of_ble_eq_true rfl) dX7_number_31 ⟨Nat.zero_le _, Nat.zero_le _⟩ (fun r100 σ99 τ99 H locs h99 hP hS => ?_)
                    obtain ⟨⟨rfl, rfl⟩, h99⟩ := h99
                    rcases h99 with h101 | h102
                    · obtain ⟨q104, k103⟩ := h101
                      have q104 := q104.symm
                      subst q104
                      refine lv_if_eq (tgt := 68) hx hb dX7_number_34 (by decide) (fun c => absurd c (by decide)) (fun _ => ?_)
                      refine lv_iload_n hx hb dX7_number_37 rfl (lv_at hl 1 rfl) ?_
                      refine lv_bipush (v := 10) hx hb dX7_number_38 (by decide) ?_
                      refine lv_imul hx hb dX7_number_40 ?_
                      refine lv_topi (fun x105 ex105 => ?_)
                      have tx105 : x105.toInt = 1000 * (σ 10 (σ 9 1).toNatClampNeg).toInt + 100 * (σ 10 x36.toNatClampNeg).toInt + 10 * (σ 10 x59.toNatClampNeg).toInt - 53280 := (jmul ex105 tx87 jz_10 (by omega) (by omega)).trans (by omega)
                      refine lv_aload_n hx hb dX7_number_41 rfl (lv_at hl 2 rfl) ?_
                      refine va_get (D := D) hx hb hts inlX7 hown hK hP 9 (jc_9 cI cL ad σ84 τ) rfl 3 (by decide) (hts _ kw_3_20) (fun _ h9 => h9) rfl dX7_number_42 ?_
                      refine lv_aload_n hx hb dX7_number_45 rfl (lv_at hl 2 rfl) ?_
                      refine lv_dup hx hb dX7_number_46 rfl ?_
                      refine va_get (D := D) hx hb hts inlX7 hown hK hP 9 (jc_9 cI cL ad σ84 τ) rfl 1 (by decide) (hts _ kw_13_17) (fun _ h9 => h9) rfl dX7_number_47 ?_
                      have m106 : σ84 9 1 = x83 := (jsp eσ84)
                      refine jtopr m106 ?_
                      refine lv_dup_x1 hx hb dX7_number_50 rfl rfl ?_
                      refine lv_iconst (v := 1) hx hb dX7_number_51 (by decide) ?_
                      refine lv_iadd hx hb dX7_number_52 ?_
                      refine lv_topi (fun x107 ex107 => ?_)
                      have tx107 : x107.toInt = (σ 9 1).toInt + 4 := (jadd ex107 tx83 jz_1 (by omega) (by omega)).trans (by omega)
                      refine jput (ty := .int) hx hb hts inlX7 tyX7 tyX7_ok nmX7 hown hK hP hJ hA hS (jc_9 cI cL ad σ84 τ) rfl (k := 1) (by decide) (Nat.le_of_ble_eq_true rfl) (jp_9_1 cI cL ad σ84 τ x107) (hts _ kw_13_17) (fun _ h9 => h9) rfl (by decide +kernel) rfl rfl dX7_number_53 (fun σ108 H locs eσ108 hP hS => ?_)
                      refine jald hx hb hK hP (jc_10 cI cL ad σ108 τ) (jin tx83 (by omega) (by omega)) dX7_number_56 ?_
                      refine jtopr (y := (σ 10 x83.toNatClampNeg)) (by rw [jnp 10 eσ108 (by decide), jnp 10 eσ84 (by decide), jnp 10 eσ60 (by decide), jnp 10 eσ37 (by decide)]) ?_
                      have g109 := jrg (rfl : (σ 10 x83.toNatClampNeg).toInt = (σ 10 x83.toNatClampNeg).toInt)
                      refine lv_iadd hx hb dX7_number_57 ?_
                      refine lv_topi (fun x110 ex110 => ?_)
                      have tx110 : x110.toInt = 1000 * (σ 10 (σ 9 1).toNatClampNeg).toInt + 100 * (σ 10 x36.toNatClampNeg).toInt + 10 * (σ 10 x59.toNatClampNeg).toInt + (σ 10 x83.toNatClampNeg).toInt - 53280 := (jadd ex110 tx105 rfl (by omega) (by omega)).trans (by omega)
                      refine lv_bipush (v := 48) hx hb dX7_number_58 (by decide) ?_
                      refine lv_isub hx hb dX7_number_60 ?_
                      refine lv_topi (fun x111 ex111 => ?_)
                      have tx111 : x111.toInt = 1000 * (σ 10 (σ 9 1).toNatClampNeg).toInt + 100 * (σ 10 x36.toNatClampNeg).toInt + 10 * (σ 10 x59.toNatClampNeg).toInt + (σ 10 x83.toNatClampNeg).toInt - 53328 := (jsub ex111 tx110 jz_48 (by omega) (by omega)).trans (by omega)
                      refine lv_istore_n (lv' := [(2, .int x111), (3, .int 3), (0, .ref (ad 9)), (1, .int 4)]) hx hb dX7_number_61 rfl hl (by decide) rfl (fun ls hl => ?_)
                      refine lv_iinc (v := 4) (lv' := [(3, .int 4), (2, .int x111), (0, .ref (ad 9)), (1, .int 4)]) hx hb dX7_number_62 hl (k := 1) rfl (by decide) (by decide) rfl (fun ls hl => ?_)
                      refine lv_goto (tgt := 22) hx hb dX7_number_65 (by decide) ?_
                      refine lv_iload_n hx hb dX7_number_22 rfl (lv_at hl 0 rfl) ?_
                      refine lv_iload_n hx hb dX7_number_23 rfl (lv_at hl 3 rfl) ?_
                      refine lv_icmp_ge (tgt := 68) hx hb dX7_number_24 (by decide) (fun _ => ?_) (fun c => absurd (by decide) c)
                      refine lv_iload_n hx hb dX7_number_68 rfl (lv_at hl 1 rfl) ?_
                      have I112 : jI9 σ108 := jI9_fr (jkp 0 eσ108 (by decide)) (jnp 10 eσ108 (by decide)) (jnp 11 eσ108 (by decide)) I88
                      have z113 : (σ108 9 1).toInt = (σ 9 1).toInt + 4 := ((congrArg Int32.toInt (show σ108 9 1 = x107 from (jsp eσ108))).trans tx107)
                      have z114 : (σ108 9 0).toInt = (σ 9 0).toInt := (congrArg Int32.toInt (show σ108 9 0 = (σ 9 0) from ((jkp 0 eσ108 (by decide)).trans ((jkp 0 eσ84 (by decide)).trans ((jkp 0 eσ60 (by decide)).trans (jkp 0 eσ37 (by decide)))))))
                      have I115 : jI91 σ108 := ⟨(by omega), (by omega)⟩
                      have I116 : jI92 σ108 := jI92_fr ((jkp 2 eσ108 (by decide)).trans ((jkp 2 eσ84 (by decide)).trans ((jkp 2 eσ60 (by decide)).trans (jkp 2 eσ37 (by decide))))) hI92
                      have z117 : (σ108 9 2).toInt = (σ 9 2).toInt := (congrArg Int32.toInt (show σ108 9 2 = (σ 9 2) from ((jkp 2 eσ108 (by decide)).trans ((jkp 2 eσ84 (by decide)).trans ((jkp 2 eσ60 (by decide)).trans (jkp 2 eσ37 (by decide)))))))
                      exact hret x111 σ108 τ _ _ _ _ rfl ⟨rfl, (fun i hi => ((jnp i eσ108 (imp_39 i hi)).trans ((jnp i eσ84 (imp_39 i hi)).trans ((jnp i eσ60 (imp_39 i hi)).trans (jnp i eσ37 (imp_39 i hi)))))), (fun i hi => ((jkp i eσ108 (imp_41 i hi)).trans ((jkp i eσ84 (imp_41 i hi)).trans ((jkp i eσ60 (imp_41 i hi)).trans (jkp i eσ37 (imp_41 i hi)))))), I112, I115, I116, (by omega), ⟨trivial, (by have h9 := tx111; omega)⟩⟩ hP hS dX7_number_69
                    · obtain ⟨q119, k118⟩ := h102
                      have q119 := q119.symm
                      subst q119
                      refine lv_if_eq (tgt := 68) hx hb dX7_number_34 (by decide) (fun _ => ?_) (fun c => absurd (by decide) c)
                      refine lv_iload_n hx hb dX7_number_68 rfl (lv_at hl 1 rfl) ?_
                      have I120 : jI91 σ84 := ⟨(by omega), (by omega)⟩
                      have I121 : jI92 σ84 := jI92_fr ((jkp 2 eσ84 (by decide)).trans ((jkp 2 eσ60 (by decide)).trans (jkp 2 eσ37 (by decide)))) hI92
                      have z122 : (σ84 9 2).toInt = (σ 9 2).toInt := (congrArg Int32.toInt (show σ84 9 2 = (σ 9 2) from ((jkp 2 eσ84 (by decide)).trans ((jkp 2 eσ60 (by decide)).trans (jkp 2 eσ37 (by decide))))))
                      exact hret x87 σ84 τ _ _ _ _ rfl ⟨rfl, (fun i hi => ((jnp i eσ84 (imp_39 i hi)).trans ((jnp i eσ60 (imp_39 i hi)).trans (jnp i eσ37 (imp_39 i hi))))), (fun i hi => ((jkp i eσ84 (imp_41 i hi)).trans ((jkp i eσ60 (imp_41 i hi)).trans (jkp i eσ37 (imp_41 i hi))))), I88, I120, I121, (by omega), ⟨trivial, (by have h9 := tx87; omega)⟩⟩ hP hS dX7_number_69
                  · obtain ⟨q124, k123⟩ := h94
                    have q124 := q124.symm
                    subst q124
                    refine jcallS (As := [.int (-1)]) (rest := []) ⟨hx, hb, hml, hown, hts⟩ hK hP hA hS hZ (c_X7_isDigit l D cI cL ad zz hJ σ84 τ (-1) ((-1)) jz_m1) cw_RX7_39 ⟨Nat.le_of_ble_eq_true rfl, Nat.le_of_ble_eq_true rfl⟩ rfl rfl rfl hl.1 rfl (Nat.le_of_ble_eq_true rfl) dX7_number_31 ⟨Nat.zero_le _, Nat.zero_le _⟩ (fun r126 σ125 τ125 H locs h125 hP hS => ?_)
                    obtain ⟨⟨rfl, rfl⟩, h125⟩ := h125
                    rcases h125 with h127 | h128
                    · obtain ⟨q130, k129⟩ := h127
                      exact absurd (by omega : False) id
                    · obtain ⟨q132, k131⟩ := h128
                      have q132 := q132.symm
                      subst q132
                      refine lv_if_eq (tgt := 68) hx hb dX7_number_34 (by decide) (fun _ => ?_) (fun c => absurd (by decide) c)
                      refine lv_iload_n hx hb dX7_number_68 rfl (lv_at hl 1 rfl) ?_
                      have I133 : jI91 σ84 := ⟨(by omega), (by omega)⟩
                      have I134 : jI92 σ84 := jI92_fr ((jkp 2 eσ84 (by decide)).trans ((jkp 2 eσ60 (by decide)).trans (jkp 2 eσ37 (by decide)))) hI92
                      have z135 : (σ84 9 2).toInt = (σ 9 2).toInt := (congrArg Int32.toInt (show σ84 9 2 = (σ 9 2) from ((jkp 2 eσ84 (by decide)).trans ((jkp 2 eσ60 (by decide)).trans (jkp 2 eσ37 (by decide))))))
                      exact hret x87 σ84 τ _ _ _ _ rfl ⟨rfl, (fun i hi => ((jnp i eσ84 (imp_39 i hi)).trans ((jnp i eσ60 (imp_39 i hi)).trans (jnp i eσ37 (imp_39 i hi))))), (fun i hi => ((jkp i eσ84 (imp_41 i hi)).trans ((jkp i eσ60 (imp_41 i hi)).trans (jkp i eσ37 (imp_41 i hi))))), I88, I133, I134, (by omega), ⟨trivial, (by have h9 := tx87; omega)⟩⟩ hP hS dX7_number_69
                · obtain ⟨q137, k136⟩ := h78
                  have q137 := q137.symm
                  subst q137
                  refine lv_if_eq (tgt := 68) hx hb dX7_number_34 (by decide) (fun _ => ?_) (fun c => absurd (by decide) c)
                  refine lv_iload_n hx hb dX7_number_68 rfl (lv_at hl 1 rfl) ?_
                  have I138 : jI91 σ60 := ⟨(by omega), (by omega)⟩
                  have I139 : jI92 σ60 := jI92_fr ((jkp 2 eσ60 (by decide)).trans (jkp 2 eσ37 (by decide))) hI92
                  have z140 : (σ60 9 2).toInt = (σ 9 2).toInt := (congrArg Int32.toInt (show σ60 9 2 = (σ 9 2) from ((jkp 2 eσ60 (by decide)).trans (jkp 2 eσ37 (by decide)))))
                  exact hret x63 σ60 τ _ _ _ _ rfl ⟨rfl, (fun i hi => ((jnp i eσ60 (imp_39 i hi)).trans (jnp i eσ37 (imp_39 i hi)))), (fun i hi => ((jkp i eσ60 (imp_41 i hi)).trans (jkp i eσ37 (imp_41 i hi)))), I64, I138, I139, (by omega), ⟨trivial, (by have h9 := tx63; omega)⟩⟩ hP hS dX7_number_69
              · obtain ⟨q142, k141⟩ := h70
                have q142 := q142.symm
                subst q142
                refine jcallS (As := [.int (-1)]) (rest := []) ⟨hx, hb, hml, hown, hts⟩ hK hP hA hS hZ (c_X7_isDigit l D cI cL ad zz hJ σ60 τ (-1) ((-1)) jz_m1) cw_RX7_39 ⟨Nat.le_of_ble_eq_true rfl, Nat.le_of_ble_eq_true rfl⟩ rfl rfl rfl hl.1 rfl (Nat.le_of_ble_eq_true rfl) dX7_number_31 ⟨Nat.zero_le _, Nat.zero_le _⟩ (fun r144 σ143 τ143 H locs h143 hP hS => ?_)
                obtain ⟨⟨rfl, rfl⟩, h143⟩ := h143
                rcases h143 with h145 | h146
                · obtain ⟨q148, k147⟩ := h145
                  exact absurd (by omega : False) id
                · obtain ⟨q150, k149⟩ := h146
                  have q150 := q150.symm
                  subst q150
                  refine lv_if_eq (tgt := 68) hx hb dX7_number_34 (by decide) (fun _ => ?_) (fun c => absurd (by decide) c)
                  refine lv_iload_n hx hb dX7_number_68 rfl (lv_at hl 1 rfl) ?_
                  have I151 : jI91 σ60 := ⟨(by omega), (by omega)⟩
                  have I152 : jI92 σ60 := jI92_fr ((jkp 2 eσ60 (by decide)).trans (jkp 2 eσ37 (by decide))) hI92
                  have z153 : (σ60 9 2).toInt = (σ 9 2).toInt := (congrArg Int32.toInt (show σ60 9 2 = (σ 9 2) from ((jkp 2 eσ60 (by decide)).trans (jkp 2 eσ37 (by decide)))))
                  exact hret x63 σ60 τ _ _ _ _ rfl ⟨rfl, (fun i hi => ((jnp i eσ60 (imp_39 i hi)).trans (jnp i eσ37 (imp_39 i hi)))), (fun i hi => ((jkp i eσ60 (imp_41 i hi)).trans (jkp i eσ37 (imp_41 i hi)))), I64, I151, I152, (by omega), ⟨trivial, (by have h9 := tx63; omega)⟩⟩ hP hS dX7_number_69
            · obtain ⟨q155, k154⟩ := h54
              have q155 := q155.symm
              subst q155
              refine lv_if_eq (tgt := 68) hx hb dX7_number_34 (by decide) (fun _ => ?_) (fun c => absurd (by decide) c)
              refine lv_iload_n hx hb dX7_number_68 rfl (lv_at hl 1 rfl) ?_
              have I156 : jI91 σ37 := ⟨(by omega), (by omega)⟩
              have I157 : jI92 σ37 := jI92_fr (jkp 2 eσ37 (by decide)) hI92
              have z158 : (σ37 9 2).toInt = (σ 9 2).toInt := (congrArg Int32.toInt (show σ37 9 2 = (σ 9 2) from (jkp 2 eσ37 (by decide))))
              exact hret x39 σ37 τ _ _ _ _ rfl ⟨rfl, (fun i hi => (jnp i eσ37 (imp_39 i hi))), (fun i hi => (jkp i eσ37 (imp_41 i hi))), I40, I156, I157, (by omega), ⟨trivial, (by have h9 := tx39; omega)⟩⟩ hP hS dX7_number_69
          · obtain ⟨q160, k159⟩ := h46
            have q160 := q160.symm
            subst q160
            refine jcallS (As := [.int (-1)]) (rest := []) ⟨hx, hb, hml, hown, hts⟩ hK hP hA hS hZ (c_X7_isDigit l D cI cL ad zz hJ σ37 τ (-1) ((-1)) jz_m1) cw_RX7_39 ⟨Nat.le_of_ble_eq_true rfl, Nat.le_of_ble_eq_true rfl⟩ rfl rfl rfl hl.1 rfl (Nat.le_of_ble_eq_true rfl) dX7_number_31 ⟨Nat.zero_le _, Nat.zero_le _⟩ (fun r162 σ161 τ161 H locs h161 hP hS => ?_)
            obtain ⟨⟨rfl, rfl⟩, h161⟩ := h161
            rcases h161 with h163 | h164
            · obtain ⟨q166, k165⟩ := h163
              exact absurd (by omega : False) id
            · obtain ⟨q168, k167⟩ := h164
              have q168 := q168.symm
              subst q168
              refine lv_if_eq (tgt := 68) hx hb dX7_number_34 (by decide) (fun _ => ?_) (fun c => absurd (by decide) c)
              refine lv_iload_n hx hb dX7_number_68 rfl (lv_at hl 1 rfl) ?_
              have I169 : jI91 σ37 := ⟨(by omega), (by omega)⟩
              have I170 : jI92 σ37 := jI92_fr (jkp 2 eσ37 (by decide)) hI92
              have z171 : (σ37 9 2).toInt = (σ 9 2).toInt := (congrArg Int32.toInt (show σ37 9 2 = (σ 9 2) from (jkp 2 eσ37 (by decide))))
              exact hret x39 σ37 τ _ _ _ _ rfl ⟨rfl, (fun i hi => (jnp i eσ37 (imp_39 i hi))), (fun i hi => (jkp i eσ37 (imp_41 i hi))), I40, I169, I170, (by omega), ⟨trivial, (by have h9 := tx39; omega)⟩⟩ hP hS dX7_number_69
        · obtain ⟨q173, k172⟩ := h32
          exact absurd (by omega : False) id
      · obtain ⟨q175, k174⟩ := h24
        exact absurd (by omega : False) id
    · obtain ⟨q177, k176⟩ := h18
      have q177 := q177.symm
      subst q177
      refine lv_if_ne (tgt := 18) hx hb dX7_number_7 (by decide) (fun c => absurd (by decide) c) (fun _ => ?_)
      refine lv_aload_n hx hb dX7_number_10 rfl (lv_at hl 0 rfl) ?_
      refine lv_aload_n hx hb dX7_number_11 rfl (lv_at hl 0 rfl) ?_
      refine va_get (D := D) hx hb hts inlX7 hown hK hP 9 (jc_9 cI cL ad σ τ) rfl 1 (by decide) (hts _ kw_13_17) (fun _ h9 => h9) rfl dX7_number_12 ?_
      refine jcallVv (As := [.int (σ 9 1)]) (rest := []) ⟨hx, hb, hml, hown, hts⟩ hK hP hA hS hZ (c_X7_fail_9 l D cI cL ad zz hJ σ τ (σ 9 1) ((σ 9 1).toInt) rfl hI92 (by omega)) cw_RX7_43 (jc_9 cI cL ad σ τ) rfl ⟨Nat.le_of_ble_eq_true rfl, Nat.le_of_ble_eq_true rfl⟩ rfl rfl rfl hl.1 rfl (Nat.le_of_ble_eq_true rfl) dX7_number_15 ⟨Nat.zero_le _, Nat.zero_le _⟩ (fun σ178 τ178 H locs h178 hP hS => ?_)
      obtain ⟨rfl, f180, f181, h178⟩ := h178
      obtain ⟨k182, h178⟩ := h178
      refine lv_iconst (v := 0) hx hb dX7_number_18 (by decide) ?_
      refine lv_istore_n (lv' := [(2, .int 0), (0, .ref (ad 9)), (1, .int 4)]) hx hb dX7_number_19 rfl hl (by decide) rfl (fun ls hl => ?_)
      refine lv_iconst (v := 0) hx hb dX7_number_20 (by decide) ?_
      refine lv_istore_n (lv' := [(3, .int 0), (2, .int 0), (0, .ref (ad 9)), (1, .int 4)]) hx hb dX7_number_21 rfl hl (by decide) rfl (fun ls hl => ?_)
      refine lv_iload_n hx hb dX7_number_22 rfl (lv_at hl 0 rfl) ?_
      refine lv_iload_n hx hb dX7_number_23 rfl (lv_at hl 3 rfl) ?_
      refine lv_icmp_ge (tgt := 68) hx hb dX7_number_24 (by decide) (fun c => absurd c (by decide)) (fun _ => ?_)
      refine lv_aload_n hx hb dX7_number_27 rfl (lv_at hl 2 rfl) ?_
      have I183 : jI9 σ178 := jI9_fr (f181 0 (by decide)) (f180 10 (by decide)) (f180 11 (by decide)) hI9
      have z184 : (σ178 9 1).toInt = (σ 9 1).toInt := (congrArg Int32.toInt (show σ178 9 1 = (σ 9 1) from (f181 1 (by decide))))
      have z185 : (σ178 9 0).toInt = (σ 9 0).toInt := (congrArg Int32.toInt (show σ178 9 0 = (σ 9 0) from (f181 0 (by decide))))
      refine jcallV (As := []) (rest := []) ⟨hx, hb, hml, hown, hts⟩ hK hP hA hS hZ (c_X7_sign_9 l D cI cL ad zz hJ σ178 τ I183) cw_RX7_35 (jc_9 cI cL ad σ178 τ) rfl ⟨Nat.le_of_ble_eq_true rfl, Nat.le_of_ble_eq_true rfl⟩ rfl rfl rfl hl.1 rfl (Nat.le_of_ble_eq_true rfl) dX7_number_28 ⟨Nat.zero_le _, Nat.zero_le _⟩ (fun r187 σ186 τ186 H locs h186 hP hS => ?_)
      obtain ⟨⟨rfl, rfl⟩, h186⟩ := h186
      rcases h186 with h188 | h189
      · obtain ⟨q192, k190, k191⟩ := h188
        have q193 : r187 = (σ 10 (σ 9 1).toNatClampNeg) := q192.trans (by rw [(show σ178 9 1 = (σ 9 1) from (f181 1 (by decide))), f180 10 (by decide)])
        have q193e : (σ178 10 (σ178 9 1).toNatClampNeg).toInt = (σ 10 (σ 9 1).toNatClampNeg).toInt := by rw [← q192, ← q193]
        have q193 := q193.symm
        subst q193
        refine jcallS (As := [.int (σ 10 (σ 9 1).toNatClampNeg)]) (rest := []) ⟨hx, hb, hml, hown, hts⟩ hK hP hA hS hZ (c_X7_isDigit l D cI cL ad zz hJ σ178 τ (σ 10 (σ 9 1).toNatClampNeg) ((σ 10 (σ 9 1).toNatClampNeg).toInt) rfl) cw_RX7_39 ⟨Nat.le_of_ble_eq_true rfl, Nat.le_of_ble_eq_true rfl⟩ rfl rfl rfl hl.1 rfl (Nat.le_of_ble_eq_true rfl) dX7_number_31 ⟨Nat.zero_le _, Nat.zero_le _⟩ (fun r195 σ194 τ194 H locs h194 hP hS => ?_)
        obtain ⟨⟨rfl, rfl⟩, h194⟩ := h194
        rcases h194 with h196 | h197
        · obtain ⟨q199, k198⟩ := h196
          exact absurd (by omega : False) id
        · obtain ⟨q201, k200⟩ := h197
          have q201 := q201.symm
          subst q201
          refine lv_if_eq (tgt := 68) hx hb dX7_number_34 (by decide) (fun _ => ?_) (fun c => absurd (by decide) c)
          refine lv_iload_n hx hb dX7_number_68 rfl (lv_at hl 1 rfl) ?_
          have I202 : jI91 σ178 := jI91_fr (f181 0 (by decide)) (f181 1 (by decide)) hI91
          have I203 : jI92 σ178 := (show (-1) ≤ (σ178 9 2).toInt by omega)
          exact hret 0 σ178 τ _ _ _ _ rfl ⟨rfl, (fun i hi => (f180 i hi)), (fun i hi => (f181 i (imp_45 i hi))), I183, I202, I203, (by omega), ⟨trivial, (by have h9 := jz_0; omega)⟩⟩ hP hS dX7_number_69
      · obtain ⟨q205, k204⟩ := h189
        have q205 := q205.symm
        subst q205
        refine jcallS (As := [.int (-1)]) (rest := []) ⟨hx, hb, hml, hown, hts⟩ hK hP hA hS hZ (c_X7_isDigit l D cI cL ad zz hJ σ178 τ (-1) ((-1)) jz_m1) cw_RX7_39 ⟨Nat.le_of_ble_eq_true rfl, Nat.le_of_ble_eq_true rfl⟩ rfl rfl rfl hl.1 rfl (Nat.le_of_ble_eq_true rfl) dX7_number_31 ⟨Nat.zero_le _, Nat.zero_le _⟩ (fun r207 σ206 τ206 H locs h206 hP hS => ?_)
        obtain ⟨⟨rfl, rfl⟩, h206⟩ := h206
        rcases h206 with h208 | h209
        · obtain ⟨q211, k210⟩ := h208
          exact absurd (by omega : False) id
        · obtain ⟨q213, k212⟩ := h209
          have q213 := q213.symm
          subst q213
          refine lv_if_eq (tgt := 68) hx hb dX7_number_34 (by decide) (fun _ => ?_) (fun c => absurd (by decide) c)
          refine lv_iload_n hx hb dX7_number_68 rfl (lv_at hl 1 rfl) ?_
          have I214 : jI91 σ178 := jI91_fr (f181 0 (by decide)) (f181 1 (by decide)) hI91
          have I215 : jI92 σ178 := (show (-1) ≤ (σ178 9 2).toInt by omega)
          exact hret 0 σ178 τ _ _ _ _ rfl ⟨rfl, (fun i hi => (f180 i hi)), (fun i hi => (f181 i (imp_45 i hi))), I183, I214, I215, (by omega), ⟨trivial, (by have h9 := jz_0; omega)⟩⟩ hP hS dX7_number_69
  · obtain ⟨q217, k216⟩ := h10
    have q217 := q217.symm
    subst q217
    refine jcallS (As := [.int (-1)]) (rest := []) ⟨hx, hb, hml, hown, hts⟩ hK hP hA hS hZ (c_X7_isDigit l D cI cL ad zz hJ σ τ (-1) ((-1)) jz_m1) cw_RX7_39 ⟨Nat.le_of_ble_eq_true rfl, Nat.le_of_ble_eq_true rfl⟩ rfl rfl rfl hl.1 rfl (Nat.le_of_ble_eq_true rfl) dX7_number_4 ⟨Nat.zero_le _, Nat.zero_le _⟩ (fun r219 σ218 τ218 H locs h218 hP hS => ?_)
    obtain ⟨⟨rfl, rfl⟩, h218⟩ := h218
    rcases h218 with h220 | h221
    · obtain ⟨q223, k222⟩ := h220
      exact absurd (by omega : False) id
    · obtain ⟨q225, k224⟩ := h221
      have q225 := q225.symm
      subst q225
      refine lv_if_ne (tgt := 18) hx hb dX7_number_7 (by decide) (fun c => absurd (by decide) c) (fun _ => ?_)
      refine lv_aload_n hx hb dX7_number_10 rfl (lv_at hl 0 rfl) ?_
      refine lv_aload_n hx hb dX7_number_11 rfl (lv_at hl 0 rfl) ?_
      refine va_get (D := D) hx hb hts inlX7 hown hK hP 9 (jc_9 cI cL ad σ τ) rfl 1 (by decide) (hts _ kw_13_17) (fun _ h9 => h9) rfl dX7_number_12 ?_
      refine jcallVv (As := [.int (σ 9 1)]) (rest := []) ⟨hx, hb, hml, hown, hts⟩ hK hP hA hS hZ (c_X7_fail_9 l D cI cL ad zz hJ σ τ (σ 9 1) ((σ 9 1).toInt) rfl hI92 (by omega)) cw_RX7_43 (jc_9 cI cL ad σ τ) rfl ⟨Nat.le_of_ble_eq_true rfl, Nat.le_of_ble_eq_true rfl⟩ rfl rfl rfl hl.1 rfl (Nat.le_of_ble_eq_true rfl) dX7_number_15 ⟨Nat.zero_le _, Nat.zero_le _⟩ (fun σ226 τ226 H locs h226 hP hS => ?_)
      obtain ⟨rfl, f228, f229, h226⟩ := h226
      obtain ⟨k230, h226⟩ := h226
      refine lv_iconst (v := 0) hx hb dX7_number_18 (by decide) ?_
      refine lv_istore_n (lv' := [(2, .int 0), (0, .ref (ad 9)), (1, .int 4)]) hx hb dX7_number_19 rfl hl (by decide) rfl (fun ls hl => ?_)
      refine lv_iconst (v := 0) hx hb dX7_number_20 (by decide) ?_
      refine lv_istore_n (lv' := [(3, .int 0), (2, .int 0), (0, .ref (ad 9)), (1, .int 4)]) hx hb dX7_number_21 rfl hl (by decide) rfl (fun ls hl => ?_)
      refine lv_iload_n hx hb dX7_number_22 rfl (lv_at hl 0 rfl) ?_
      refine lv_iload_n hx hb dX7_number_23 rfl (lv_at hl 3 rfl) ?_
      refine lv_icmp_ge (tgt := 68) hx hb dX7_number_24 (by decide) (fun c => absurd c (by decide)) (fun _ => ?_)
      refine lv_aload_n hx hb dX7_number_27 rfl (lv_at hl 2 rfl) ?_
      have I231 : jI9 σ226 := jI9_fr (f229 0 (by decide)) (f228 10 (by decide)) (f228 11 (by decide)) hI9
      have z232 : (σ226 9 1).toInt = (σ 9 1).toInt := (congrArg Int32.toInt (show σ226 9 1 = (σ 9 1) from (f229 1 (by decide))))
      have z233 : (σ226 9 0).toInt = (σ 9 0).toInt := (congrArg Int32.toInt (show σ226 9 0 = (σ 9 0) from (f229 0 (by decide))))
      refine jcallV (As := []) (rest := []) ⟨hx, hb, hml, hown, hts⟩ hK hP hA hS hZ (c_X7_sign_9 l D cI cL ad zz hJ σ226 τ I231) cw_RX7_35 (jc_9 cI cL ad σ226 τ) rfl ⟨Nat.le_of_ble_eq_true rfl, Nat.le_of_ble_eq_true rfl⟩ rfl rfl rfl hl.1 rfl (Nat.le_of_ble_eq_true rfl) dX7_number_28 ⟨Nat.zero_le _, Nat.zero_le _⟩ (fun r235 σ234 τ234 H locs h234 hP hS => ?_)
      obtain ⟨⟨rfl, rfl⟩, h234⟩ := h234
      rcases h234 with h236 | h237
      · obtain ⟨q240, k238, k239⟩ := h236
        have q241 : r235 = (σ 10 (σ 9 1).toNatClampNeg) := q240.trans (by rw [(show σ226 9 1 = (σ 9 1) from (f229 1 (by decide))), f228 10 (by decide)])
        have q241e : (σ226 10 (σ226 9 1).toNatClampNeg).toInt = (σ 10 (σ 9 1).toNatClampNeg).toInt := by rw [← q240, ← q241]
        have q241 := q241.symm
        subst q241
        refine jcallS (As := [.int (σ 10 (σ 9 1).toNatClampNeg)]) (rest := []) ⟨hx, hb, hml, hown, hts⟩ hK hP hA hS hZ (c_X7_isDigit l D cI cL ad zz hJ σ226 τ (σ 10 (σ 9 1).toNatClampNeg) ((σ 10 (σ 9 1).toNatClampNeg).toInt) rfl) cw_RX7_39 ⟨Nat.le_of_ble_eq_true rfl, Nat.le_of_ble_eq_true rfl⟩ rfl rfl rfl hl.1 rfl (Nat.le_of_ble_eq_true rfl) dX7_number_31 ⟨Nat.zero_le _, Nat.zero_le _⟩ (fun r243 σ242 τ242 H locs h242 hP hS => ?_)
        obtain ⟨⟨rfl, rfl⟩, h242⟩ := h242
        rcases h242 with h244 | h245
        · obtain ⟨q247, k246⟩ := h244
          have q247 := q247.symm
          subst q247
          refine lv_if_eq (tgt := 68) hx hb dX7_number_34 (by decide) (fun c => absurd c (by decide)) (fun _ => ?_)
          refine lv_iload_n hx hb dX7_number_37 rfl (lv_at hl 1 rfl) ?_
          refine lv_bipush (v := 10) hx hb dX7_number_38 (by decide) ?_
          refine lv_imul hx hb dX7_number_40 ?_
          refine jtopr (y := 0) (by decide) ?_
          refine lv_aload_n hx hb dX7_number_41 rfl (lv_at hl 2 rfl) ?_
          refine va_get (D := D) hx hb hts inlX7 hown hK hP 9 (jc_9 cI cL ad σ226 τ) rfl 3 (by decide) (hts _ kw_3_20) (fun _ h9 => h9) rfl dX7_number_42 ?_
          refine lv_aload_n hx hb dX7_number_45 rfl (lv_at hl 2 rfl) ?_
          refine lv_dup hx hb dX7_number_46 rfl ?_
          refine va_get (D := D) hx hb hts inlX7 hown hK hP 9 (jc_9 cI cL ad σ226 τ) rfl 1 (by decide) (hts _ kw_13_17) (fun _ h9 => h9) rfl dX7_number_47 ?_
          have m248 : σ226 9 1 = (σ 9 1) := (f229 1 (by decide))
          refine jtopr m248 ?_
          refine lv_dup_x1 hx hb dX7_number_50 rfl rfl ?_
          refine lv_iconst (v := 1) hx hb dX7_number_51 (by decide) ?_
          have g249 := jrg (rfl : (σ 9 1).toInt = (σ 9 1).toInt)
          refine lv_iadd hx hb dX7_number_52 ?_
          refine lv_topi (fun x250 ex250 => ?_)
          have tx250 : x250.toInt = (σ 9 1).toInt + 1 := (jadd ex250 rfl jz_1 (by omega) (by omega)).trans (by omega)
          refine jput (ty := .int) hx hb hts inlX7 tyX7 tyX7_ok nmX7 hown hK hP hJ hA hS (jc_9 cI cL ad σ226 τ) rfl (k := 1) (by decide) (Nat.le_of_ble_eq_true rfl) (jp_9_1 cI cL ad σ226 τ x250) (hts _ kw_13_17) (fun _ h9 => h9) rfl (by decide +kernel) rfl rfl dX7_number_53 (fun σ251 H locs eσ251 hP hS => ?_)
          refine jald hx hb hK hP (jc_10 cI cL ad σ251 τ) (jin rfl (by omega) (by omega)) dX7_number_56 ?_
          refine jtopr (y := (σ 10 (σ 9 1).toNatClampNeg)) (by rw [jnp 10 eσ251 (by decide), f228 10 (by decide)]) ?_
          refine lv_iadd hx hb dX7_number_57 ?_
          refine jtopr (y := (σ 10 (σ 9 1).toNatClampNeg)) (by rw [Int32.zero_add]) ?_
          refine lv_bipush (v := 48) hx hb dX7_number_58 (by decide) ?_
          have g252 := jrg (rfl : (σ 10 (σ 9 1).toNatClampNeg).toInt = (σ 10 (σ 9 1).toNatClampNeg).toInt)
          refine lv_isub hx hb dX7_number_60 ?_
          refine lv_topi (fun x253 ex253 => ?_)
          have tx253 : x253.toInt = (σ 10 (σ 9 1).toNatClampNeg).toInt - 48 := (jsub ex253 rfl jz_48 (by omega) (by omega)).trans (by omega)
          refine lv_istore_n (lv' := [(2, .int x253), (3, .int 0), (0, .ref (ad 9)), (1, .int 4)]) hx hb dX7_number_61 rfl hl (by decide) rfl (fun ls hl => ?_)
          refine lv_iinc (v := 1) (lv' := [(3, .int 1), (2, .int x253), (0, .ref (ad 9)), (1, .int 4)]) hx hb dX7_number_62 hl (k := 1) rfl (by decide) (by decide) rfl (fun ls hl => ?_)
          refine lv_goto (tgt := 22) hx hb dX7_number_65 (by decide) ?_
          refine lv_iload_n hx hb dX7_number_22 rfl (lv_at hl 0 rfl) ?_
          refine lv_iload_n hx hb dX7_number_23 rfl (lv_at hl 3 rfl) ?_
          refine lv_icmp_ge (tgt := 68) hx hb dX7_number_24 (by decide) (fun c => absurd c (by decide)) (fun _ => ?_)
          refine lv_aload_n hx hb dX7_number_27 rfl (lv_at hl 2 rfl) ?_
          have I254 : jI9 σ251 := jI9_fr (jkp 0 eσ251 (by decide)) (jnp 10 eσ251 (by decide)) (jnp 11 eσ251 (by decide)) I231
          have z255 : (σ251 9 1).toInt = (σ 9 1).toInt + 1 := ((congrArg Int32.toInt (show σ251 9 1 = x250 from (jsp eσ251))).trans tx250)
          have z256 : (σ251 9 0).toInt = (σ 9 0).toInt := (congrArg Int32.toInt (show σ251 9 0 = (σ 9 0) from ((jkp 0 eσ251 (by decide)).trans (f229 0 (by decide)))))
          refine jcallV (As := []) (rest := []) ⟨hx, hb, hml, hown, hts⟩ hK hP hA hS hZ (c_X7_sign_9 l D cI cL ad zz hJ σ251 τ I254) cw_RX7_35 (jc_9 cI cL ad σ251 τ) rfl ⟨Nat.le_of_ble_eq_true rfl, Nat.le_of_ble_eq_true rfl⟩ rfl rfl rfl hl.1 rfl (Nat.le_of_ble_eq_true rfl) dX7_number_28 ⟨Nat.zero_le _, Nat.zero_le _⟩ (fun r258 σ257 τ257 H locs h257 hP hS => ?_)
          obtain ⟨⟨rfl, rfl⟩, h257⟩ := h257
          rcases h257 with h259 | h260
          · obtain ⟨q263, k261, k262⟩ := h259
            exact absurd (by omega : False) id
          · obtain ⟨q265, k264⟩ := h260
            have q265 := q265.symm
            subst q265
            refine jcallS (As := [.int (-1)]) (rest := []) ⟨hx, hb, hml, hown, hts⟩ hK hP hA hS hZ (c_X7_isDigit l D cI cL ad zz hJ σ251 τ (-1) ((-1)) jz_m1) cw_RX7_39 ⟨Nat.le_of_ble_eq_true rfl, Nat.le_of_ble_eq_true rfl⟩ rfl rfl rfl hl.1 rfl (Nat.le_of_ble_eq_true rfl) dX7_number_31 ⟨Nat.zero_le _, Nat.zero_le _⟩ (fun r267 σ266 τ266 H locs h266 hP hS => ?_)
            obtain ⟨⟨rfl, rfl⟩, h266⟩ := h266
            rcases h266 with h268 | h269
            · obtain ⟨q271, k270⟩ := h268
              exact absurd (by omega : False) id
            · obtain ⟨q273, k272⟩ := h269
              have q273 := q273.symm
              subst q273
              refine lv_if_eq (tgt := 68) hx hb dX7_number_34 (by decide) (fun _ => ?_) (fun c => absurd (by decide) c)
              refine lv_iload_n hx hb dX7_number_68 rfl (lv_at hl 1 rfl) ?_
              have I274 : jI91 σ251 := ⟨(by omega), (by omega)⟩
              have z275 : (σ251 9 2).toInt = (σ226 9 2).toInt := (congrArg Int32.toInt (show σ251 9 2 = (σ226 9 2) from (jkp 2 eσ251 (by decide))))
              have I276 : jI92 σ251 := (show (-1) ≤ (σ251 9 2).toInt by omega)
              exact hret x253 σ251 τ _ _ _ _ rfl ⟨rfl, (fun i hi => ((jnp i eσ251 (imp_39 i hi)).trans (f228 i hi))), (fun i hi => ((jkp i eσ251 (imp_41 i hi)).trans (f229 i (imp_45 i hi)))), I254, I274, I276, (by omega), ⟨trivial, (by have h9 := tx253; omega)⟩⟩ hP hS dX7_number_69
        · obtain ⟨q278, k277⟩ := h245
          have q278 := q278.symm
          subst q278
          refine lv_if_eq (tgt := 68) hx hb dX7_number_34 (by decide) (fun _ => ?_) (fun c => absurd (by decide) c)
          refine lv_iload_n hx hb dX7_number_68 rfl (lv_at hl 1 rfl) ?_
          have I279 : jI91 σ226 := jI91_fr (f229 0 (by decide)) (f229 1 (by decide)) hI91
          have I280 : jI92 σ226 := (show (-1) ≤ (σ226 9 2).toInt by omega)
          exact hret 0 σ226 τ _ _ _ _ rfl ⟨rfl, (fun i hi => (f228 i hi)), (fun i hi => (f229 i (imp_45 i hi))), I231, I279, I280, (by omega), ⟨trivial, (by have h9 := jz_0; omega)⟩⟩ hP hS dX7_number_69
      · obtain ⟨q282, k281⟩ := h237
        have q282 := q282.symm
        subst q282
        refine jcallS (As := [.int (-1)]) (rest := []) ⟨hx, hb, hml, hown, hts⟩ hK hP hA hS hZ (c_X7_isDigit l D cI cL ad zz hJ σ226 τ (-1) ((-1)) jz_m1) cw_RX7_39 ⟨Nat.le_of_ble_eq_true rfl, Nat.le_of_ble_eq_true rfl⟩ rfl rfl rfl hl.1 rfl (Nat.le_of_ble_eq_true rfl) dX7_number_31 ⟨Nat.zero_le _, Nat.zero_le _⟩ (fun r284 σ283 τ283 H locs h283 hP hS => ?_)
        obtain ⟨⟨rfl, rfl⟩, h283⟩ := h283
        rcases h283 with h285 | h286
        · obtain ⟨q288, k287⟩ := h285
          exact absurd (by omega : False) id
        · obtain ⟨q290, k289⟩ := h286
          have q290 := q290.symm
          subst q290
          refine lv_if_eq (tgt := 68) hx hb dX7_number_34 (by decide) (fun _ => ?_) (fun c => absurd (by decide) c)
          refine lv_iload_n hx hb dX7_number_68 rfl (lv_at hl 1 rfl) ?_
          have I291 : jI91 σ226 := jI91_fr (f229 0 (by decide)) (f229 1 (by decide)) hI91
          have I292 : jI92 σ226 := (show (-1) ≤ (σ226 9 2).toInt by omega)
          exact hret 0 σ226 τ _ _ _ _ rfl ⟨rfl, (fun i hi => (f228 i hi)), (fun i hi => (f229 i (imp_45 i hi))), I231, I291, I292, (by omega), ⟨trivial, (by have h9 := jz_0; omega)⟩⟩ hP hS dX7_number_69
set_option maxHeartbeats 4000000 in
set_option maxRecDepth 100000 in
theorem c_X7_levelOf (l : Launch) (D : va_G) (cI cL : ClassId) (ad zz : Nat → Nat) (hJ : jD ad) (σ : Nat → Nat → Int32) (τ : Nat → Nat → Int64) (a1 : Int32) (A1 : Int) (t1 : a1.toInt = A1) : jM l yX7_levelOf cX7_levelOf 1 (some .int) ({ frames := 0, cells := 0, slots := 0, locals := 0 }) D cI cL ad zz [.int a1] σ τ (fun r σ' τ' => (σ = σ' ∧ τ = τ') ∧ ((r = 0 ∧ (A1 = 124)) ∨ (r = 1 ∧ (A1 = 38)) ∨ (r = 2 ∧ (A1 = 60)) ∨ (r = 2 ∧ (A1 = 61)) ∨ (r = 2 ∧ (A1 = 62)) ∨ (r = 3 ∧ (A1 = 43)) ∨ (r = 3 ∧ (A1 = 45)) ∨ (r = 4 ∧ (A1 = 42)) ∨ (r = 4 ∧ (A1 = 47)) ∨ (r = 4 ∧ (A1 = 37)) ∨ (r = 5 ∧ True))) := by
  refine jM.of hJ (by decide +kernel) (nt := .int) rfl (Nat.le_of_ble_eq_true rfl) ?_
  intro p e s m args below meth c Q ls hC hret hl hP
  obtain ⟨hx, hb, hr, hml, hown, hts, hK, -, hlocks, hZ⟩ := hC
  have hown : s.vm.findClass RX7 = some m.cls := hown
  have hS : va_S (jA ad) s.heap s.heap [] := va_S.rf
  have hA : ∀ q, jA ad q → jA ad q := fun _ h => h
  have hl : lv_has ls 1 [(0, .int a1)] := hl
  have g1 := jrg t1
  refine lv_iload_n hx hb dX7_levelOf_0 rfl (lv_at hl 0 rfl) ?_
  by_cases c1 : a1 = 37
  · have kc1 := jeq c1 t1 jz_37
    refine jtopr c1 ?_
    refine lv_lookup (off := 99) (tgt := 100) hx hb dX7_levelOf_1 (by decide) (by decide) (by decide) ?_
    refine lv_iconst (v := 4) hx hb dX7_levelOf_100 (by decide) ?_
    exact hret 4 σ τ _ _ _ _ rfl ⟨⟨rfl, rfl⟩, Or.inr (Or.inr (Or.inr (Or.inr (Or.inr (Or.inr (Or.inr (Or.inr (Or.inr (Or.inl ⟨rfl, (by have h9 := jz_4; omega)⟩)))))))))⟩ hP hS dX7_levelOf_101
  have kc1 := jne c1 t1 jz_37
  by_cases c2 : a1 = 38
  · have kc2 := jeq c2 t1 jz_38
    refine jtopr c2 ?_
    refine lv_lookup (off := 93) (tgt := 94) hx hb dX7_levelOf_1 (by decide) (by decide) (by decide) ?_
    refine lv_iconst (v := 1) hx hb dX7_levelOf_94 (by decide) ?_
    exact hret 1 σ τ _ _ _ _ rfl ⟨⟨rfl, rfl⟩, Or.inr (Or.inl ⟨rfl, (by have h9 := jz_1; omega)⟩)⟩ hP hS dX7_levelOf_95
  have kc2 := jne c2 t1 jz_38
  by_cases c3 : a1 = 42
  · have kc3 := jeq c3 t1 jz_42
    refine jtopr c3 ?_
    refine lv_lookup (off := 99) (tgt := 100) hx hb dX7_levelOf_1 (by decide) (by decide) (by decide) ?_
    refine lv_iconst (v := 4) hx hb dX7_levelOf_100 (by decide) ?_
    exact hret 4 σ τ _ _ _ _ rfl ⟨⟨rfl, rfl⟩, Or.inr (Or.inr (Or.inr (Or.inr (Or.inr (Or.inr (Or.inr (Or.inl ⟨rfl, (by have h9 := jz_4; omega)⟩)))))))⟩ hP hS dX7_levelOf_101
  have kc3 := jne c3 t1 jz_42
  by_cases c4 : a1 = 43
  · have kc4 := jeq c4 t1 jz_43
    refine jtopr c4 ?_
    refine lv_lookup (off := 97) (tgt := 98) hx hb dX7_levelOf_1 (by decide) (by decide) (by decide) ?_
    refine lv_iconst (v := 3) hx hb dX7_levelOf_98 (by decide) ?_
    exact hret 3 σ τ _ _ _ _ rfl ⟨⟨rfl, rfl⟩, Or.inr (Or.inr (Or.inr (Or.inr (Or.inr (Or.inl ⟨rfl, (by have h9 := jz_3; omega)⟩)))))⟩ hP hS dX7_levelOf_99
  have kc4 := jne c4 t1 jz_43
  by_cases c5 : a1 = 45
  · have kc5 := jeq c5 t1 jz_45
    refine jtopr c5 ?_
    refine lv_lookup (off := 97) (tgt := 98) hx hb dX7_levelOf_1 (by decide) (by decide) (by decide) ?_
    refine lv_iconst (v := 3) hx hb dX7_levelOf_98 (by decide) ?_
    exact hret 3 σ τ _ _ _ _ rfl ⟨⟨rfl, rfl⟩, Or.inr (Or.inr (Or.inr (Or.inr (Or.inr (Or.inr (Or.inl ⟨rfl, (by have h9 := jz_3; omega)⟩))))))⟩ hP hS dX7_levelOf_99
  have kc5 := jne c5 t1 jz_45
  by_cases c6 : a1 = 47
  · have kc6 := jeq c6 t1 jz_47
    refine jtopr c6 ?_
    refine lv_lookup (off := 99) (tgt := 100) hx hb dX7_levelOf_1 (by decide) (by decide) (by decide) ?_
    refine lv_iconst (v := 4) hx hb dX7_levelOf_100 (by decide) ?_
    exact hret 4 σ τ _ _ _ _ rfl ⟨⟨rfl, rfl⟩, Or.inr (Or.inr (Or.inr (Or.inr (Or.inr (Or.inr (Or.inr (Or.inr (Or.inl ⟨rfl, (by have h9 := jz_4; omega)⟩))))))))⟩ hP hS dX7_levelOf_101
  have kc6 := jne c6 t1 jz_47
  by_cases c7 : a1 = 60
  · have kc7 := jeq c7 t1 jz_60
    refine jtopr c7 ?_
    refine lv_lookup (off := 95) (tgt := 96) hx hb dX7_levelOf_1 (by decide) (by decide) (by decide) ?_
    refine lv_iconst (v := 2) hx hb dX7_levelOf_96 (by decide) ?_
    exact hret 2 σ τ _ _ _ _ rfl ⟨⟨rfl, rfl⟩, Or.inr (Or.inr (Or.inl ⟨rfl, (by have h9 := jz_2; omega)⟩))⟩ hP hS dX7_levelOf_97
  have kc7 := jne c7 t1 jz_60
  by_cases c8 : a1 = 61
  · have kc8 := jeq c8 t1 jz_61
    refine jtopr c8 ?_
    refine lv_lookup (off := 95) (tgt := 96) hx hb dX7_levelOf_1 (by decide) (by decide) (by decide) ?_
    refine lv_iconst (v := 2) hx hb dX7_levelOf_96 (by decide) ?_
    exact hret 2 σ τ _ _ _ _ rfl ⟨⟨rfl, rfl⟩, Or.inr (Or.inr (Or.inr (Or.inl ⟨rfl, (by have h9 := jz_2; omega)⟩)))⟩ hP hS dX7_levelOf_97
  have kc8 := jne c8 t1 jz_61
  by_cases c9 : a1 = 62
  · have kc9 := jeq c9 t1 jz_62
    refine jtopr c9 ?_
    refine lv_lookup (off := 95) (tgt := 96) hx hb dX7_levelOf_1 (by decide) (by decide) (by decide) ?_
    refine lv_iconst (v := 2) hx hb dX7_levelOf_96 (by decide) ?_
    exact hret 2 σ τ _ _ _ _ rfl ⟨⟨rfl, rfl⟩, Or.inr (Or.inr (Or.inr (Or.inr (Or.inl ⟨rfl, (by have h9 := jz_2; omega)⟩))))⟩ hP hS dX7_levelOf_97
  have kc9 := jne c9 t1 jz_62
  by_cases c10 : a1 = 124
  · have kc10 := jeq c10 t1 jz_124
    refine jtopr c10 ?_
    refine lv_lookup (off := 91) (tgt := 92) hx hb dX7_levelOf_1 (by decide) (by decide) (by decide) ?_
    refine lv_iconst (v := 0) hx hb dX7_levelOf_92 (by decide) ?_
    exact hret 0 σ τ _ _ _ _ rfl ⟨⟨rfl, rfl⟩, Or.inl ⟨rfl, (by have h9 := jz_0; omega)⟩⟩ hP hS dX7_levelOf_93
  have kc10 := jne c10 t1 jz_124
  refine lv_lookup (off := 101) (tgt := 102) hx hb dX7_levelOf_1 (by decide) (jlook (fun p hp => by have h9 := t1; simp only [List.mem_cons, List.not_mem_nil, or_false] at hp; rcases hp with hp | hp | hp | hp | hp | hp | hp | hp | hp | hp <;> subst hp <;> simp only [] <;> omega)) (by decide) ?_
  refine lv_iconst (v := 5) hx hb dX7_levelOf_102 (by decide) ?_
  exact hret 5 σ τ _ _ _ _ rfl ⟨⟨rfl, rfl⟩, Or.inr (Or.inr (Or.inr (Or.inr (Or.inr (Or.inr (Or.inr (Or.inr (Or.inr (Or.inr (⟨rfl, trivial⟩))))))))))⟩ hP hS dX7_levelOf_103
set_option maxHeartbeats 4000000 in
set_option maxRecDepth 100000 in
theorem c_X7_nameOf (l : Launch) (D : va_G) (cI cL : ClassId) (ad zz : Nat → Nat) (hJ : jD ad) (σ : Nat → Nat → Int32) (τ : Nat → Nat → Int64) (a1 : Int32) (A1 : Int) (t1 : a1.toInt = A1) : jM l yX7_nameOf cX7_nameOf 1 (some .int) ({ frames := 0, cells := 0, slots := 0, locals := 0 }) D cI cL ad zz [.int a1] σ τ (fun r σ' τ' => (σ = σ' ∧ τ = τ') ∧ ((True ∧ (0 ≤ r.toInt ∧ r.toInt ≤ 7) ∧ (0 ≤ A1)) ∨ (r = (-1) ∧ True))) := by
  refine jM.of hJ (by decide +kernel) (nt := .int) rfl (Nat.le_of_ble_eq_true rfl) ?_
  intro p e s m args below meth c Q ls hC hret hl hP
  obtain ⟨hx, hb, hr, hml, hown, hts, hK, -, hlocks, hZ⟩ := hC
  have hown : s.vm.findClass RX7 = some m.cls := hown
  have hS : va_S (jA ad) s.heap s.heap [] := va_S.rf
  have hA : ∀ q, jA ad q → jA ad q := fun _ h => h
  have hl : lv_has ls 1 [(0, .int a1)] := hl
  have g1 := jrg t1
  refine lv_iload_n hx hb dX7_nameOf_0 rfl (lv_at hl 0 rfl) ?_
  by_cases c1 : a1 = 98
  · have kc1 := jeq c1 t1 jz_98
    refine jtopr c1 ?_
    refine lv_tableIn (off := 109) (tgt := 110) hx hb dX7_nameOf_1 (by decide) (by decide) (by decide) (by decide) ?_
    refine lv_iconst (v := 3) hx hb dX7_nameOf_110 (by decide) ?_
    exact hret 3 σ τ _ _ _ _ rfl ⟨⟨rfl, rfl⟩, Or.inl ⟨trivial, (by have h9 := jz_3; omega), (by have h9 := jz_3; omega)⟩⟩ hP hS dX7_nameOf_111
  have kc1 := jne c1 t1 jz_98
  by_cases c2 : a1 = 99
  · have kc2 := jeq c2 t1 jz_99
    refine jtopr c2 ?_
    refine lv_tableIn (off := 121) (tgt := 122) hx hb dX7_nameOf_1 (by decide) (by decide) (by decide) (by decide) ?_
    refine lv_iconst (v := (-1)) hx hb dX7_nameOf_122 (by decide) ?_
    exact hret (-1) σ τ _ _ _ _ rfl ⟨⟨rfl, rfl⟩, Or.inr (⟨rfl, trivial⟩)⟩ hP hS dX7_nameOf_123
  have kc2 := jne c2 t1 jz_99
  by_cases c3 : a1 = 100
  · have kc3 := jeq c3 t1 jz_100
    refine jtopr c3 ?_
    refine lv_tableIn (off := 121) (tgt := 122) hx hb dX7_nameOf_1 (by decide) (by decide) (by decide) (by decide) ?_
    refine lv_iconst (v := (-1)) hx hb dX7_nameOf_122 (by decide) ?_
    exact hret (-1) σ τ _ _ _ _ rfl ⟨⟨rfl, rfl⟩, Or.inr (⟨rfl, trivial⟩)⟩ hP hS dX7_nameOf_123
  have kc3 := jne c3 t1 jz_100
  by_cases c4 : a1 = 101
  · have kc4 := jeq c4 t1 jz_101
    refine jtopr c4 ?_
    refine lv_tableIn (off := 121) (tgt := 122) hx hb dX7_nameOf_1 (by decide) (by decide) (by decide) (by decide) ?_
    refine lv_iconst (v := (-1)) hx hb dX7_nameOf_122 (by decide) ?_
    exact hret (-1) σ τ _ _ _ _ rfl ⟨⟨rfl, rfl⟩, Or.inr (⟨rfl, trivial⟩)⟩ hP hS dX7_nameOf_123
  have kc4 := jne c4 t1 jz_101
  by_cases c5 : a1 = 102
  · have kc5 := jeq c5 t1 jz_102
    refine jtopr c5 ?_
    refine lv_tableIn (off := 121) (tgt := 122) hx hb dX7_nameOf_1 (by decide) (by decide) (by decide) (by decide) ?_
    refine lv_iconst (v := (-1)) hx hb dX7_nameOf_122 (by decide) ?_
    exact hret (-1) σ τ _ _ _ _ rfl ⟨⟨rfl, rfl⟩, Or.inr (⟨rfl, trivial⟩)⟩ hP hS dX7_nameOf_123
  have kc5 := jne c5 t1 jz_102
  by_cases c6 : a1 = 103
  · have kc6 := jeq c6 t1 jz_103
    refine jtopr c6 ?_
    refine lv_tableIn (off := 121) (tgt := 122) hx hb dX7_nameOf_1 (by decide) (by decide) (by decide) (by decide) ?_
    refine lv_iconst (v := (-1)) hx hb dX7_nameOf_122 (by decide) ?_
    exact hret (-1) σ τ _ _ _ _ rfl ⟨⟨rfl, rfl⟩, Or.inr (⟨rfl, trivial⟩)⟩ hP hS dX7_nameOf_123
  have kc6 := jne c6 t1 jz_103
  by_cases c7 : a1 = 104
  · have kc7 := jeq c7 t1 jz_104
    refine jtopr c7 ?_
    refine lv_tableIn (off := 121) (tgt := 122) hx hb dX7_nameOf_1 (by decide) (by decide) (by decide) (by decide) ?_
    refine lv_iconst (v := (-1)) hx hb dX7_nameOf_122 (by decide) ?_
    exact hret (-1) σ τ _ _ _ _ rfl ⟨⟨rfl, rfl⟩, Or.inr (⟨rfl, trivial⟩)⟩ hP hS dX7_nameOf_123
  have kc7 := jne c7 t1 jz_104
  by_cases c8 : a1 = 105
  · have kc8 := jeq c8 t1 jz_105
    refine jtopr c8 ?_
    refine lv_tableIn (off := 121) (tgt := 122) hx hb dX7_nameOf_1 (by decide) (by decide) (by decide) (by decide) ?_
    refine lv_iconst (v := (-1)) hx hb dX7_nameOf_122 (by decide) ?_
    exact hret (-1) σ τ _ _ _ _ rfl ⟨⟨rfl, rfl⟩, Or.inr (⟨rfl, trivial⟩)⟩ hP hS dX7_nameOf_123
  have kc8 := jne c8 t1 jz_105
  by_cases c9 : a1 = 106
  · have kc9 := jeq c9 t1 jz_106
    refine jtopr c9 ?_
    refine lv_tableIn (off := 121) (tgt := 122) hx hb dX7_nameOf_1 (by decide) (by decide) (by decide) (by decide) ?_
    refine lv_iconst (v := (-1)) hx hb dX7_nameOf_122 (by decide) ?_
    exact hret (-1) σ τ _ _ _ _ rfl ⟨⟨rfl, rfl⟩, Or.inr (⟨rfl, trivial⟩)⟩ hP hS dX7_nameOf_123
  have kc9 := jne c9 t1 jz_106
  by_cases c10 : a1 = 107
  · have kc10 := jeq c10 t1 jz_107
    refine jtopr c10 ?_
    refine lv_tableIn (off := 118) (tgt := 119) hx hb dX7_nameOf_1 (by decide) (by decide) (by decide) (by decide) ?_
    refine lv_bipush (v := 7) hx hb dX7_nameOf_119 (by decide) ?_
    exact hret 7 σ τ _ _ _ _ rfl ⟨⟨rfl, rfl⟩, Or.inl ⟨trivial, (by have h9 := jz_7; omega), (by have h9 := jz_7; omega)⟩⟩ hP hS dX7_nameOf_121
  have kc10 := jne c10 t1 jz_107
  by_cases c11 : a1 = 108
  · have kc11 := jeq c11 t1 jz_108
    refine jtopr c11 ?_
    refine lv_tableIn (off := 113) (tgt := 114) hx hb dX7_nameOf_1 (by decide) (by decide) (by decide) (by decide) ?_
    refine lv_iconst (v := 5) hx hb dX7_nameOf_114 (by decide) ?_
    exact hret 5 σ τ _ _ _ _ rfl ⟨⟨rfl, rfl⟩, Or.inl ⟨trivial, (by have h9 := jz_5; omega), (by have h9 := jz_5; omega)⟩⟩ hP hS dX7_nameOf_115
  have kc11 := jne c11 t1 jz_108
  by_cases c12 : a1 = 109
  · have kc12 := jeq c12 t1 jz_109
    refine jtopr c12 ?_
    refine lv_tableIn (off := 121) (tgt := 122) hx hb dX7_nameOf_1 (by decide) (by decide) (by decide) (by decide) ?_
    refine lv_iconst (v := (-1)) hx hb dX7_nameOf_122 (by decide) ?_
    exact hret (-1) σ τ _ _ _ _ rfl ⟨⟨rfl, rfl⟩, Or.inr (⟨rfl, trivial⟩)⟩ hP hS dX7_nameOf_123
  have kc12 := jne c12 t1 jz_109
  by_cases c13 : a1 = 110
  · have kc13 := jeq c13 t1 jz_110
    refine jtopr c13 ?_
    refine lv_tableIn (off := 121) (tgt := 122) hx hb dX7_nameOf_1 (by decide) (by decide) (by decide) (by decide) ?_
    refine lv_iconst (v := (-1)) hx hb dX7_nameOf_122 (by decide) ?_
    exact hret (-1) σ τ _ _ _ _ rfl ⟨⟨rfl, rfl⟩, Or.inr (⟨rfl, trivial⟩)⟩ hP hS dX7_nameOf_123
  have kc13 := jne c13 t1 jz_110
  by_cases c14 : a1 = 111
  · have kc14 := jeq c14 t1 jz_111
    refine jtopr c14 ?_
    refine lv_tableIn (off := 103) (tgt := 104) hx hb dX7_nameOf_1 (by decide) (by decide) (by decide) (by decide) ?_
    refine lv_iconst (v := 0) hx hb dX7_nameOf_104 (by decide) ?_
    exact hret 0 σ τ _ _ _ _ rfl ⟨⟨rfl, rfl⟩, Or.inl ⟨trivial, (by have h9 := jz_0; omega), (by have h9 := jz_0; omega)⟩⟩ hP hS dX7_nameOf_105
  have kc14 := jne c14 t1 jz_111
  by_cases c15 : a1 = 112
  · have kc15 := jeq c15 t1 jz_112
    refine jtopr c15 ?_
    refine lv_tableIn (off := 115) (tgt := 116) hx hb dX7_nameOf_1 (by decide) (by decide) (by decide) (by decide) ?_
    refine lv_bipush (v := 6) hx hb dX7_nameOf_116 (by decide) ?_
    exact hret 6 σ τ _ _ _ _ rfl ⟨⟨rfl, rfl⟩, Or.inl ⟨trivial, (by have h9 := jz_6; omega), (by have h9 := jz_6; omega)⟩⟩ hP hS dX7_nameOf_118
  have kc15 := jne c15 t1 jz_112
  by_cases c16 : a1 = 113
  · have kc16 := jeq c16 t1 jz_113
    refine jtopr c16 ?_
    refine lv_tableIn (off := 121) (tgt := 122) hx hb dX7_nameOf_1 (by decide) (by decide) (by decide) (by decide) ?_
    refine lv_iconst (v := (-1)) hx hb dX7_nameOf_122 (by decide) ?_
    exact hret (-1) σ τ _ _ _ _ rfl ⟨⟨rfl, rfl⟩, Or.inr (⟨rfl, trivial⟩)⟩ hP hS dX7_nameOf_123
  have kc16 := jne c16 t1 jz_113
  by_cases c17 : a1 = 114
  · have kc17 := jeq c17 t1 jz_114
    refine jtopr c17 ?_
    refine lv_tableIn (off := 121) (tgt := 122) hx hb dX7_nameOf_1 (by decide) (by decide) (by decide) (by decide) ?_
    refine lv_iconst (v := (-1)) hx hb dX7_nameOf_122 (by decide) ?_
    exact hret (-1) σ τ _ _ _ _ rfl ⟨⟨rfl, rfl⟩, Or.inr (⟨rfl, trivial⟩)⟩ hP hS dX7_nameOf_123
  have kc17 := jne c17 t1 jz_114
  by_cases c18 : a1 = 115
  · have kc18 := jeq c18 t1 jz_115
    refine jtopr c18 ?_
    refine lv_tableIn (off := 107) (tgt := 108) hx hb dX7_nameOf_1 (by decide) (by decide) (by decide) (by decide) ?_
    refine lv_iconst (v := 2) hx hb dX7_nameOf_108 (by decide) ?_
    exact hret 2 σ τ _ _ _ _ rfl ⟨⟨rfl, rfl⟩, Or.inl ⟨trivial, (by have h9 := jz_2; omega), (by have h9 := jz_2; omega)⟩⟩ hP hS dX7_nameOf_109
  have kc18 := jne c18 t1 jz_115
  by_cases c19 : a1 = 116
  · have kc19 := jeq c19 t1 jz_116
    refine jtopr c19 ?_
    refine lv_tableIn (off := 111) (tgt := 112) hx hb dX7_nameOf_1 (by decide) (by decide) (by decide) (by decide) ?_
    refine lv_iconst (v := 4) hx hb dX7_nameOf_112 (by decide) ?_
    exact hret 4 σ τ _ _ _ _ rfl ⟨⟨rfl, rfl⟩, Or.inl ⟨trivial, (by have h9 := jz_4; omega), (by have h9 := jz_4; omega)⟩⟩ hP hS dX7_nameOf_113
  have kc19 := jne c19 t1 jz_116
  by_cases c20 : a1 = 117
  · have kc20 := jeq c20 t1 jz_117
    refine jtopr c20 ?_
    refine lv_tableIn (off := 121) (tgt := 122) hx hb dX7_nameOf_1 (by decide) (by decide) (by decide) (by decide) ?_
    refine lv_iconst (v := (-1)) hx hb dX7_nameOf_122 (by decide) ?_
    exact hret (-1) σ τ _ _ _ _ rfl ⟨⟨rfl, rfl⟩, Or.inr (⟨rfl, trivial⟩)⟩ hP hS dX7_nameOf_123
  have kc20 := jne c20 t1 jz_117
  by_cases c21 : a1 = 118
  · have kc21 := jeq c21 t1 jz_118
    refine jtopr c21 ?_
    refine lv_tableIn (off := 121) (tgt := 122) hx hb dX7_nameOf_1 (by decide) (by decide) (by decide) (by decide) ?_
    refine lv_iconst (v := (-1)) hx hb dX7_nameOf_122 (by decide) ?_
    exact hret (-1) σ τ _ _ _ _ rfl ⟨⟨rfl, rfl⟩, Or.inr (⟨rfl, trivial⟩)⟩ hP hS dX7_nameOf_123
  have kc21 := jne c21 t1 jz_118
  by_cases c22 : a1 = 119
  · have kc22 := jeq c22 t1 jz_119
    refine jtopr c22 ?_
    refine lv_tableIn (off := 105) (tgt := 106) hx hb dX7_nameOf_1 (by decide) (by decide) (by decide) (by decide) ?_
    refine lv_iconst (v := 1) hx hb dX7_nameOf_106 (by decide) ?_
    exact hret 1 σ τ _ _ _ _ rfl ⟨⟨rfl, rfl⟩, Or.inl ⟨trivial, (by have h9 := jz_1; omega), (by have h9 := jz_1; omega)⟩⟩ hP hS dX7_nameOf_107
  have kc22 := jne c22 t1 jz_119
  refine lv_tableOut (tgt := 122) hx hb dX7_nameOf_1 (by rw [t1]; omega) (by decide) ?_
  refine lv_iconst (v := (-1)) hx hb dX7_nameOf_122 (by decide) ?_
  exact hret (-1) σ τ _ _ _ _ rfl ⟨⟨rfl, rfl⟩, Or.inr (⟨rfl, trivial⟩)⟩ hP hS dX7_nameOf_123
set_option maxHeartbeats 4000000 in
set_option maxRecDepth 100000 in
theorem c_X7_readOrder_9 (l : Launch) (D : va_G) (cI cL : ClassId) (ad zz : Nat → Nat) (hJ : jD ad) (σ : Nat → Nat → Int32) (τ : Nat → Nat → Int64) (hI9 : jI9 σ) (hI16 : jI16 σ) : jM l yX7_readOrder cX7_readOrder 6 (some .int) ({ frames := 2, cells := 0, slots := 0, locals := 44 }) D cI cL ad zz [.ref (ad 9), .ref (ad 16)] σ τ (fun r σ' τ' => τ = τ' ∧ (∀ i : Nat, (i < 9 ∨ 9 < i) ∧ (i < 11 ∨ 11 < i) ∧ (i < 16 ∨ 17 < i) → σ' i = σ i) ∧ (∀ k : Nat, (k < 0 ∨ 0 < k) ∧ (k < 1 ∨ 1 < k) ∧ (k < 2 ∨ 2 < k) → σ' 9 k = σ 9 k) ∧ (∀ k : Nat, (k < 0 ∨ 0 < k) ∧ (k < 1 ∨ 1 < k) ∧ (k < 2 ∨ 2 < k) → σ' 16 k = σ 16 k) ∧ (jI9 σ') ∧ (jI16 σ') ∧ True) := by
  refine jM.of hJ (by decide +kernel) (nt := .int) rfl (Nat.le_of_ble_eq_true rfl) ?_
  intro p e s m args below meth c Q ls hC hret hl hP
  obtain ⟨hx, hb, hr, hml, hown, hts, hK, -, hlocks, hZ⟩ := hC
  have hown : s.vm.findClass RX7 = some m.cls := hown
  have hS : va_S (jA ad) s.heap s.heap [] := va_S.rf
  have hA : ∀ q, jA ad q → jA ad q := fun _ h => h
  have hl : lv_has ls 6 [(0, .ref (ad 9)), (1, .ref (ad 16))] := hl
  obtain ⟨i1, w2, w3⟩ : (0 ≤ (σ 9 0).toInt ∧ (σ 9 0).toInt ≤ 80) ∧ (∀ k : Nat, k < 80 → 0 ≤ (σ 10 k).toInt ∧ (σ 10 k).toInt ≤ 255) ∧ (∀ k : Nat, k < 8 → 0 ≤ (σ 11 k).toInt ∧ (σ 11 k).toInt ≤ 3) := id hI9
  obtain ⟨i4, i5, i6, w7⟩ : (1 ≤ (σ 16 0).toInt ∧ (σ 16 0).toInt ≤ 8) ∧ (1 ≤ (σ 16 1).toInt ∧ (σ 16 1).toInt ≤ 12) ∧ (0 ≤ (σ 16 2).toInt ∧ (σ 16 2).toInt ≤ 999) ∧ (∀ k : Nat, k < 8 → 0 ≤ (σ 17 k).toInt ∧ (σ 17 k).toInt ≤ 3) := id hI16
  refine lv_aload_n hx hb dX7_readOrder_0 rfl (lv_at hl 0 rfl) ?_
  refine jcallVv (As := []) (rest := []) ⟨hx, hb, hml, hown, hts⟩ hK hP hA hS hZ (c_X7_begin_9 l D cI cL ad zz hJ σ τ hI9) cw_RX7_47 (jc_9 cI cL ad σ τ) rfl ⟨Nat.le_of_ble_eq_true rfl, Nat.le_of_ble_eq_true rfl⟩ rfl rfl rfl hl.1 rfl (Nat.le_of_ble_eq_true rfl) dX7_readOrder_1 ⟨Nat.zero_le _, Nat.zero_le _⟩ (fun σ8 τ8 H locs h8 hP hS => ?_)
  obtain ⟨rfl, f10, f11, I12, I13, I14, h8⟩ := h8
  obtain ⟨i15, w16, w17⟩ : (0 ≤ (σ8 9 0).toInt ∧ (σ8 9 0).toInt ≤ 80) ∧ (∀ k : Nat, k < 80 → 0 ≤ (σ8 10 k).toInt ∧ (σ8 10 k).toInt ≤ 255) ∧ (∀ k : Nat, k < 8 → 0 ≤ (σ8 11 k).toInt ∧ (σ8 11 k).toInt ≤ 3) := id I12
  obtain ⟨i18, i19⟩ : (0 ≤ (σ8 9 1).toInt) ∧ ((σ8 9 1).toInt ≤ (σ8 9 0).toInt) := id I13
  have i20 : (-1) ≤ (σ8 9 2).toInt := I14
  have z21 : (σ8 9 0).toInt = (σ 9 0).toInt := (congrArg Int32.toInt (show σ8 9 0 = (σ 9 0) from (f11 0 (by decide))))
  refine lv_iconst (v := 0) hx hb dX7_readOrder_4 (by decide) ?_
  refine lv_istore_n (lv' := [(2, .int 0), (0, .ref (ad 9)), (1, .ref (ad 16))]) hx hb dX7_readOrder_5 rfl hl (by decide) rfl (fun ls hl => ?_)
  refine lv_bipush (v := 8) hx hb dX7_readOrder_6 (by decide) ?_
  refine lv_istore_n (lv' := [(3, .int 8), (2, .int 0), (0, .ref (ad 9)), (1, .ref (ad 16))]) hx hb dX7_readOrder_8 rfl hl (by decide) rfl (fun ls hl => ?_)
  refine lv_iconst (v := 0) hx hb dX7_readOrder_9 (by decide) ?_
  refine lv_istore (lv' := [(4, .int 0), (3, .int 8), (2, .int 0), (0, .ref (ad 9)), (1, .ref (ad 16))]) hx hb dX7_readOrder_10 hl (by decide) rfl (fun ls hl => ?_)
  have lp22 : ∀ (n23 : Nat) (x24 : Int32) (σ25 : Nat → Nat → Int32) (H : Heap) (locs : List Loc) (ls : Array Slot), (-x24.toInt + 8 : Int) < n23 → 0 ≤ x24.toInt → x24.toInt ≤ 8 → 0 ≤ (σ25 9 1).toInt → (σ25 9 1).toInt ≤ (σ25 9 0).toInt → (∀ i : Nat, (i < 9 ∨ 9 < i) ∧ (i < 11 ∨ 11 < i) → σ25 i = σ8 i) → (∀ k : Nat, (k < 1 ∨ 1 < k) → σ25 9 k = σ8 9 k) → jI9 σ25 → jH D cI cL ad σ25 τ H → va_S (jA ad) s.heap H locs → lv_has ls 6 [(4, .int 0), (3, .int 8), (2, .int x24), (0, .ref (ad 9)), (1, .ref (ad 16))] → W p l e ({ frames := 2, cells := 0, slots := 0, locals := 44 }) s m args below meth c H locs 0 0 Q (F0 m 12 ls []) := by
    intro n23
    induction n23 with
    | zero => intro x24 σ25 H locs ls h26 h27 h28 h29 h30; exact absurd h26 (by omega)
    | succ n23 ihlp22 =>
      intro x24 σ25 H locs ls h26 h27 h28 h29 h30 f31 f32 p33 hP hS hl
      obtain ⟨i34, w35, w36⟩ : (0 ≤ (σ25 9 0).toInt ∧ (σ25 9 0).toInt ≤ 80) ∧ (∀ k : Nat, k < 80 → 0 ≤ (σ25 10 k).toInt ∧ (σ25 10 k).toInt ≤ 255) ∧ (∀ k : Nat, k < 8 → 0 ≤ (σ25 11 k).toInt ∧ (σ25 11 k).toInt ≤ 3) := id p33
      have z37 : (σ25 9 0).toInt = (σ 9 0).toInt := (congrArg Int32.toInt (show σ25 9 0 = (σ 9 0) from ((f32 0 (by decide)).trans (f11 0 (by decide)))))
      refine lv_iload_n hx hb dX7_readOrder_12 rfl (lv_at hl 2 rfl) ?_
      refine lv_bipush (v := 8) hx hb dX7_readOrder_13 (by decide) ?_
      refine lv_icmp_ge (tgt := 67) hx hb dX7_readOrder_15 (by decide) (fun c38 => ?_) (fun c38 => ?_)
      · have kc38 := jle c38 jz_8 rfl
        refine lv_iload_n hx hb dX7_readOrder_67 rfl (lv_at hl 2 rfl) ?_
        refine lv_if_ne (tgt := 79) hx hb dX7_readOrder_68 (by decide) (fun c39 => ?_) (fun c => absurd (jeq c rfl jz_0) (by omega))
        have kc39 := jne c39 rfl jz_0
        refine lv_aload_n hx hb dX7_readOrder_79 rfl (lv_at hl 3 rfl) ?_
        refine lv_bipush (v := 58) hx hb dX7_readOrder_80 (by decide) ?_
        have I40 : jI91 σ25 := ⟨(by omega), (by omega)⟩
        have I41 : jI92 σ25 := jI92_fr (f32 2 (by decide)) I14
        refine jcallV (As := [.int 58]) (rest := []) ⟨hx, hb, hml, hown, hts⟩ hK hP hA hS hZ (c_X7_skip_9 l D cI cL ad zz hJ σ25 τ 58 (58) jz_58 p33 I40 I41 (by omega)) cw_RX7_50 (jc_9 cI cL ad σ25 τ) rfl ⟨Nat.le_of_ble_eq_true rfl, Nat.le_of_ble_eq_true rfl⟩ rfl rfl rfl hl.1 rfl (Nat.le_of_ble_eq_true rfl) dX7_readOrder_82 ⟨Nat.zero_le _, Nat.zero_le _⟩ (fun r43 σ42 τ42 H locs h42 hP hS => ?_)
        obtain ⟨rfl, f44, f45, I46, I47, I48, h42⟩ := h42
        obtain ⟨i49, w50, w51⟩ : (0 ≤ (σ42 9 0).toInt ∧ (σ42 9 0).toInt ≤ 80) ∧ (∀ k : Nat, k < 80 → 0 ≤ (σ42 10 k).toInt ∧ (σ42 10 k).toInt ≤ 255) ∧ (∀ k : Nat, k < 8 → 0 ≤ (σ42 11 k).toInt ∧ (σ42 11 k).toInt ≤ 3) := id I46
        obtain ⟨i52, i53⟩ : (0 ≤ (σ42 9 1).toInt) ∧ ((σ42 9 1).toInt ≤ (σ42 9 0).toInt) := id I47
        have i54 : (-1) ≤ (σ42 9 2).toInt := I48
        have z55 : (σ42 9 0).toInt = (σ 9 0).toInt := (congrArg Int32.toInt (show σ42 9 0 = (σ 9 0) from ((f45 0 (by decide)).trans ((f32 0 (by decide)).trans (f11 0 (by decide))))))
        have z56 : (σ42 9 2).toInt = (σ8 9 2).toInt := (congrArg Int32.toInt (show σ42 9 2 = (σ8 9 2) from ((f45 2 (by decide)).trans (f32 2 (by decide)))))
        refine lv_if_eq (tgt := 117) hx hb dX7_readOrder_85 (by decide) (fun c57 => ?_) (fun c57 => ?_)
        · have kc57 := jeq c57 rfl jz_0
          refine lv_aload_n hx hb dX7_readOrder_117 rfl (lv_at hl 3 rfl) ?_
          refine lv_bipush (v := 114) hx hb dX7_readOrder_118 (by decide) ?_
          refine jcallV (As := [.int 114]) (rest := []) ⟨hx, hb, hml, hown, hts⟩ hK hP hA hS hZ (c_X7_skip_9 l D cI cL ad zz hJ σ42 τ 114 (114) jz_114 I46 I47 I48 (by omega)) cw_RX7_50 (jc_9 cI cL ad σ42 τ) rfl ⟨Nat.le_of_ble_eq_true rfl, Nat.le_of_ble_eq_true rfl⟩ rfl rfl rfl hl.1 rfl (Nat.le_of_ble_eq_true rfl) dX7_readOrder_120 ⟨Nat.zero_le _, Nat.zero_le _⟩ (fun r59 σ58 τ58 H locs h58 hP hS => ?_)
          obtain ⟨rfl, f60, f61, I62, I63, I64, h58⟩ := h58
          obtain ⟨i65, w66, w67⟩ : (0 ≤ (σ58 9 0).toInt ∧ (σ58 9 0).toInt ≤ 80) ∧ (∀ k : Nat, k < 80 → 0 ≤ (σ58 10 k).toInt ∧ (σ58 10 k).toInt ≤ 255) ∧ (∀ k : Nat, k < 8 → 0 ≤ (σ58 11 k).toInt ∧ (σ58 11 k).toInt ≤ 3) := id I62
          obtain ⟨i68, i69⟩ : (0 ≤ (σ58 9 1).toInt) ∧ ((σ58 9 1).toInt ≤ (σ58 9 0).toInt) := id I63
          have i70 : (-1) ≤ (σ58 9 2).toInt := I64
          have z71 : (σ58 9 0).toInt = (σ 9 0).toInt := (congrArg Int32.toInt (show σ58 9 0 = (σ 9 0) from ((f61 0 (by decide)).trans ((f45 0 (by decide)).trans ((f32 0 (by decide)).trans (f11 0 (by decide)))))))
          have z72 : (σ58 9 2).toInt = (σ8 9 2).toInt := (congrArg Int32.toInt (show σ58 9 2 = (σ8 9 2) from ((f61 2 (by decide)).trans ((f45 2 (by decide)).trans (f32 2 (by decide))))))
          refine lv_if_eq (tgt := 133) hx hb dX7_readOrder_123 (by decide) (fun c73 => ?_) (fun c73 => ?_)
          · have kc73 := jeq c73 rfl jz_0
            refine lv_aload_n hx hb dX7_readOrder_133 rfl (lv_at hl 3 rfl) ?_
            refine jcallV (As := []) (rest := []) ⟨hx, hb, hml, hown, hts⟩ hK hP hA hS hZ (c_X7_end_9 l D cI cL ad zz hJ σ58 τ I62 I63 I64) cw_RX7_57 (jc_9 cI cL ad σ58 τ) rfl ⟨Nat.le_of_ble_eq_true rfl, Nat.le_of_ble_eq_true rfl⟩ rfl rfl rfl hl.1 rfl (Nat.le_of_ble_eq_true rfl) dX7_readOrder_134 ⟨Nat.zero_le _, Nat.zero_le _⟩ (fun r75 σ74 τ74 H locs h74 hP hS => ?_)
            obtain ⟨rfl, f76, f77, I78, I79, h74⟩ := h74
            obtain ⟨i80, w81, w82⟩ : (0 ≤ (σ74 9 0).toInt ∧ (σ74 9 0).toInt ≤ 80) ∧ (∀ k : Nat, k < 80 → 0 ≤ (σ74 10 k).toInt ∧ (σ74 10 k).toInt ≤ 255) ∧ (∀ k : Nat, k < 8 → 0 ≤ (σ74 11 k).toInt ∧ (σ74 11 k).toInt ≤ 3) := id I78
            have i83 : (-1) ≤ (σ74 9 2).toInt := I79
            rcases h74 with h84 | h85
            · obtain ⟨q87, k86⟩ := h84
              have q87 := q87.symm
              subst q87
              refine lv_istore (lv' := [(5, .int (-1)), (4, .int 0), (3, .int 8), (2, .int x24), (0, .ref (ad 9)), (1, .ref (ad 16))]) hx hb dX7_readOrder_137 hl (by decide) rfl (fun ls hl => ?_)
              refine lv_iload hx hb dX7_readOrder_139 (lv_at hl 0 rfl) ?_
              refine lv_iconst (v := (-1)) hx hb dX7_readOrder_141 (by decide) ?_
              refine lv_icmp_eq (tgt := 148) hx hb dX7_readOrder_142 (by decide) (fun _ => ?_) (fun c => absurd (by decide) c)
              refine lv_aload_n hx hb dX7_readOrder_148 rfl (lv_at hl 5 rfl) ?_
              refine lv_iload_n hx hb dX7_readOrder_149 rfl (lv_at hl 3 rfl) ?_
              refine jput (ty := .int) hx hb hts inlX6 tyX6 tyX6_ok nmX6 hown hK hP hJ hA hS (jc_16 cI cL ad σ74 τ) rfl (k := 0) (by decide) (Nat.le_of_ble_eq_true rfl) (jp_16_0 cI cL ad σ74 τ x24) (hts _ kw_13_18) (fun _ h9 => h9) rfl (by decide +kernel) rfl rfl dX7_readOrder_150 (fun σ88 H locs eσ88 hP hS => ?_)
              refine lv_aload_n hx hb dX7_readOrder_153 rfl (lv_at hl 5 rfl) ?_
              refine lv_iload_n hx hb dX7_readOrder_154 rfl (lv_at hl 2 rfl) ?_
              refine jput (ty := .int) hx hb hts inlX6 tyX6 tyX6_ok nmX6 hown hK hP hJ hA hS (jc_16 cI cL ad σ88 τ) rfl (k := 1) (by decide) (Nat.le_of_ble_eq_true rfl) (jp_16_1 cI cL ad σ88 τ 8) (hts _ kw_13_19) (fun _ h9 => h9) rfl (by decide +kernel) rfl rfl dX7_readOrder_155 (fun σ89 H locs eσ89 hP hS => ?_)
              refine lv_aload_n hx hb dX7_readOrder_158 rfl (lv_at hl 5 rfl) ?_
              refine lv_iload hx hb dX7_readOrder_159 (lv_at hl 1 rfl) ?_
              refine jput (ty := .int) hx hb hts inlX6 tyX6 tyX6_ok nmX6 hown hK hP hJ hA hS (jc_16 cI cL ad σ89 τ) rfl (k := 2) (by decide) (Nat.le_of_ble_eq_true rfl) (jp_16_2 cI cL ad σ89 τ 0) (hts _ kw_13_20) (fun _ h9 => h9) rfl (by decide +kernel) rfl rfl dX7_readOrder_161 (fun σ90 H locs eσ90 hP hS => ?_)
              refine lv_aload_n hx hb dX7_readOrder_164 rfl (lv_at hl 4 rfl) ?_
              refine va_get (D := D) hx hb hts inlX7 hown hK hP 9 (jc_9 cI cL ad σ90 τ) rfl 4 (by decide) (hts _ kw_3_21) (fun _ h9 => h9) rfl dX7_readOrder_165 ?_
              refine lv_iconst (v := 0) hx hb dX7_readOrder_168 (by decide) ?_
              refine lv_aload_n hx hb dX7_readOrder_169 rfl (lv_at hl 5 rfl) ?_
              refine va_get (D := D) hx hb hts inlX6 hown hK hP 16 (jc_16 cI cL ad σ90 τ) rfl 3 (by decide) (hts _ kw_13_21) (fun _ h9 => h9) rfl dX7_readOrder_170 ?_
              refine lv_iconst (v := 0) hx hb dX7_readOrder_173 (by decide) ?_
              refine lv_iload_n hx hb dX7_readOrder_174 rfl (lv_at hl 3 rfl) ?_
              refine jcpyI (q0 := 11) (q1 := 17) hx hb (hml.trans hl.1.symm) hown (hts _ kw_13_22) (hts _ kw_13_23) (hts _ kw_14_0) (hts _ kw_14_1) hK hP hJ hA hS (jc_11 cI cL ad σ90 τ) (jc_17 cI cL ad σ90 τ) (fun _ => rfl) jz_0 jz_0 rfl (by omega) (by omega) (by omega) (by omega) (by omega) (Nat.le_of_ble_eq_true rfl) (Nat.le_of_ble_eq_true rfl) dX7_readOrder_175 (fun σ91 H locs eσ91 hP hS => ?_)
              have w92 : ∀ k : Nat, k < 8 → 0 ≤ (σ90 11 k).toInt ∧ (σ90 11 k).toInt ≤ 3 := (jrr_fr (jnp 11 eσ90 (by decide)) (jrr_fr (jnp 11 eσ89 (by decide)) (jrr_fr (jnp 11 eσ88 (by decide)) w82)))
              have w93 : ∀ k : Nat, k < 8 → 0 ≤ (σ90 17 k).toInt ∧ (σ90 17 k).toInt ≤ 3 := (jrr_fr (jnp 17 eσ90 (by decide)) (jrr_fr (jnp 17 eσ89 (by decide)) (jrr_fr (jnp 17 eσ88 (by decide)) (jrr_fr (f76 17 (by decide)) (jrr_fr (f60 17 (by decide)) (jrr_fr (f44 17 (by decide)) (jrr_fr (f31 17 (by decide)) (jrr_fr (f10 17 (by decide)) w7))))))))
              have f94 : (∀ i : Nat, (i < 17 ∨ 17 < i) → σ91 i = σ90 i) := by rw [eσ91]; exact jrow_n
              have w95 : ∀ k : Nat, k < 8 → 0 ≤ (σ91 17 k).toInt ∧ (σ91 17 k).toInt ≤ 3 := by rw [eσ91]; exact jrow_rr w92 w93 jz_0 rfl (n0 := 8) (by omega) (by omega) (by omega)
              refine lv_iconst (v := (-1)) hx hb dX7_readOrder_178 (by decide) ?_
              have I96 : jI9 σ91 := jI9_fr ((congrFun (f94 9 (by decide)) 0).trans ((congrFun (jnp 9 eσ90 (by decide)) 0).trans ((congrFun (jnp 9 eσ89 (by decide)) 0).trans (congrFun (jnp 9 eσ88 (by decide)) 0)))) ((f94 10 (by decide)).trans ((jnp 10 eσ90 (by decide)).trans ((jnp 10 eσ89 (by decide)).trans (jnp 10 eσ88 (by decide))))) ((f94 11 (by decide)).trans ((jnp 11 eσ90 (by decide)).trans ((jnp 11 eσ89 (by decide)).trans (jnp 11 eσ88 (by decide))))) I78
              have z97 : (σ91 16 0).toInt = x24.toInt := (congrArg Int32.toInt (show σ91 16 0 = x24 from ((congrFun (f94 16 (by decide)) 0).trans ((jkp 0 eσ90 (by decide)).trans ((jkp 0 eσ89 (by decide)).trans (jsp eσ88))))))
              have z98 : (σ91 16 1).toInt = 8 := ((congrArg Int32.toInt (show σ91 16 1 = 8 from ((congrFun (f94 16 (by decide)) 1).trans ((jkp 1 eσ90 (by decide)).trans (jsp eσ89))))).trans jz_8)
              have z99 : (σ91 16 2).toInt = 0 := ((congrArg Int32.toInt (show σ91 16 2 = 0 from ((congrFun (f94 16 (by decide)) 2).trans (jsp eσ90)))).trans jz_0)
              have I100 : jI16 σ91 := ⟨(by omega), (by omega), (by omega), w95⟩
              exact hret (-1) σ91 τ _ _ _ _ rfl ⟨rfl, (fun i hi => ((f94 i (imp_46 i hi)).trans ((jnp i eσ90 (imp_47 i hi)).trans ((jnp i eσ89 (imp_47 i hi)).trans ((jnp i eσ88 (imp_47 i hi)).trans ((f76 i (imp_48 i hi)).trans ((f60 i (imp_48 i hi)).trans ((f44 i (imp_48 i hi)).trans ((f31 i (imp_49 i hi)).trans (f10 i (imp_48 i hi))))))))))), (fun i hi => ((congrFun (f94 9 (by decide)) i).trans ((congrFun (jnp 9 eσ90 (by decide)) i).trans ((congrFun (jnp 9 eσ89 (by decide)) i).trans ((congrFun (jnp 9 eσ88 (by decide)) i).trans ((f77 i (imp_50 i hi)).trans ((f61 i (imp_51 i hi)).trans ((f45 i (imp_51 i hi)).trans ((f32 i (imp_51 i hi)).trans (f11 i (imp_52 i hi))))))))))), (fun i hi => ((congrFun (f94 16 (by decide)) i).trans ((jkp i eσ90 (imp_53 i hi)).trans ((jkp i eσ89 (imp_54 i hi)).trans ((jkp i eσ88 (imp_55 i hi)).trans ((congrFun (f76 16 (by decide)) i).trans ((congrFun (f60 16 (by decide)) i).trans ((congrFun (f44 16 (by decide)) i).trans ((congrFun (f31 16 (by decide)) i).trans (congrFun (f10 16 (by decide)) i)))))))))), I96, I100, trivial⟩ hP hS dX7_readOrder_179
            · obtain ⟨q102, k101⟩ := h85
              refine lv_istore (lv' := [(5, .int r75), (4, .int 0), (3, .int 8), (2, .int x24), (0, .ref (ad 9)), (1, .ref (ad 16))]) hx hb dX7_readOrder_137 hl (by decide) rfl (fun ls hl => ?_)
              refine lv_iload hx hb dX7_readOrder_139 (lv_at hl 0 rfl) ?_
              refine lv_iconst (v := (-1)) hx hb dX7_readOrder_141 (by decide) ?_
              refine lv_icmp_eq (tgt := 148) hx hb dX7_readOrder_142 (by decide) (fun c => absurd (jeq c rfl jz_m1) (by omega)) (fun c103 => ?_)
              have kc103 := jne c103 rfl jz_m1
              refine lv_iload hx hb dX7_readOrder_145 (lv_at hl 0 rfl) ?_
              have I104 : jI16 σ74 := jI16_fr ((congrFun (f76 16 (by decide)) 0).trans ((congrFun (f60 16 (by decide)) 0).trans ((congrFun (f44 16 (by decide)) 0).trans ((congrFun (f31 16 (by decide)) 0).trans (congrFun (f10 16 (by decide)) 0))))) ((congrFun (f76 16 (by decide)) 1).trans ((congrFun (f60 16 (by decide)) 1).trans ((congrFun (f44 16 (by decide)) 1).trans ((congrFun (f31 16 (by decide)) 1).trans (congrFun (f10 16 (by decide)) 1))))) ((congrFun (f76 16 (by decide)) 2).trans ((congrFun (f60 16 (by decide)) 2).trans ((congrFun (f44 16 (by decide)) 2).trans ((congrFun (f31 16 (by decide)) 2).trans (congrFun (f10 16 (by decide)) 2))))) ((f76 17 (by decide)).trans ((f60 17 (by decide)).trans ((f44 17 (by decide)).trans ((f31 17 (by decide)).trans (f10 17 (by decide)))))) hI16
              exact hret r75 σ74 τ _ _ _ _ rfl ⟨rfl, (fun i hi => ((f76 i (imp_48 i hi)).trans ((f60 i (imp_48 i hi)).trans ((f44 i (imp_48 i hi)).trans ((f31 i (imp_49 i hi)).trans (f10 i (imp_48 i hi))))))), (fun i hi => ((f77 i (imp_50 i hi)).trans ((f61 i (imp_51 i hi)).trans ((f45 i (imp_51 i hi)).trans ((f32 i (imp_51 i hi)).trans (f11 i (imp_52 i hi))))))), (fun i hi => ((congrFun (f76 16 (by decide)) i).trans ((congrFun (f60 16 (by decide)) i).trans ((congrFun (f44 16 (by decide)) i).trans ((congrFun (f31 16 (by decide)) i).trans (congrFun (f10 16 (by decide)) i)))))), I78, I104, trivial⟩ hP hS dX7_readOrder_147
          · have kc73 := jne c73 rfl jz_0
            refine lv_aload_n hx hb dX7_readOrder_126 rfl (lv_at hl 3 rfl) ?_
            refine lv_iconst (v := 3) hx hb dX7_readOrder_127 (by decide) ?_
            refine jcallV (As := [.int 3]) (rest := []) ⟨hx, hb, hml, hown, hts⟩ hK hP hA hS hZ (c_X7_number_3 l D cI cL ad zz hJ σ58 τ I62 I63 I64) cw_RX7_53 (jc_9 cI cL ad σ58 τ) rfl ⟨Nat.le_of_ble_eq_true rfl, Nat.le_of_ble_eq_true rfl⟩ rfl rfl rfl hl.1 rfl (Nat.le_of_ble_eq_true rfl) dX7_readOrder_128 ⟨Nat.zero_le _, Nat.zero_le _⟩ (fun r106 σ105 τ105 H locs h105 hP hS => ?_)
            obtain ⟨rfl, f107, f108, I109, I110, I111, h105⟩ := h105
            obtain ⟨i112, w113, w114⟩ : (0 ≤ (σ105 9 0).toInt ∧ (σ105 9 0).toInt ≤ 80) ∧ (∀ k : Nat, k < 80 → 0 ≤ (σ105 10 k).toInt ∧ (σ105 10 k).toInt ≤ 255) ∧ (∀ k : Nat, k < 8 → 0 ≤ (σ105 11 k).toInt ∧ (σ105 11 k).toInt ≤ 3) := id I109
            obtain ⟨i115, i116⟩ : (0 ≤ (σ105 9 1).toInt) ∧ ((σ105 9 1).toInt ≤ (σ105 9 0).toInt) := id I110
            have i117 : (-1) ≤ (σ105 9 2).toInt := I111
            have z118 : (σ105 9 0).toInt = (σ 9 0).toInt := (congrArg Int32.toInt (show σ105 9 0 = (σ 9 0) from ((f108 0 (by decide)).trans ((f61 0 (by decide)).trans ((f45 0 (by decide)).trans ((f32 0 (by decide)).trans (f11 0 (by decide))))))))
            obtain ⟨k119, h105⟩ := h105
            have h120 := h105
            obtain ⟨q122, k121⟩ := h120
            refine lv_istore (lv' := [(4, .int r106), (3, .int 8), (2, .int x24), (0, .ref (ad 9)), (1, .ref (ad 16))]) hx hb dX7_readOrder_131 hl (by decide) rfl (fun ls hl => ?_)
            refine lv_aload_n hx hb dX7_readOrder_133 rfl (lv_at hl 3 rfl) ?_
            refine jcallV (As := []) (rest := []) ⟨hx, hb, hml, hown, hts⟩ hK hP hA hS hZ (c_X7_end_9 l D cI cL ad zz hJ σ105 τ I109 I110 I111) cw_RX7_57 (jc_9 cI cL ad σ105 τ) rfl ⟨Nat.le_of_ble_eq_true rfl, Nat.le_of_ble_eq_true rfl⟩ rfl rfl rfl hl.1 rfl (Nat.le_of_ble_eq_true rfl) dX7_readOrder_134 ⟨Nat.zero_le _, Nat.zero_le _⟩ (fun r124 σ123 τ123 H locs h123 hP hS => ?_)
            obtain ⟨rfl, f125, f126, I127, I128, h123⟩ := h123
            obtain ⟨i129, w130, w131⟩ : (0 ≤ (σ123 9 0).toInt ∧ (σ123 9 0).toInt ≤ 80) ∧ (∀ k : Nat, k < 80 → 0 ≤ (σ123 10 k).toInt ∧ (σ123 10 k).toInt ≤ 255) ∧ (∀ k : Nat, k < 8 → 0 ≤ (σ123 11 k).toInt ∧ (σ123 11 k).toInt ≤ 3) := id I127
            have i132 : (-1) ≤ (σ123 9 2).toInt := I128
            rcases h123 with h133 | h134
            · obtain ⟨q136, k135⟩ := h133
              have q136 := q136.symm
              subst q136
              refine lv_istore (lv' := [(5, .int (-1)), (4, .int r106), (3, .int 8), (2, .int x24), (0, .ref (ad 9)), (1, .ref (ad 16))]) hx hb dX7_readOrder_137 hl (by decide) rfl (fun ls hl => ?_)
              refine lv_iload hx hb dX7_readOrder_139 (lv_at hl 0 rfl) ?_
              refine lv_iconst (v := (-1)) hx hb dX7_readOrder_141 (by decide) ?_
              refine lv_icmp_eq (tgt := 148) hx hb dX7_readOrder_142 (by decide) (fun _ => ?_) (fun c => absurd (by decide) c)
              refine lv_aload_n hx hb dX7_readOrder_148 rfl (lv_at hl 5 rfl) ?_
              refine lv_iload_n hx hb dX7_readOrder_149 rfl (lv_at hl 3 rfl) ?_
              refine jput (ty := .int) hx hb hts inlX6 tyX6 tyX6_ok nmX6 hown hK hP hJ hA hS (jc_16 cI cL ad σ123 τ) rfl (k := 0) (by decide) (Nat.le_of_ble_eq_true rfl) (jp_16_0 cI cL ad σ123 τ x24) (hts _ kw_13_18) (fun _ h9 => h9) rfl (by decide +kernel) rfl rfl dX7_readOrder_150 (fun σ137 H locs eσ137 hP hS => ?_)
              refine lv_aload_n hx hb dX7_readOrder_153 rfl (lv_at hl 5 rfl) ?_
              refine lv_iload_n hx hb dX7_readOrder_154 rfl (lv_at hl 2 rfl) ?_
              refine jput (ty := .int) hx hb hts inlX6 tyX6 tyX6_ok nmX6 hown hK hP hJ hA hS (jc_16 cI cL ad σ137 τ) rfl (k := 1) (by decide) (Nat.le_of_ble_eq_true rfl) (jp_16_1 cI cL ad σ137 τ 8) (hts _ kw_13_19) (fun _ h9 => h9) rfl (by decide +kernel) rfl rfl dX7_readOrder_155 (fun σ138 H locs eσ138 hP hS => ?_)
              refine lv_aload_n hx hb dX7_readOrder_158 rfl (lv_at hl 5 rfl) ?_
              refine lv_iload hx hb dX7_readOrder_159 (lv_at hl 1 rfl) ?_
              refine jput (ty := .int) hx hb hts inlX6 tyX6 tyX6_ok nmX6 hown hK hP hJ hA hS (jc_16 cI cL ad σ138 τ) rfl (k := 2) (by decide) (Nat.le_of_ble_eq_true rfl) (jp_16_2 cI cL ad σ138 τ r106) (hts _ kw_13_20) (fun _ h9 => h9) rfl (by decide +kernel) rfl rfl dX7_readOrder_161 (fun σ139 H locs eσ139 hP hS => ?_)
              refine lv_aload_n hx hb dX7_readOrder_164 rfl (lv_at hl 4 rfl) ?_
              refine va_get (D := D) hx hb hts inlX7 hown hK hP 9 (jc_9 cI cL ad σ139 τ) rfl 4 (by decide) (hts _ kw_3_21) (fun _ h9 => h9) rfl dX7_readOrder_165 ?_
              refine lv_iconst (v := 0) hx hb dX7_readOrder_168 (by decide) ?_
              refine lv_aload_n hx hb dX7_readOrder_169 rfl (lv_at hl 5 rfl) ?_
              refine va_get (D := D) hx hb hts inlX6 hown hK hP 16 (jc_16 cI cL ad σ139 τ) rfl 3 (by decide) (hts _ kw_13_21) (fun _ h9 => h9) rfl dX7_readOrder_170 ?_
              refine lv_iconst (v := 0) hx hb dX7_readOrder_173 (by decide) ?_
              refine lv_iload_n hx hb dX7_readOrder_174 rfl (lv_at hl 3 rfl) ?_
              refine jcpyI (q0 := 11) (q1 := 17) hx hb (hml.trans hl.1.symm) hown (hts _ kw_13_22) (hts _ kw_13_23) (hts _ kw_14_0) (hts _ kw_14_1) hK hP hJ hA hS (jc_11 cI cL ad σ139 τ) (jc_17 cI cL ad σ139 τ) (fun _ => rfl) jz_0 jz_0 rfl (by omega) (by omega) (by omega) (by omega) (by omega) (Nat.le_of_ble_eq_true rfl) (Nat.le_of_ble_eq_true rfl) dX7_readOrder_175 (fun σ140 H locs eσ140 hP hS => ?_)
              have w141 : ∀ k : Nat, k < 8 → 0 ≤ (σ139 11 k).toInt ∧ (σ139 11 k).toInt ≤ 3 := (jrr_fr (jnp 11 eσ139 (by decide)) (jrr_fr (jnp 11 eσ138 (by decide)) (jrr_fr (jnp 11 eσ137 (by decide)) w131)))
              have w142 : ∀ k : Nat, k < 8 → 0 ≤ (σ139 17 k).toInt ∧ (σ139 17 k).toInt ≤ 3 := (jrr_fr (jnp 17 eσ139 (by decide)) (jrr_fr (jnp 17 eσ138 (by decide)) (jrr_fr (jnp 17 eσ137 (by decide)) (jrr_fr (f125 17 (by decide)) (jrr_fr (f107 17 (by decide)) (jrr_fr (f60 17 (by decide)) (jrr_fr (f44 17 (by decide)) (jrr_fr (f31 17 (by decide)) (jrr_fr (f10 17 (by decide)) w7)))))))))
              have f143 : (∀ i : Nat, (i < 17 ∨ 17 < i) → σ140 i = σ139 i) := by rw [eσ140]; exact jrow_n
              have w144 : ∀ k : Nat, k < 8 → 0 ≤ (σ140 17 k).toInt ∧ (σ140 17 k).toInt ≤ 3 := by rw [eσ140]; exact jrow_rr w141 w142 jz_0 rfl (n0 := 8) (by omega) (by omega) (by omega)
              refine lv_iconst (v := (-1)) hx hb dX7_readOrder_178 (by decide) ?_
              have I145 : jI9 σ140 := jI9_fr ((congrFun (f143 9 (by decide)) 0).trans ((congrFun (jnp 9 eσ139 (by decide)) 0).trans ((congrFun (jnp 9 eσ138 (by decide)) 0).trans (congrFun (jnp 9 eσ137 (by decide)) 0)))) ((f143 10 (by decide)).trans ((jnp 10 eσ139 (by decide)).trans ((jnp 10 eσ138 (by decide)).trans (jnp 10 eσ137 (by decide))))) ((f143 11 (by decide)).trans ((jnp 11 eσ139 (by decide)).trans ((jnp 11 eσ138 (by decide)).trans (jnp 11 eσ137 (by decide))))) I127
              have z146 : (σ140 16 0).toInt = x24.toInt := (congrArg Int32.toInt (show σ140 16 0 = x24 from ((congrFun (f143 16 (by decide)) 0).trans ((jkp 0 eσ139 (by decide)).trans ((jkp 0 eσ138 (by decide)).trans (jsp eσ137))))))
              have z147 : (σ140 16 1).toInt = 8 := ((congrArg Int32.toInt (show σ140 16 1 = 8 from ((congrFun (f143 16 (by decide)) 1).trans ((jkp 1 eσ139 (by decide)).trans (jsp eσ138))))).trans jz_8)
              have z148 : (σ140 16 2).toInt = r106.toInt := (congrArg Int32.toInt (show σ140 16 2 = r106 from ((congrFun (f143 16 (by decide)) 2).trans (jsp eσ139))))
              have I149 : jI16 σ140 := ⟨(by omega), (by omega), (by omega), w144⟩
              exact hret (-1) σ140 τ _ _ _ _ rfl ⟨rfl, (fun i hi => ((f143 i (imp_46 i hi)).trans ((jnp i eσ139 (imp_47 i hi)).trans ((jnp i eσ138 (imp_47 i hi)).trans ((jnp i eσ137 (imp_47 i hi)).trans ((f125 i (imp_48 i hi)).trans ((f107 i (imp_48 i hi)).trans ((f60 i (imp_48 i hi)).trans ((f44 i (imp_48 i hi)).trans ((f31 i (imp_49 i hi)).trans (f10 i (imp_48 i hi)))))))))))), (fun i hi => ((congrFun (f143 9 (by decide)) i).trans ((congrFun (jnp 9 eσ139 (by decide)) i).trans ((congrFun (jnp 9 eσ138 (by decide)) i).trans ((congrFun (jnp 9 eσ137 (by decide)) i).trans ((f126 i (imp_50 i hi)).trans ((f108 i (imp_52 i hi)).trans ((f61 i (imp_51 i hi)).trans ((f45 i (imp_51 i hi)).trans ((f32 i (imp_51 i hi)).trans (f11 i (imp_52 i hi)))))))))))), (fun i hi => ((congrFun (f143 16 (by decide)) i).trans ((jkp i eσ139 (imp_53 i hi)).trans ((jkp i eσ138 (imp_54 i hi)).trans ((jkp i eσ137 (imp_55 i hi)).trans ((congrFun (f125 16 (by decide)) i).trans ((congrFun (f107 16 (by decide)) i).trans ((congrFun (f60 16 (by decide)) i).trans ((congrFun (f44 16 (by decide)) i).trans ((congrFun (f31 16 (by decide)) i).trans (congrFun (f10 16 (by decide)) i))))))))))), I145, I149, trivial⟩ hP hS dX7_readOrder_179
            · obtain ⟨q151, k150⟩ := h134
              refine lv_istore (lv' := [(5, .int r124), (4, .int r106), (3, .int 8), (2, .int x24), (0, .ref (ad 9)), (1, .ref (ad 16))]) hx hb dX7_readOrder_137 hl (by decide) rfl (fun ls hl => ?_)
              refine lv_iload hx hb dX7_readOrder_139 (lv_at hl 0 rfl) ?_
              refine lv_iconst (v := (-1)) hx hb dX7_readOrder_141 (by decide) ?_
              refine lv_icmp_eq (tgt := 148) hx hb dX7_readOrder_142 (by decide) (fun c => absurd (jeq c rfl jz_m1) (by omega)) (fun c152 => ?_)
              have kc152 := jne c152 rfl jz_m1
              refine lv_iload hx hb dX7_readOrder_145 (lv_at hl 0 rfl) ?_
              have I153 : jI16 σ123 := jI16_fr ((congrFun (f125 16 (by decide)) 0).trans ((congrFun (f107 16 (by decide)) 0).trans ((congrFun (f60 16 (by decide)) 0).trans ((congrFun (f44 16 (by decide)) 0).trans ((congrFun (f31 16 (by decide)) 0).trans (congrFun (f10 16 (by decide)) 0)))))) ((congrFun (f125 16 (by decide)) 1).trans ((congrFun (f107 16 (by decide)) 1).trans ((congrFun (f60 16 (by decide)) 1).trans ((congrFun (f44 16 (by decide)) 1).trans ((congrFun (f31 16 (by decide)) 1).trans (congrFun (f10 16 (by decide)) 1)))))) ((congrFun (f125 16 (by decide)) 2).trans ((congrFun (f107 16 (by decide)) 2).trans ((congrFun (f60 16 (by decide)) 2).trans ((congrFun (f44 16 (by decide)) 2).trans ((congrFun (f31 16 (by decide)) 2).trans (congrFun (f10 16 (by decide)) 2)))))) ((f125 17 (by decide)).trans ((f107 17 (by decide)).trans ((f60 17 (by decide)).trans ((f44 17 (by decide)).trans ((f31 17 (by decide)).trans (f10 17 (by decide))))))) hI16
              exact hret r124 σ123 τ _ _ _ _ rfl ⟨rfl, (fun i hi => ((f125 i (imp_48 i hi)).trans ((f107 i (imp_48 i hi)).trans ((f60 i (imp_48 i hi)).trans ((f44 i (imp_48 i hi)).trans ((f31 i (imp_49 i hi)).trans (f10 i (imp_48 i hi)))))))), (fun i hi => ((f126 i (imp_50 i hi)).trans ((f108 i (imp_52 i hi)).trans ((f61 i (imp_51 i hi)).trans ((f45 i (imp_51 i hi)).trans ((f32 i (imp_51 i hi)).trans (f11 i (imp_52 i hi)))))))), (fun i hi => ((congrFun (f125 16 (by decide)) i).trans ((congrFun (f107 16 (by decide)) i).trans ((congrFun (f60 16 (by decide)) i).trans ((congrFun (f44 16 (by decide)) i).trans ((congrFun (f31 16 (by decide)) i).trans (congrFun (f10 16 (by decide)) i))))))), I127, I153, trivial⟩ hP hS dX7_readOrder_147
        · have kc57 := jne c57 rfl jz_0
          refine lv_aload_n hx hb dX7_readOrder_88 rfl (lv_at hl 3 rfl) ?_
          refine va_get (D := D) hx hb hts inlX7 hown hK hP 9 (jc_9 cI cL ad σ42 τ) rfl 1 (by decide) (hts _ kw_13_17) (fun _ h9 => h9) rfl dX7_readOrder_89 ?_
          refine lv_istore (lv' := [(5, .int (σ42 9 1)), (4, .int 0), (3, .int 8), (2, .int x24), (0, .ref (ad 9)), (1, .ref (ad 16))]) hx hb dX7_readOrder_92 hl (by decide) rfl (fun ls hl => ?_)
          refine lv_aload_n hx hb dX7_readOrder_94 rfl (lv_at hl 4 rfl) ?_
          refine lv_iconst (v := 2) hx hb dX7_readOrder_95 (by decide) ?_
          refine jcallV (As := [.int 2]) (rest := []) ⟨hx, hb, hml, hown, hts⟩ hK hP hA hS hZ (c_X7_number_2 l D cI cL ad zz hJ σ42 τ I46 I47 I48) cw_RX7_53 (jc_9 cI cL ad σ42 τ) rfl ⟨Nat.le_of_ble_eq_true rfl, Nat.le_of_ble_eq_true rfl⟩ rfl rfl rfl hl.1 rfl (Nat.le_of_ble_eq_true rfl) dX7_readOrder_96 ⟨Nat.zero_le _, Nat.zero_le _⟩ (fun r155 σ154 τ154 H locs h154 hP hS => ?_)
          obtain ⟨rfl, f156, f157, I158, I159, I160, h154⟩ := h154
          obtain ⟨i161, w162, w163⟩ : (0 ≤ (σ154 9 0).toInt ∧ (σ154 9 0).toInt ≤ 80) ∧ (∀ k : Nat, k < 80 → 0 ≤ (σ154 10 k).toInt ∧ (σ154 10 k).toInt ≤ 255) ∧ (∀ k : Nat, k < 8 → 0 ≤ (σ154 11 k).toInt ∧ (σ154 11 k).toInt ≤ 3) := id I158
          obtain ⟨i164, i165⟩ : (0 ≤ (σ154 9 1).toInt) ∧ ((σ154 9 1).toInt ≤ (σ154 9 0).toInt) := id I159
          have i166 : (-1) ≤ (σ154 9 2).toInt := I160
          have z167 : (σ154 9 0).toInt = (σ 9 0).toInt := (congrArg Int32.toInt (show σ154 9 0 = (σ 9 0) from ((f157 0 (by decide)).trans ((f45 0 (by decide)).trans ((f32 0 (by decide)).trans (f11 0 (by decide)))))))
          obtain ⟨k168, h154⟩ := h154
          have h169 := h154
          obtain ⟨q171, k170⟩ := h169
          refine lv_istore_n (lv' := [(3, .int r155), (5, .int (σ42 9 1)), (4, .int 0), (2, .int x24), (0, .ref (ad 9)), (1, .ref (ad 16))]) hx hb dX7_readOrder_99 rfl hl (by decide) rfl (fun ls hl => ?_)
          refine lv_iload_n hx hb dX7_readOrder_100 rfl (lv_at hl 0 rfl) ?_
          refine lv_iconst (v := 1) hx hb dX7_readOrder_101 (by decide) ?_
          refine lv_icmp_lt (tgt := 111) hx hb dX7_readOrder_102 (by decide) (fun c172 => ?_) (fun c172 => ?_)
          · have kc172 := jlt c172 rfl jz_1
            refine lv_aload_n hx hb dX7_readOrder_111 rfl (lv_at hl 4 rfl) ?_
            refine lv_iload hx hb dX7_readOrder_112 (lv_at hl 1 rfl) ?_
            refine jcallVv (As := [.int (σ42 9 1)]) (rest := []) ⟨hx, hb, hml, hown, hts⟩ hK hP hA hS hZ (c_X7_fail_9 l D cI cL ad zz hJ σ154 τ (σ42 9 1) ((σ42 9 1).toInt) rfl I160 (by omega)) cw_RX7_43 (jc_9 cI cL ad σ154 τ) rfl ⟨Nat.le_of_ble_eq_true rfl, Nat.le_of_ble_eq_true rfl⟩ rfl rfl rfl hl.1 rfl (Nat.le_of_ble_eq_true rfl) dX7_readOrder_114 ⟨Nat.zero_le _, Nat.zero_le _⟩ (fun σ173 τ173 H locs h173 hP hS => ?_)
            obtain ⟨rfl, f175, f176, h173⟩ := h173
            obtain ⟨k177, h173⟩ := h173
            refine lv_aload_n hx hb dX7_readOrder_117 rfl (lv_at hl 4 rfl) ?_
            refine lv_bipush (v := 114) hx hb dX7_readOrder_118 (by decide) ?_
            have I178 : jI9 σ173 := jI9_fr (f176 0 (by decide)) (f175 10 (by decide)) (f175 11 (by decide)) I158
            have I179 : jI91 σ173 := jI91_fr (f176 0 (by decide)) (f176 1 (by decide)) I159
            have I180 : jI92 σ173 := (show (-1) ≤ (σ173 9 2).toInt by omega)
            refine jcallV (As := [.int 114]) (rest := []) ⟨hx, hb, hml, hown, hts⟩ hK hP hA hS hZ (c_X7_skip_9 l D cI cL ad zz hJ σ173 τ 114 (114) jz_114 I178 I179 I180 (by omega)) cw_RX7_50 (jc_9 cI cL ad σ173 τ) rfl ⟨Nat.le_of_ble_eq_true rfl, Nat.le_of_ble_eq_true rfl⟩ rfl rfl rfl hl.1 rfl (Nat.le_of_ble_eq_true rfl) dX7_readOrder_120 ⟨Nat.zero_le _, Nat.zero_le _⟩ (fun r182 σ181 τ181 H locs h181 hP hS => ?_)
            obtain ⟨rfl, f183, f184, I185, I186, I187, h181⟩ := h181
            obtain ⟨i188, w189, w190⟩ : (0 ≤ (σ181 9 0).toInt ∧ (σ181 9 0).toInt ≤ 80) ∧ (∀ k : Nat, k < 80 → 0 ≤ (σ181 10 k).toInt ∧ (σ181 10 k).toInt ≤ 255) ∧ (∀ k : Nat, k < 8 → 0 ≤ (σ181 11 k).toInt ∧ (σ181 11 k).toInt ≤ 3) := id I185
            obtain ⟨i191, i192⟩ : (0 ≤ (σ181 9 1).toInt) ∧ ((σ181 9 1).toInt ≤ (σ181 9 0).toInt) := id I186
            have i193 : (-1) ≤ (σ181 9 2).toInt := I187
            have z194 : (σ181 9 0).toInt = (σ 9 0).toInt := (congrArg Int32.toInt (show σ181 9 0 = (σ 9 0) from ((f184 0 (by decide)).trans ((f176 0 (by decide)).trans ((f157 0 (by decide)).trans ((f45 0 (by decide)).trans ((f32 0 (by decide)).trans (f11 0 (by decide)))))))))
            have z195 : (σ181 9 2).toInt = (σ173 9 2).toInt := (congrArg Int32.toInt (show σ181 9 2 = (σ173 9 2) from (f184 2 (by decide))))
            refine lv_if_eq (tgt := 133) hx hb dX7_readOrder_123 (by decide) (fun c196 => ?_) (fun c196 => ?_)
            · have kc196 := jeq c196 rfl jz_0
              refine lv_aload_n hx hb dX7_readOrder_133 rfl (lv_at hl 4 rfl) ?_
              refine jcallV (As := []) (rest := []) ⟨hx, hb, hml, hown, hts⟩ hK hP hA hS hZ (c_X7_end_9 l D cI cL ad zz hJ σ181 τ I185 I186 I187) cw_RX7_57 (jc_9 cI cL ad σ181 τ) rfl ⟨Nat.le_of_ble_eq_true rfl, Nat.le_of_ble_eq_true rfl⟩ rfl rfl rfl hl.1 rfl (Nat.le_of_ble_eq_true rfl) dX7_readOrder_134 ⟨Nat.zero_le _, Nat.zero_le _⟩ (fun r198 σ197 τ197 H locs h197 hP hS => ?_)
              obtain ⟨rfl, f199, f200, I201, I202, h197⟩ := h197
              obtain ⟨i203, w204, w205⟩ : (0 ≤ (σ197 9 0).toInt ∧ (σ197 9 0).toInt ≤ 80) ∧ (∀ k : Nat, k < 80 → 0 ≤ (σ197 10 k).toInt ∧ (σ197 10 k).toInt ≤ 255) ∧ (∀ k : Nat, k < 8 → 0 ≤ (σ197 11 k).toInt ∧ (σ197 11 k).toInt ≤ 3) := id I201
              have i206 : (-1) ≤ (σ197 9 2).toInt := I202
              rcases h197 with h207 | h208
              · obtain ⟨q210, k209⟩ := h207
                exact absurd (by omega : False) id
              · obtain ⟨q212, k211⟩ := h208
                refine lv_istore (lv' := [(5, .int r198), (3, .int r155), (4, .int 0), (2, .int x24), (0, .ref (ad 9)), (1, .ref (ad 16))]) hx hb dX7_readOrder_137 hl (by decide) rfl (fun ls hl => ?_)
                refine lv_iload hx hb dX7_readOrder_139 (lv_at hl 0 rfl) ?_
                refine lv_iconst (v := (-1)) hx hb dX7_readOrder_141 (by decide) ?_
                refine lv_icmp_eq (tgt := 148) hx hb dX7_readOrder_142 (by decide) (fun c => absurd (jeq c rfl jz_m1) (by omega)) (fun c213 => ?_)
                have kc213 := jne c213 rfl jz_m1
                refine lv_iload hx hb dX7_readOrder_145 (lv_at hl 0 rfl) ?_
                have I214 : jI16 σ197 := jI16_fr ((congrFun (f199 16 (by decide)) 0).trans ((congrFun (f183 16 (by decide)) 0).trans ((congrFun (f175 16 (by decide)) 0).trans ((congrFun (f156 16 (by decide)) 0).trans ((congrFun (f44 16 (by decide)) 0).trans ((congrFun (f31 16 (by decide)) 0).trans (congrFun (f10 16 (by decide)) 0))))))) ((congrFun (f199 16 (by decide)) 1).trans ((congrFun (f183 16 (by decide)) 1).trans ((congrFun (f175 16 (by decide)) 1).trans ((congrFun (f156 16 (by decide)) 1).trans ((congrFun (f44 16 (by decide)) 1).trans ((congrFun (f31 16 (by decide)) 1).trans (congrFun (f10 16 (by decide)) 1))))))) ((congrFun (f199 16 (by decide)) 2).trans ((congrFun (f183 16 (by decide)) 2).trans ((congrFun (f175 16 (by decide)) 2).trans ((congrFun (f156 16 (by decide)) 2).trans ((congrFun (f44 16 (by decide)) 2).trans ((congrFun (f31 16 (by decide)) 2).trans (congrFun (f10 16 (by decide)) 2))))))) ((f199 17 (by decide)).trans ((f183 17 (by decide)).trans ((f175 17 (by decide)).trans ((f156 17 (by decide)).trans ((f44 17 (by decide)).trans ((f31 17 (by decide)).trans (f10 17 (by decide)))))))) hI16
                exact hret r198 σ197 τ _ _ _ _ rfl ⟨rfl, (fun i hi => ((f199 i (imp_48 i hi)).trans ((f183 i (imp_48 i hi)).trans ((f175 i (imp_48 i hi)).trans ((f156 i (imp_48 i hi)).trans ((f44 i (imp_48 i hi)).trans ((f31 i (imp_49 i hi)).trans (f10 i (imp_48 i hi))))))))), (fun i hi => ((f200 i (imp_50 i hi)).trans ((f184 i (imp_51 i hi)).trans ((f176 i (imp_56 i hi)).trans ((f157 i (imp_52 i hi)).trans ((f45 i (imp_51 i hi)).trans ((f32 i (imp_51 i hi)).trans (f11 i (imp_52 i hi))))))))), (fun i hi => ((congrFun (f199 16 (by decide)) i).trans ((congrFun (f183 16 (by decide)) i).trans ((congrFun (f175 16 (by decide)) i).trans ((congrFun (f156 16 (by decide)) i).trans ((congrFun (f44 16 (by decide)) i).trans ((congrFun (f31 16 (by decide)) i).trans (congrFun (f10 16 (by decide)) i)))))))), I201, I214, trivial⟩ hP hS dX7_readOrder_147
            · have kc196 := jne c196 rfl jz_0
              refine lv_aload_n hx hb dX7_readOrder_126 rfl (lv_at hl 4 rfl) ?_
              refine lv_iconst (v := 3) hx hb dX7_readOrder_127 (by decide) ?_
              refine jcallV (As := [.int 3]) (rest := []) ⟨hx, hb, hml, hown, hts⟩ hK hP hA hS hZ (c_X7_number_3 l D cI cL ad zz hJ σ181 τ I185 I186 I187) cw_RX7_53 (jc_9 cI cL ad σ181 τ) rfl ⟨Nat.le_of_ble_eq_true rfl, Nat.le_of_ble_eq_true rfl⟩ rfl rfl rfl hl.1 rfl (Nat.le_of_ble_eq_true rfl) dX7_readOrder_128 ⟨Nat.zero_le _, Nat.zero_le _⟩ (fun r216 σ215 τ215 H locs h215 hP hS => ?_)
              obtain ⟨rfl, f217, f218, I219, I220, I221, h215⟩ := h215
              obtain ⟨i222, w223, w224⟩ : (0 ≤ (σ215 9 0).toInt ∧ (σ215 9 0).toInt ≤ 80) ∧ (∀ k : Nat, k < 80 → 0 ≤ (σ215 10 k).toInt ∧ (σ215 10 k).toInt ≤ 255) ∧ (∀ k : Nat, k < 8 → 0 ≤ (σ215 11 k).toInt ∧ (σ215 11 k).toInt ≤ 3) := id I219
              obtain ⟨i225, i226⟩ : (0 ≤ (σ215 9 1).toInt) ∧ ((σ215 9 1).toInt ≤ (σ215 9 0).toInt) := id I220
              have i227 : (-1) ≤ (σ215 9 2).toInt := I221
              have z228 : (σ215 9 0).toInt = (σ 9 0).toInt := (congrArg Int32.toInt (show σ215 9 0 = (σ 9 0) from ((f218 0 (by decide)).trans ((f184 0 (by decide)).trans ((f176 0 (by decide)).trans ((f157 0 (by decide)).trans ((f45 0 (by decide)).trans ((f32 0 (by decide)).trans (f11 0 (by decide))))))))))
              obtain ⟨k229, h215⟩ := h215
              have h230 := h215
              obtain ⟨q232, k231⟩ := h230
              refine lv_istore (lv' := [(4, .int r216), (3, .int r155), (5, .int (σ42 9 1)), (2, .int x24), (0, .ref (ad 9)), (1, .ref (ad 16))]) hx hb dX7_readOrder_131 hl (by decide) rfl (fun ls hl => ?_)
              refine lv_aload_n hx hb dX7_readOrder_133 rfl (lv_at hl 4 rfl) ?_
              refine jcallV (As := []) (rest := []) ⟨hx, hb, hml, hown, hts⟩ hK hP hA hS hZ (c_X7_end_9 l D cI cL ad zz hJ σ215 τ I219 I220 I221) cw_RX7_57 (jc_9 cI cL ad σ215 τ) rfl ⟨Nat.le_of_ble_eq_true rfl, Nat.le_of_ble_eq_true rfl⟩ rfl rfl rfl hl.1 rfl (Nat.le_of_ble_eq_true rfl) dX7_readOrder_134 ⟨Nat.zero_le _, Nat.zero_le _⟩ (fun r234 σ233 τ233 H locs h233 hP hS => ?_)
              obtain ⟨rfl, f235, f236, I237, I238, h233⟩ := h233
              obtain ⟨i239, w240, w241⟩ : (0 ≤ (σ233 9 0).toInt ∧ (σ233 9 0).toInt ≤ 80) ∧ (∀ k : Nat, k < 80 → 0 ≤ (σ233 10 k).toInt ∧ (σ233 10 k).toInt ≤ 255) ∧ (∀ k : Nat, k < 8 → 0 ≤ (σ233 11 k).toInt ∧ (σ233 11 k).toInt ≤ 3) := id I237
              have i242 : (-1) ≤ (σ233 9 2).toInt := I238
              rcases h233 with h243 | h244
              · obtain ⟨q246, k245⟩ := h243
                exact absurd (by omega : False) id
              · obtain ⟨q248, k247⟩ := h244
                refine lv_istore (lv' := [(5, .int r234), (4, .int r216), (3, .int r155), (2, .int x24), (0, .ref (ad 9)), (1, .ref (ad 16))]) hx hb dX7_readOrder_137 hl (by decide) rfl (fun ls hl => ?_)
                refine lv_iload hx hb dX7_readOrder_139 (lv_at hl 0 rfl) ?_
                refine lv_iconst (v := (-1)) hx hb dX7_readOrder_141 (by decide) ?_
                refine lv_icmp_eq (tgt := 148) hx hb dX7_readOrder_142 (by decide) (fun c => absurd (jeq c rfl jz_m1) (by omega)) (fun c249 => ?_)
                have kc249 := jne c249 rfl jz_m1
                refine lv_iload hx hb dX7_readOrder_145 (lv_at hl 0 rfl) ?_
                have I250 : jI16 σ233 := jI16_fr ((congrFun (f235 16 (by decide)) 0).trans ((congrFun (f217 16 (by decide)) 0).trans ((congrFun (f183 16 (by decide)) 0).trans ((congrFun (f175 16 (by decide)) 0).trans ((congrFun (f156 16 (by decide)) 0).trans ((congrFun (f44 16 (by decide)) 0).trans ((congrFun (f31 16 (by decide)) 0).trans (congrFun (f10 16 (by decide)) 0)))))))) ((congrFun (f235 16 (by decide)) 1).trans ((congrFun (f217 16 (by decide)) 1).trans ((congrFun (f183 16 (by decide)) 1).trans ((congrFun (f175 16 (by decide)) 1).trans ((congrFun (f156 16 (by decide)) 1).trans ((congrFun (f44 16 (by decide)) 1).trans ((congrFun (f31 16 (by decide)) 1).trans (congrFun (f10 16 (by decide)) 1)))))))) ((congrFun (f235 16 (by decide)) 2).trans ((congrFun (f217 16 (by decide)) 2).trans ((congrFun (f183 16 (by decide)) 2).trans ((congrFun (f175 16 (by decide)) 2).trans ((congrFun (f156 16 (by decide)) 2).trans ((congrFun (f44 16 (by decide)) 2).trans ((congrFun (f31 16 (by decide)) 2).trans (congrFun (f10 16 (by decide)) 2)))))))) ((f235 17 (by decide)).trans ((f217 17 (by decide)).trans ((f183 17 (by decide)).trans ((f175 17 (by decide)).trans ((f156 17 (by decide)).trans ((f44 17 (by decide)).trans ((f31 17 (by decide)).trans (f10 17 (by decide))))))))) hI16
                exact hret r234 σ233 τ _ _ _ _ rfl ⟨rfl, (fun i hi => ((f235 i (imp_48 i hi)).trans ((f217 i (imp_48 i hi)).trans ((f183 i (imp_48 i hi)).trans ((f175 i (imp_48 i hi)).trans ((f156 i (imp_48 i hi)).trans ((f44 i (imp_48 i hi)).trans ((f31 i (imp_49 i hi)).trans (f10 i (imp_48 i hi)))))))))), (fun i hi => ((f236 i (imp_50 i hi)).trans ((f218 i (imp_52 i hi)).trans ((f184 i (imp_51 i hi)).trans ((f176 i (imp_56 i hi)).trans ((f157 i (imp_52 i hi)).trans ((f45 i (imp_51 i hi)).trans ((f32 i (imp_51 i hi)).trans (f11 i (imp_52 i hi)))))))))), (fun i hi => ((congrFun (f235 16 (by decide)) i).trans ((congrFun (f217 16 (by decide)) i).trans ((congrFun (f183 16 (by decide)) i).trans ((congrFun (f175 16 (by decide)) i).trans ((congrFun (f156 16 (by decide)) i).trans ((congrFun (f44 16 (by decide)) i).trans ((congrFun (f31 16 (by decide)) i).trans (congrFun (f10 16 (by decide)) i))))))))), I237, I250, trivial⟩ hP hS dX7_readOrder_147
          · have kc172 := jnlt c172 rfl jz_1
            refine lv_iload_n hx hb dX7_readOrder_105 rfl (lv_at hl 0 rfl) ?_
            refine lv_bipush (v := 12) hx hb dX7_readOrder_106 (by decide) ?_
            refine lv_icmp_le (tgt := 117) hx hb dX7_readOrder_108 (by decide) (fun c251 => ?_) (fun c251 => ?_)
            · have kc251 := jle c251 rfl jz_12
              refine lv_aload_n hx hb dX7_readOrder_117 rfl (lv_at hl 4 rfl) ?_
              refine lv_bipush (v := 114) hx hb dX7_readOrder_118 (by decide) ?_
              refine jcallV (As := [.int 114]) (rest := []) ⟨hx, hb, hml, hown, hts⟩ hK hP hA hS hZ (c_X7_skip_9 l D cI cL ad zz hJ σ154 τ 114 (114) jz_114 I158 I159 I160 (by omega)) cw_RX7_50 (jc_9 cI cL ad σ154 τ) rfl ⟨Nat.le_of_ble_eq_true rfl, Nat.le_of_ble_eq_true rfl⟩ rfl rfl rfl hl.1 rfl (Nat.le_of_ble_eq_true rfl) dX7_readOrder_120 ⟨Nat.zero_le _, Nat.zero_le _⟩ (fun r253 σ252 τ252 H locs h252 hP hS => ?_)
              obtain ⟨rfl, f254, f255, I256, I257, I258, h252⟩ := h252
              obtain ⟨i259, w260, w261⟩ : (0 ≤ (σ252 9 0).toInt ∧ (σ252 9 0).toInt ≤ 80) ∧ (∀ k : Nat, k < 80 → 0 ≤ (σ252 10 k).toInt ∧ (σ252 10 k).toInt ≤ 255) ∧ (∀ k : Nat, k < 8 → 0 ≤ (σ252 11 k).toInt ∧ (σ252 11 k).toInt ≤ 3) := id I256
              obtain ⟨i262, i263⟩ : (0 ≤ (σ252 9 1).toInt) ∧ ((σ252 9 1).toInt ≤ (σ252 9 0).toInt) := id I257
              have i264 : (-1) ≤ (σ252 9 2).toInt := I258
              have z265 : (σ252 9 0).toInt = (σ 9 0).toInt := (congrArg Int32.toInt (show σ252 9 0 = (σ 9 0) from ((f255 0 (by decide)).trans ((f157 0 (by decide)).trans ((f45 0 (by decide)).trans ((f32 0 (by decide)).trans (f11 0 (by decide))))))))
              have z266 : (σ252 9 2).toInt = (σ154 9 2).toInt := (congrArg Int32.toInt (show σ252 9 2 = (σ154 9 2) from (f255 2 (by decide))))
              refine lv_if_eq (tgt := 133) hx hb dX7_readOrder_123 (by decide) (fun c267 => ?_) (fun c267 => ?_)
              · have kc267 := jeq c267 rfl jz_0
                refine lv_aload_n hx hb dX7_readOrder_133 rfl (lv_at hl 4 rfl) ?_
                refine jcallV (As := []) (rest := []) ⟨hx, hb, hml, hown, hts⟩ hK hP hA hS hZ (c_X7_end_9 l D cI cL ad zz hJ σ252 τ I256 I257 I258) cw_RX7_57 (jc_9 cI cL ad σ252 τ) rfl ⟨Nat.le_of_ble_eq_true rfl, Nat.le_of_ble_eq_true rfl⟩ rfl rfl rfl hl.1 rfl (Nat.le_of_ble_eq_true rfl) dX7_readOrder_134 ⟨Nat.zero_le _, Nat.zero_le _⟩ (fun r269 σ268 τ268 H locs h268 hP hS => ?_)
                obtain ⟨rfl, f270, f271, I272, I273, h268⟩ := h268
                obtain ⟨i274, w275, w276⟩ : (0 ≤ (σ268 9 0).toInt ∧ (σ268 9 0).toInt ≤ 80) ∧ (∀ k : Nat, k < 80 → 0 ≤ (σ268 10 k).toInt ∧ (σ268 10 k).toInt ≤ 255) ∧ (∀ k : Nat, k < 8 → 0 ≤ (σ268 11 k).toInt ∧ (σ268 11 k).toInt ≤ 3) := id I272
                have i277 : (-1) ≤ (σ268 9 2).toInt := I273
                rcases h268 with h278 | h279
                · obtain ⟨q281, k280⟩ := h278
                  have q281 := q281.symm
                  subst q281
                  refine lv_istore (lv' := [(5, .int (-1)), (3, .int r155), (4, .int 0), (2, .int x24), (0, .ref (ad 9)), (1, .ref (ad 16))]) hx hb dX7_readOrder_137 hl (by decide) rfl (fun ls hl => ?_)
                  refine lv_iload hx hb dX7_readOrder_139 (lv_at hl 0 rfl) ?_
                  refine lv_iconst (v := (-1)) hx hb dX7_readOrder_141 (by decide) ?_
                  refine lv_icmp_eq (tgt := 148) hx hb dX7_readOrder_142 (by decide) (fun _ => ?_) (fun c => absurd (by decide) c)
                  refine lv_aload_n hx hb dX7_readOrder_148 rfl (lv_at hl 5 rfl) ?_
                  refine lv_iload_n hx hb dX7_readOrder_149 rfl (lv_at hl 3 rfl) ?_
                  refine jput (ty := .int) hx hb hts inlX6 tyX6 tyX6_ok nmX6 hown hK hP hJ hA hS (jc_16 cI cL ad σ268 τ) rfl (k := 0) (by decide) (Nat.le_of_ble_eq_true rfl) (jp_16_0 cI cL ad σ268 τ x24) (hts _ kw_13_18) (fun _ h9 => h9) rfl (by decide +kernel) rfl rfl dX7_readOrder_150 (fun σ282 H locs eσ282 hP hS => ?_)
                  refine lv_aload_n hx hb dX7_readOrder_153 rfl (lv_at hl 5 rfl) ?_
                  refine lv_iload_n hx hb dX7_readOrder_154 rfl (lv_at hl 1 rfl) ?_
                  refine jput (ty := .int) hx hb hts inlX6 tyX6 tyX6_ok nmX6 hown hK hP hJ hA hS (jc_16 cI cL ad σ282 τ) rfl (k := 1) (by decide) (Nat.le_of_ble_eq_true rfl) (jp_16_1 cI cL ad σ282 τ r155) (hts _ kw_13_19) (fun _ h9 => h9) rfl (by decide +kernel) rfl rfl dX7_readOrder_155 (fun σ283 H locs eσ283 hP hS => ?_)
                  refine lv_aload_n hx hb dX7_readOrder_158 rfl (lv_at hl 5 rfl) ?_
                  refine lv_iload hx hb dX7_readOrder_159 (lv_at hl 2 rfl) ?_
                  refine jput (ty := .int) hx hb hts inlX6 tyX6 tyX6_ok nmX6 hown hK hP hJ hA hS (jc_16 cI cL ad σ283 τ) rfl (k := 2) (by decide) (Nat.le_of_ble_eq_true rfl) (jp_16_2 cI cL ad σ283 τ 0) (hts _ kw_13_20) (fun _ h9 => h9) rfl (by decide +kernel) rfl rfl dX7_readOrder_161 (fun σ284 H locs eσ284 hP hS => ?_)
                  refine lv_aload_n hx hb dX7_readOrder_164 rfl (lv_at hl 4 rfl) ?_
                  refine va_get (D := D) hx hb hts inlX7 hown hK hP 9 (jc_9 cI cL ad σ284 τ) rfl 4 (by decide) (hts _ kw_3_21) (fun _ h9 => h9) rfl dX7_readOrder_165 ?_
                  refine lv_iconst (v := 0) hx hb dX7_readOrder_168 (by decide) ?_
                  refine lv_aload_n hx hb dX7_readOrder_169 rfl (lv_at hl 5 rfl) ?_
                  refine va_get (D := D) hx hb hts inlX6 hown hK hP 16 (jc_16 cI cL ad σ284 τ) rfl 3 (by decide) (hts _ kw_13_21) (fun _ h9 => h9) rfl dX7_readOrder_170 ?_
                  refine lv_iconst (v := 0) hx hb dX7_readOrder_173 (by decide) ?_
                  refine lv_iload_n hx hb dX7_readOrder_174 rfl (lv_at hl 3 rfl) ?_
                  refine jcpyI (q0 := 11) (q1 := 17) hx hb (hml.trans hl.1.symm) hown (hts _ kw_13_22) (hts _ kw_13_23) (hts _ kw_14_0) (hts _ kw_14_1) hK hP hJ hA hS (jc_11 cI cL ad σ284 τ) (jc_17 cI cL ad σ284 τ) (fun _ => rfl) jz_0 jz_0 rfl (by omega) (by omega) (by omega) (by omega) (by omega) (Nat.le_of_ble_eq_true rfl) (Nat.le_of_ble_eq_true rfl) dX7_readOrder_175 (fun σ285 H locs eσ285 hP hS => ?_)
                  have w286 : ∀ k : Nat, k < 8 → 0 ≤ (σ284 11 k).toInt ∧ (σ284 11 k).toInt ≤ 3 := (jrr_fr (jnp 11 eσ284 (by decide)) (jrr_fr (jnp 11 eσ283 (by decide)) (jrr_fr (jnp 11 eσ282 (by decide)) w276)))
                  have w287 : ∀ k : Nat, k < 8 → 0 ≤ (σ284 17 k).toInt ∧ (σ284 17 k).toInt ≤ 3 := (jrr_fr (jnp 17 eσ284 (by decide)) (jrr_fr (jnp 17 eσ283 (by decide)) (jrr_fr (jnp 17 eσ282 (by decide)) (jrr_fr (f270 17 (by decide)) (jrr_fr (f254 17 (by decide)) (jrr_fr (f156 17 (by decide)) (jrr_fr (f44 17 (by decide)) (jrr_fr (f31 17 (by decide)) (jrr_fr (f10 17 (by decide)) w7)))))))))
                  have f288 : (∀ i : Nat, (i < 17 ∨ 17 < i) → σ285 i = σ284 i) := by rw [eσ285]; exact jrow_n
                  have w289 : ∀ k : Nat, k < 8 → 0 ≤ (σ285 17 k).toInt ∧ (σ285 17 k).toInt ≤ 3 := by rw [eσ285]; exact jrow_rr w286 w287 jz_0 rfl (n0 := 8) (by omega) (by omega) (by omega)
                  refine lv_iconst (v := (-1)) hx hb dX7_readOrder_178 (by decide) ?_
                  have I290 : jI9 σ285 := jI9_fr ((congrFun (f288 9 (by decide)) 0).trans ((congrFun (jnp 9 eσ284 (by decide)) 0).trans ((congrFun (jnp 9 eσ283 (by decide)) 0).trans (congrFun (jnp 9 eσ282 (by decide)) 0)))) ((f288 10 (by decide)).trans ((jnp 10 eσ284 (by decide)).trans ((jnp 10 eσ283 (by decide)).trans (jnp 10 eσ282 (by decide))))) ((f288 11 (by decide)).trans ((jnp 11 eσ284 (by decide)).trans ((jnp 11 eσ283 (by decide)).trans (jnp 11 eσ282 (by decide))))) I272
                  have z291 : (σ285 16 0).toInt = x24.toInt := (congrArg Int32.toInt (show σ285 16 0 = x24 from ((congrFun (f288 16 (by decide)) 0).trans ((jkp 0 eσ284 (by decide)).trans ((jkp 0 eσ283 (by decide)).trans (jsp eσ282))))))
                  have z292 : (σ285 16 1).toInt = r155.toInt := (congrArg Int32.toInt (show σ285 16 1 = r155 from ((congrFun (f288 16 (by decide)) 1).trans ((jkp 1 eσ284 (by decide)).trans (jsp eσ283)))))
                  have z293 : (σ285 16 2).toInt = 0 := ((congrArg Int32.toInt (show σ285 16 2 = 0 from ((congrFun (f288 16 (by decide)) 2).trans (jsp eσ284)))).trans jz_0)
                  have I294 : jI16 σ285 := ⟨(by omega), (by omega), (by omega), w289⟩
                  exact hret (-1) σ285 τ _ _ _ _ rfl ⟨rfl, (fun i hi => ((f288 i (imp_46 i hi)).trans ((jnp i eσ284 (imp_47 i hi)).trans ((jnp i eσ283 (imp_47 i hi)).trans ((jnp i eσ282 (imp_47 i hi)).trans ((f270 i (imp_48 i hi)).trans ((f254 i (imp_48 i hi)).trans ((f156 i (imp_48 i hi)).trans ((f44 i (imp_48 i hi)).trans ((f31 i (imp_49 i hi)).trans (f10 i (imp_48 i hi)))))))))))), (fun i hi => ((congrFun (f288 9 (by decide)) i).trans ((congrFun (jnp 9 eσ284 (by decide)) i).trans ((congrFun (jnp 9 eσ283 (by decide)) i).trans ((congrFun (jnp 9 eσ282 (by decide)) i).trans ((f271 i (imp_50 i hi)).trans ((f255 i (imp_51 i hi)).trans ((f157 i (imp_52 i hi)).trans ((f45 i (imp_51 i hi)).trans ((f32 i (imp_51 i hi)).trans (f11 i (imp_52 i hi)))))))))))), (fun i hi => ((congrFun (f288 16 (by decide)) i).trans ((jkp i eσ284 (imp_53 i hi)).trans ((jkp i eσ283 (imp_54 i hi)).trans ((jkp i eσ282 (imp_55 i hi)).trans ((congrFun (f270 16 (by decide)) i).trans ((congrFun (f254 16 (by decide)) i).trans ((congrFun (f156 16 (by decide)) i).trans ((congrFun (f44 16 (by decide)) i).trans ((congrFun (f31 16 (by decide)) i).trans (congrFun (f10 16 (by decide)) i))))))))))), I290, I294, trivial⟩ hP hS dX7_readOrder_179
                · obtain ⟨q296, k295⟩ := h279
                  refine lv_istore (lv' := [(5, .int r269), (3, .int r155), (4, .int 0), (2, .int x24), (0, .ref (ad 9)), (1, .ref (ad 16))]) hx hb dX7_readOrder_137 hl (by decide) rfl (fun ls hl => ?_)
                  refine lv_iload hx hb dX7_readOrder_139 (lv_at hl 0 rfl) ?_
                  refine lv_iconst (v := (-1)) hx hb dX7_readOrder_141 (by decide) ?_
                  refine lv_icmp_eq (tgt := 148) hx hb dX7_readOrder_142 (by decide) (fun c => absurd (jeq c rfl jz_m1) (by omega)) (fun c297 => ?_)
                  have kc297 := jne c297 rfl jz_m1
                  refine lv_iload hx hb dX7_readOrder_145 (lv_at hl 0 rfl) ?_
                  have I298 : jI16 σ268 := jI16_fr ((congrFun (f270 16 (by decide)) 0).trans ((congrFun (f254 16 (by decide)) 0).trans ((congrFun (f156 16 (by decide)) 0).trans ((congrFun (f44 16 (by decide)) 0).trans ((congrFun (f31 16 (by decide)) 0).trans (congrFun (f10 16 (by decide)) 0)))))) ((congrFun (f270 16 (by decide)) 1).trans ((congrFun (f254 16 (by decide)) 1).trans ((congrFun (f156 16 (by decide)) 1).trans ((congrFun (f44 16 (by decide)) 1).trans ((congrFun (f31 16 (by decide)) 1).trans (congrFun (f10 16 (by decide)) 1)))))) ((congrFun (f270 16 (by decide)) 2).trans ((congrFun (f254 16 (by decide)) 2).trans ((congrFun (f156 16 (by decide)) 2).trans ((congrFun (f44 16 (by decide)) 2).trans ((congrFun (f31 16 (by decide)) 2).trans (congrFun (f10 16 (by decide)) 2)))))) ((f270 17 (by decide)).trans ((f254 17 (by decide)).trans ((f156 17 (by decide)).trans ((f44 17 (by decide)).trans ((f31 17 (by decide)).trans (f10 17 (by decide))))))) hI16
                  exact hret r269 σ268 τ _ _ _ _ rfl ⟨rfl, (fun i hi => ((f270 i (imp_48 i hi)).trans ((f254 i (imp_48 i hi)).trans ((f156 i (imp_48 i hi)).trans ((f44 i (imp_48 i hi)).trans ((f31 i (imp_49 i hi)).trans (f10 i (imp_48 i hi)))))))), (fun i hi => ((f271 i (imp_50 i hi)).trans ((f255 i (imp_51 i hi)).trans ((f157 i (imp_52 i hi)).trans ((f45 i (imp_51 i hi)).trans ((f32 i (imp_51 i hi)).trans (f11 i (imp_52 i hi)))))))), (fun i hi => ((congrFun (f270 16 (by decide)) i).trans ((congrFun (f254 16 (by decide)) i).trans ((congrFun (f156 16 (by decide)) i).trans ((congrFun (f44 16 (by decide)) i).trans ((congrFun (f31 16 (by decide)) i).trans (congrFun (f10 16 (by decide)) i))))))), I272, I298, trivial⟩ hP hS dX7_readOrder_147
              · have kc267 := jne c267 rfl jz_0
                refine lv_aload_n hx hb dX7_readOrder_126 rfl (lv_at hl 4 rfl) ?_
                refine lv_iconst (v := 3) hx hb dX7_readOrder_127 (by decide) ?_
                refine jcallV (As := [.int 3]) (rest := []) ⟨hx, hb, hml, hown, hts⟩ hK hP hA hS hZ (c_X7_number_3 l D cI cL ad zz hJ σ252 τ I256 I257 I258) cw_RX7_53 (jc_9 cI cL ad σ252 τ) rfl ⟨Nat.le_of_ble_eq_true rfl, Nat.le_of_ble_eq_true rfl⟩ rfl rfl rfl hl.1 rfl (Nat.le_of_ble_eq_true rfl) dX7_readOrder_128 ⟨Nat.zero_le _, Nat.zero_le _⟩ (fun r300 σ299 τ299 H locs h299 hP hS => ?_)
                obtain ⟨rfl, f301, f302, I303, I304, I305, h299⟩ := h299
                obtain ⟨i306, w307, w308⟩ : (0 ≤ (σ299 9 0).toInt ∧ (σ299 9 0).toInt ≤ 80) ∧ (∀ k : Nat, k < 80 → 0 ≤ (σ299 10 k).toInt ∧ (σ299 10 k).toInt ≤ 255) ∧ (∀ k : Nat, k < 8 → 0 ≤ (σ299 11 k).toInt ∧ (σ299 11 k).toInt ≤ 3) := id I303
                obtain ⟨i309, i310⟩ : (0 ≤ (σ299 9 1).toInt) ∧ ((σ299 9 1).toInt ≤ (σ299 9 0).toInt) := id I304
                have i311 : (-1) ≤ (σ299 9 2).toInt := I305
                have z312 : (σ299 9 0).toInt = (σ 9 0).toInt := (congrArg Int32.toInt (show σ299 9 0 = (σ 9 0) from ((f302 0 (by decide)).trans ((f255 0 (by decide)).trans ((f157 0 (by decide)).trans ((f45 0 (by decide)).trans ((f32 0 (by decide)).trans (f11 0 (by decide)))))))))
                obtain ⟨k313, h299⟩ := h299
                have h314 := h299
                obtain ⟨q316, k315⟩ := h314
                refine lv_istore (lv' := [(4, .int r300), (3, .int r155), (5, .int (σ42 9 1)), (2, .int x24), (0, .ref (ad 9)), (1, .ref (ad 16))]) hx hb dX7_readOrder_131 hl (by decide) rfl (fun ls hl => ?_)
                refine lv_aload_n hx hb dX7_readOrder_133 rfl (lv_at hl 4 rfl) ?_
                refine jcallV (As := []) (rest := []) ⟨hx, hb, hml, hown, hts⟩ hK hP hA hS hZ (c_X7_end_9 l D cI cL ad zz hJ σ299 τ I303 I304 I305) cw_RX7_57 (jc_9 cI cL ad σ299 τ) rfl ⟨Nat.le_of_ble_eq_true rfl, Nat.le_of_ble_eq_true rfl⟩ rfl rfl rfl hl.1 rfl (Nat.le_of_ble_eq_true rfl) dX7_readOrder_134 ⟨Nat.zero_le _, Nat.zero_le _⟩ (fun r318 σ317 τ317 H locs h317 hP hS => ?_)
                obtain ⟨rfl, f319, f320, I321, I322, h317⟩ := h317
                obtain ⟨i323, w324, w325⟩ : (0 ≤ (σ317 9 0).toInt ∧ (σ317 9 0).toInt ≤ 80) ∧ (∀ k : Nat, k < 80 → 0 ≤ (σ317 10 k).toInt ∧ (σ317 10 k).toInt ≤ 255) ∧ (∀ k : Nat, k < 8 → 0 ≤ (σ317 11 k).toInt ∧ (σ317 11 k).toInt ≤ 3) := id I321
                have i326 : (-1) ≤ (σ317 9 2).toInt := I322
                rcases h317 with h327 | h328
                · obtain ⟨q330, k329⟩ := h327
                  have q330 := q330.symm
                  subst q330
                  refine lv_istore (lv' := [(5, .int (-1)), (4, .int r300), (3, .int r155), (2, .int x24), (0, .ref (ad 9)), (1, .ref (ad 16))]) hx hb dX7_readOrder_137 hl (by decide) rfl (fun ls hl => ?_)
                  refine lv_iload hx hb dX7_readOrder_139 (lv_at hl 0 rfl) ?_
                  refine lv_iconst (v := (-1)) hx hb dX7_readOrder_141 (by decide) ?_
                  refine lv_icmp_eq (tgt := 148) hx hb dX7_readOrder_142 (by decide) (fun _ => ?_) (fun c => absurd (by decide) c)
                  refine lv_aload_n hx hb dX7_readOrder_148 rfl (lv_at hl 5 rfl) ?_
                  refine lv_iload_n hx hb dX7_readOrder_149 rfl (lv_at hl 3 rfl) ?_
                  refine jput (ty := .int) hx hb hts inlX6 tyX6 tyX6_ok nmX6 hown hK hP hJ hA hS (jc_16 cI cL ad σ317 τ) rfl (k := 0) (by decide) (Nat.le_of_ble_eq_true rfl) (jp_16_0 cI cL ad σ317 τ x24) (hts _ kw_13_18) (fun _ h9 => h9) rfl (by decide +kernel) rfl rfl dX7_readOrder_150 (fun σ331 H locs eσ331 hP hS => ?_)
                  refine lv_aload_n hx hb dX7_readOrder_153 rfl (lv_at hl 5 rfl) ?_
                  refine lv_iload_n hx hb dX7_readOrder_154 rfl (lv_at hl 2 rfl) ?_
                  refine jput (ty := .int) hx hb hts inlX6 tyX6 tyX6_ok nmX6 hown hK hP hJ hA hS (jc_16 cI cL ad σ331 τ) rfl (k := 1) (by decide) (Nat.le_of_ble_eq_true rfl) (jp_16_1 cI cL ad σ331 τ r155) (hts _ kw_13_19) (fun _ h9 => h9) rfl (by decide +kernel) rfl rfl dX7_readOrder_155 (fun σ332 H locs eσ332 hP hS => ?_)
                  refine lv_aload_n hx hb dX7_readOrder_158 rfl (lv_at hl 5 rfl) ?_
                  refine lv_iload hx hb dX7_readOrder_159 (lv_at hl 1 rfl) ?_
                  refine jput (ty := .int) hx hb hts inlX6 tyX6 tyX6_ok nmX6 hown hK hP hJ hA hS (jc_16 cI cL ad σ332 τ) rfl (k := 2) (by decide) (Nat.le_of_ble_eq_true rfl) (jp_16_2 cI cL ad σ332 τ r300) (hts _ kw_13_20) (fun _ h9 => h9) rfl (by decide +kernel) rfl rfl dX7_readOrder_161 (fun σ333 H locs eσ333 hP hS => ?_)
                  refine lv_aload_n hx hb dX7_readOrder_164 rfl (lv_at hl 4 rfl) ?_
                  refine va_get (D := D) hx hb hts inlX7 hown hK hP 9 (jc_9 cI cL ad σ333 τ) rfl 4 (by decide) (hts _ kw_3_21) (fun _ h9 => h9) rfl dX7_readOrder_165 ?_
                  refine lv_iconst (v := 0) hx hb dX7_readOrder_168 (by decide) ?_
                  refine lv_aload_n hx hb dX7_readOrder_169 rfl (lv_at hl 5 rfl) ?_
                  refine va_get (D := D) hx hb hts inlX6 hown hK hP 16 (jc_16 cI cL ad σ333 τ) rfl 3 (by decide) (hts _ kw_13_21) (fun _ h9 => h9) rfl dX7_readOrder_170 ?_
                  refine lv_iconst (v := 0) hx hb dX7_readOrder_173 (by decide) ?_
                  refine lv_iload_n hx hb dX7_readOrder_174 rfl (lv_at hl 3 rfl) ?_
                  refine jcpyI (q0 := 11) (q1 := 17) hx hb (hml.trans hl.1.symm) hown (hts _ kw_13_22) (hts _ kw_13_23) (hts _ kw_14_0) (hts _ kw_14_1) hK hP hJ hA hS (jc_11 cI cL ad σ333 τ) (jc_17 cI cL ad σ333 τ) (fun _ => rfl) jz_0 jz_0 rfl (by omega) (by omega) (by omega) (by omega) (by omega) (Nat.le_of_ble_eq_true rfl) (Nat.le_of_ble_eq_true rfl) dX7_readOrder_175 (fun σ334 H locs eσ334 hP hS => ?_)
                  have w335 : ∀ k : Nat, k < 8 → 0 ≤ (σ333 11 k).toInt ∧ (σ333 11 k).toInt ≤ 3 := (jrr_fr (jnp 11 eσ333 (by decide)) (jrr_fr (jnp 11 eσ332 (by decide)) (jrr_fr (jnp 11 eσ331 (by decide)) w325)))
                  have w336 : ∀ k : Nat, k < 8 → 0 ≤ (σ333 17 k).toInt ∧ (σ333 17 k).toInt ≤ 3 := (jrr_fr (jnp 17 eσ333 (by decide)) (jrr_fr (jnp 17 eσ332 (by decide)) (jrr_fr (jnp 17 eσ331 (by decide)) (jrr_fr (f319 17 (by decide)) (jrr_fr (f301 17 (by decide)) (jrr_fr (f254 17 (by decide)) (jrr_fr (f156 17 (by decide)) (jrr_fr (f44 17 (by decide)) (jrr_fr (f31 17 (by decide)) (jrr_fr (f10 17 (by decide)) w7))))))))))
                  have f337 : (∀ i : Nat, (i < 17 ∨ 17 < i) → σ334 i = σ333 i) := by rw [eσ334]; exact jrow_n
                  have w338 : ∀ k : Nat, k < 8 → 0 ≤ (σ334 17 k).toInt ∧ (σ334 17 k).toInt ≤ 3 := by rw [eσ334]; exact jrow_rr w335 w336 jz_0 rfl (n0 := 8) (by omega) (by omega) (by omega)
                  refine lv_iconst (v := (-1)) hx hb dX7_readOrder_178 (by decide) ?_
                  have I339 : jI9 σ334 := jI9_fr ((congrFun (f337 9 (by decide)) 0).trans ((congrFun (jnp 9 eσ333 (by decide)) 0).trans ((congrFun (jnp 9 eσ332 (by decide)) 0).trans (congrFun (jnp 9 eσ331 (by decide)) 0)))) ((f337 10 (by decide)).trans ((jnp 10 eσ333 (by decide)).trans ((jnp 10 eσ332 (by decide)).trans (jnp 10 eσ331 (by decide))))) ((f337 11 (by decide)).trans ((jnp 11 eσ333 (by decide)).trans ((jnp 11 eσ332 (by decide)).trans (jnp 11 eσ331 (by decide))))) I321
                  have z340 : (σ334 16 0).toInt = x24.toInt := (congrArg Int32.toInt (show σ334 16 0 = x24 from ((congrFun (f337 16 (by decide)) 0).trans ((jkp 0 eσ333 (by decide)).trans ((jkp 0 eσ332 (by decide)).trans (jsp eσ331))))))
                  have z341 : (σ334 16 1).toInt = r155.toInt := (congrArg Int32.toInt (show σ334 16 1 = r155 from ((congrFun (f337 16 (by decide)) 1).trans ((jkp 1 eσ333 (by decide)).trans (jsp eσ332)))))
                  have z342 : (σ334 16 2).toInt = r300.toInt := (congrArg Int32.toInt (show σ334 16 2 = r300 from ((congrFun (f337 16 (by decide)) 2).trans (jsp eσ333))))
                  have I343 : jI16 σ334 := ⟨(by omega), (by omega), (by omega), w338⟩
                  exact hret (-1) σ334 τ _ _ _ _ rfl ⟨rfl, (fun i hi => ((f337 i (imp_46 i hi)).trans ((jnp i eσ333 (imp_47 i hi)).trans ((jnp i eσ332 (imp_47 i hi)).trans ((jnp i eσ331 (imp_47 i hi)).trans ((f319 i (imp_48 i hi)).trans ((f301 i (imp_48 i hi)).trans ((f254 i (imp_48 i hi)).trans ((f156 i (imp_48 i hi)).trans ((f44 i (imp_48 i hi)).trans ((f31 i (imp_49 i hi)).trans (f10 i (imp_48 i hi))))))))))))), (fun i hi => ((congrFun (f337 9 (by decide)) i).trans ((congrFun (jnp 9 eσ333 (by decide)) i).trans ((congrFun (jnp 9 eσ332 (by decide)) i).trans ((congrFun (jnp 9 eσ331 (by decide)) i).trans ((f320 i (imp_50 i hi)).trans ((f302 i (imp_52 i hi)).trans ((f255 i (imp_51 i hi)).trans ((f157 i (imp_52 i hi)).trans ((f45 i (imp_51 i hi)).trans ((f32 i (imp_51 i hi)).trans (f11 i (imp_52 i hi))))))))))))), (fun i hi => ((congrFun (f337 16 (by decide)) i).trans ((jkp i eσ333 (imp_53 i hi)).trans ((jkp i eσ332 (imp_54 i hi)).trans ((jkp i eσ331 (imp_55 i hi)).trans ((congrFun (f319 16 (by decide)) i).trans ((congrFun (f301 16 (by decide)) i).trans ((congrFun (f254 16 (by decide)) i).trans ((congrFun (f156 16 (by decide)) i).trans ((congrFun (f44 16 (by decide)) i).trans ((congrFun (f31 16 (by decide)) i).trans (congrFun (f10 16 (by decide)) i)))))))))))), I339, I343, trivial⟩ hP hS dX7_readOrder_179
                · obtain ⟨q345, k344⟩ := h328
                  refine lv_istore (lv' := [(5, .int r318), (4, .int r300), (3, .int r155), (2, .int x24), (0, .ref (ad 9)), (1, .ref (ad 16))]) hx hb dX7_readOrder_137 hl (by decide) rfl (fun ls hl => ?_)
                  refine lv_iload hx hb dX7_readOrder_139 (lv_at hl 0 rfl) ?_
                  refine lv_iconst (v := (-1)) hx hb dX7_readOrder_141 (by decide) ?_
                  refine lv_icmp_eq (tgt := 148) hx hb dX7_readOrder_142 (by decide) (fun c => absurd (jeq c rfl jz_m1) (by omega)) (fun c346 => ?_)
                  have kc346 := jne c346 rfl jz_m1
                  refine lv_iload hx hb dX7_readOrder_145 (lv_at hl 0 rfl) ?_
                  have I347 : jI16 σ317 := jI16_fr ((congrFun (f319 16 (by decide)) 0).trans ((congrFun (f301 16 (by decide)) 0).trans ((congrFun (f254 16 (by decide)) 0).trans ((congrFun (f156 16 (by decide)) 0).trans ((congrFun (f44 16 (by decide)) 0).trans ((congrFun (f31 16 (by decide)) 0).trans (congrFun (f10 16 (by decide)) 0))))))) ((congrFun (f319 16 (by decide)) 1).trans ((congrFun (f301 16 (by decide)) 1).trans ((congrFun (f254 16 (by decide)) 1).trans ((congrFun (f156 16 (by decide)) 1).trans ((congrFun (f44 16 (by decide)) 1).trans ((congrFun (f31 16 (by decide)) 1).trans (congrFun (f10 16 (by decide)) 1))))))) ((congrFun (f319 16 (by decide)) 2).trans ((congrFun (f301 16 (by decide)) 2).trans ((congrFun (f254 16 (by decide)) 2).trans ((congrFun (f156 16 (by decide)) 2).trans ((congrFun (f44 16 (by decide)) 2).trans ((congrFun (f31 16 (by decide)) 2).trans (congrFun (f10 16 (by decide)) 2))))))) ((f319 17 (by decide)).trans ((f301 17 (by decide)).trans ((f254 17 (by decide)).trans ((f156 17 (by decide)).trans ((f44 17 (by decide)).trans ((f31 17 (by decide)).trans (f10 17 (by decide)))))))) hI16
                  exact hret r318 σ317 τ _ _ _ _ rfl ⟨rfl, (fun i hi => ((f319 i (imp_48 i hi)).trans ((f301 i (imp_48 i hi)).trans ((f254 i (imp_48 i hi)).trans ((f156 i (imp_48 i hi)).trans ((f44 i (imp_48 i hi)).trans ((f31 i (imp_49 i hi)).trans (f10 i (imp_48 i hi))))))))), (fun i hi => ((f320 i (imp_50 i hi)).trans ((f302 i (imp_52 i hi)).trans ((f255 i (imp_51 i hi)).trans ((f157 i (imp_52 i hi)).trans ((f45 i (imp_51 i hi)).trans ((f32 i (imp_51 i hi)).trans (f11 i (imp_52 i hi))))))))), (fun i hi => ((congrFun (f319 16 (by decide)) i).trans ((congrFun (f301 16 (by decide)) i).trans ((congrFun (f254 16 (by decide)) i).trans ((congrFun (f156 16 (by decide)) i).trans ((congrFun (f44 16 (by decide)) i).trans ((congrFun (f31 16 (by decide)) i).trans (congrFun (f10 16 (by decide)) i)))))))), I321, I347, trivial⟩ hP hS dX7_readOrder_147
            · have kc251 := jnle c251 rfl jz_12
              refine lv_aload_n hx hb dX7_readOrder_111 rfl (lv_at hl 4 rfl) ?_
              refine lv_iload hx hb dX7_readOrder_112 (lv_at hl 1 rfl) ?_
              refine jcallVv (As := [.int (σ42 9 1)]) (rest := []) ⟨hx, hb, hml, hown, hts⟩ hK hP hA hS hZ (c_X7_fail_9 l D cI cL ad zz hJ σ154 τ (σ42 9 1) ((σ42 9 1).toInt) rfl I160 (by omega)) cw_RX7_43 (jc_9 cI cL ad σ154 τ) rfl ⟨Nat.le_of_ble_eq_true rfl, Nat.le_of_ble_eq_true rfl⟩ rfl rfl rfl hl.1 rfl (Nat.le_of_ble_eq_true rfl) dX7_readOrder_114 ⟨Nat.zero_le _, Nat.zero_le _⟩ (fun σ348 τ348 H locs h348 hP hS => ?_)
              obtain ⟨rfl, f350, f351, h348⟩ := h348
              obtain ⟨k352, h348⟩ := h348
              refine lv_aload_n hx hb dX7_readOrder_117 rfl (lv_at hl 4 rfl) ?_
              refine lv_bipush (v := 114) hx hb dX7_readOrder_118 (by decide) ?_
              have I353 : jI9 σ348 := jI9_fr (f351 0 (by decide)) (f350 10 (by decide)) (f350 11 (by decide)) I158
              have I354 : jI91 σ348 := jI91_fr (f351 0 (by decide)) (f351 1 (by decide)) I159
              have I355 : jI92 σ348 := (show (-1) ≤ (σ348 9 2).toInt by omega)
              refine jcallV (As := [.int 114]) (rest := []) ⟨hx, hb, hml, hown, hts⟩ hK hP hA hS hZ (c_X7_skip_9 l D cI cL ad zz hJ σ348 τ 114 (114) jz_114 I353 I354 I355 (by omega)) cw_RX7_50 (jc_9 cI cL ad σ348 τ) rfl ⟨Nat.le_of_ble_eq_true rfl, Nat.le_of_ble_eq_true rfl⟩ rfl rfl rfl hl.1 rfl (Nat.le_of_ble_eq_true rfl) dX7_readOrder_120 ⟨Nat.zero_le _, Nat.zero_le _⟩ (fun r357 σ356 τ356 H locs h356 hP hS => ?_)
              obtain ⟨rfl, f358, f359, I360, I361, I362, h356⟩ := h356
              obtain ⟨i363, w364, w365⟩ : (0 ≤ (σ356 9 0).toInt ∧ (σ356 9 0).toInt ≤ 80) ∧ (∀ k : Nat, k < 80 → 0 ≤ (σ356 10 k).toInt ∧ (σ356 10 k).toInt ≤ 255) ∧ (∀ k : Nat, k < 8 → 0 ≤ (σ356 11 k).toInt ∧ (σ356 11 k).toInt ≤ 3) := id I360
              obtain ⟨i366, i367⟩ : (0 ≤ (σ356 9 1).toInt) ∧ ((σ356 9 1).toInt ≤ (σ356 9 0).toInt) := id I361
              have i368 : (-1) ≤ (σ356 9 2).toInt := I362
              have z369 : (σ356 9 0).toInt = (σ 9 0).toInt := (congrArg Int32.toInt (show σ356 9 0 = (σ 9 0) from ((f359 0 (by decide)).trans ((f351 0 (by decide)).trans ((f157 0 (by decide)).trans ((f45 0 (by decide)).trans ((f32 0 (by decide)).trans (f11 0 (by decide)))))))))
              have z370 : (σ356 9 2).toInt = (σ348 9 2).toInt := (congrArg Int32.toInt (show σ356 9 2 = (σ348 9 2) from (f359 2 (by decide))))
              refine lv_if_eq (tgt := 133) hx hb dX7_readOrder_123 (by decide) (fun c371 => ?_) (fun c371 => ?_)
              · have kc371 := jeq c371 rfl jz_0
                refine lv_aload_n hx hb dX7_readOrder_133 rfl (lv_at hl 4 rfl) ?_
                refine jcallV (As := []) (rest := []) ⟨hx, hb, hml, hown, hts⟩ hK hP hA hS hZ (c_X7_end_9 l D cI cL ad zz hJ σ356 τ I360 I361 I362) cw_RX7_57 (jc_9 cI cL ad σ356 τ) rfl ⟨Nat.le_of_ble_eq_true rfl, Nat.le_of_ble_eq_true rfl⟩ rfl rfl rfl hl.1 rfl (Nat.le_of_ble_eq_true rfl) dX7_readOrder_134 ⟨Nat.zero_le _, Nat.zero_le _⟩ (fun r373 σ372 τ372 H locs h372 hP hS => ?_)
                obtain ⟨rfl, f374, f375, I376, I377, h372⟩ := h372
                obtain ⟨i378, w379, w380⟩ : (0 ≤ (σ372 9 0).toInt ∧ (σ372 9 0).toInt ≤ 80) ∧ (∀ k : Nat, k < 80 → 0 ≤ (σ372 10 k).toInt ∧ (σ372 10 k).toInt ≤ 255) ∧ (∀ k : Nat, k < 8 → 0 ≤ (σ372 11 k).toInt ∧ (σ372 11 k).toInt ≤ 3) := id I376
                have i381 : (-1) ≤ (σ372 9 2).toInt := I377
                rcases h372 with h382 | h383
                · obtain ⟨q385, k384⟩ := h382
                  exact absurd (by omega : False) id
                · obtain ⟨q387, k386⟩ := h383
                  refine lv_istore (lv' := [(5, .int r373), (3, .int r155), (4, .int 0), (2, .int x24), (0, .ref (ad 9)), (1, .ref (ad 16))]) hx hb dX7_readOrder_137 hl (by decide) rfl (fun ls hl => ?_)
                  refine lv_iload hx hb dX7_readOrder_139 (lv_at hl 0 rfl) ?_
                  refine lv_iconst (v := (-1)) hx hb dX7_readOrder_141 (by decide) ?_
                  refine lv_icmp_eq (tgt := 148) hx hb dX7_readOrder_142 (by decide) (fun c => absurd (jeq c rfl jz_m1) (by omega)) (fun c388 => ?_)
                  have kc388 := jne c388 rfl jz_m1
                  refine lv_iload hx hb dX7_readOrder_145 (lv_at hl 0 rfl) ?_
                  have I389 : jI16 σ372 := jI16_fr ((congrFun (f374 16 (by decide)) 0).trans ((congrFun (f358 16 (by decide)) 0).trans ((congrFun (f350 16 (by decide)) 0).trans ((congrFun (f156 16 (by decide)) 0).trans ((congrFun (f44 16 (by decide)) 0).trans ((congrFun (f31 16 (by decide)) 0).trans (congrFun (f10 16 (by decide)) 0))))))) ((congrFun (f374 16 (by decide)) 1).trans ((congrFun (f358 16 (by decide)) 1).trans ((congrFun (f350 16 (by decide)) 1).trans ((congrFun (f156 16 (by decide)) 1).trans ((congrFun (f44 16 (by decide)) 1).trans ((congrFun (f31 16 (by decide)) 1).trans (congrFun (f10 16 (by decide)) 1))))))) ((congrFun (f374 16 (by decide)) 2).trans ((congrFun (f358 16 (by decide)) 2).trans ((congrFun (f350 16 (by decide)) 2).trans ((congrFun (f156 16 (by decide)) 2).trans ((congrFun (f44 16 (by decide)) 2).trans ((congrFun (f31 16 (by decide)) 2).trans (congrFun (f10 16 (by decide)) 2))))))) ((f374 17 (by decide)).trans ((f358 17 (by decide)).trans ((f350 17 (by decide)).trans ((f156 17 (by decide)).trans ((f44 17 (by decide)).trans ((f31 17 (by decide)).trans (f10 17 (by decide)))))))) hI16
                  exact hret r373 σ372 τ _ _ _ _ rfl ⟨rfl, (fun i hi => ((f374 i (imp_48 i hi)).trans ((f358 i (imp_48 i hi)).trans ((f350 i (imp_48 i hi)).trans ((f156 i (imp_48 i hi)).trans ((f44 i (imp_48 i hi)).trans ((f31 i (imp_49 i hi)).trans (f10 i (imp_48 i hi))))))))), (fun i hi => ((f375 i (imp_50 i hi)).trans ((f359 i (imp_51 i hi)).trans ((f351 i (imp_56 i hi)).trans ((f157 i (imp_52 i hi)).trans ((f45 i (imp_51 i hi)).trans ((f32 i (imp_51 i hi)).trans (f11 i (imp_52 i hi))))))))), (fun i hi => ((congrFun (f374 16 (by decide)) i).trans ((congrFun (f358 16 (by decide)) i).trans ((congrFun (f350 16 (by decide)) i).trans ((congrFun (f156 16 (by decide)) i).trans ((congrFun (f44 16 (by decide)) i).trans ((congrFun (f31 16 (by decide)) i).trans (congrFun (f10 16 (by decide)) i)))))))), I376, I389, trivial⟩ hP hS dX7_readOrder_147
              · have kc371 := jne c371 rfl jz_0
                refine lv_aload_n hx hb dX7_readOrder_126 rfl (lv_at hl 4 rfl) ?_
                refine lv_iconst (v := 3) hx hb dX7_readOrder_127 (by decide) ?_
                refine jcallV (As := [.int 3]) (rest := []) ⟨hx, hb, hml, hown, hts⟩ hK hP hA hS hZ (c_X7_number_3 l D cI cL ad zz hJ σ356 τ I360 I361 I362) cw_RX7_53 (jc_9 cI cL ad σ356 τ) rfl ⟨Nat.le_of_ble_eq_true rfl, Nat.le_of_ble_eq_true rfl⟩ rfl rfl rfl hl.1 rfl (Nat.le_of_ble_eq_true rfl) dX7_readOrder_128 ⟨Nat.zero_le _, Nat.zero_le _⟩ (fun r391 σ390 τ390 H locs h390 hP hS => ?_)
                obtain ⟨rfl, f392, f393, I394, I395, I396, h390⟩ := h390
                obtain ⟨i397, w398, w399⟩ : (0 ≤ (σ390 9 0).toInt ∧ (σ390 9 0).toInt ≤ 80) ∧ (∀ k : Nat, k < 80 → 0 ≤ (σ390 10 k).toInt ∧ (σ390 10 k).toInt ≤ 255) ∧ (∀ k : Nat, k < 8 → 0 ≤ (σ390 11 k).toInt ∧ (σ390 11 k).toInt ≤ 3) := id I394
                obtain ⟨i400, i401⟩ : (0 ≤ (σ390 9 1).toInt) ∧ ((σ390 9 1).toInt ≤ (σ390 9 0).toInt) := id I395
                have i402 : (-1) ≤ (σ390 9 2).toInt := I396
                have z403 : (σ390 9 0).toInt = (σ 9 0).toInt := (congrArg Int32.toInt (show σ390 9 0 = (σ 9 0) from ((f393 0 (by decide)).trans ((f359 0 (by decide)).trans ((f351 0 (by decide)).trans ((f157 0 (by decide)).trans ((f45 0 (by decide)).trans ((f32 0 (by decide)).trans (f11 0 (by decide))))))))))
                obtain ⟨k404, h390⟩ := h390
                have h405 := h390
                obtain ⟨q407, k406⟩ := h405
                refine lv_istore (lv' := [(4, .int r391), (3, .int r155), (5, .int (σ42 9 1)), (2, .int x24), (0, .ref (ad 9)), (1, .ref (ad 16))]) hx hb dX7_readOrder_131 hl (by decide) rfl (fun ls hl => ?_)
                refine lv_aload_n hx hb dX7_readOrder_133 rfl (lv_at hl 4 rfl) ?_
                refine jcallV (As := []) (rest := []) ⟨hx, hb, hml, hown, hts⟩ hK hP hA hS hZ (c_X7_end_9 l D cI cL ad zz hJ σ390 τ I394 I395 I396) cw_RX7_57 (jc_9 cI cL ad σ390 τ) rfl ⟨Nat.le_of_ble_eq_true rfl, Nat.le_of_ble_eq_true rfl⟩ rfl rfl rfl hl.1 rfl (Nat.le_of_ble_eq_true rfl) dX7_readOrder_134 ⟨Nat.zero_le _, Nat.zero_le _⟩ (fun r409 σ408 τ408 H locs h408 hP hS => ?_)
                obtain ⟨rfl, f410, f411, I412, I413, h408⟩ := h408
                obtain ⟨i414, w415, w416⟩ : (0 ≤ (σ408 9 0).toInt ∧ (σ408 9 0).toInt ≤ 80) ∧ (∀ k : Nat, k < 80 → 0 ≤ (σ408 10 k).toInt ∧ (σ408 10 k).toInt ≤ 255) ∧ (∀ k : Nat, k < 8 → 0 ≤ (σ408 11 k).toInt ∧ (σ408 11 k).toInt ≤ 3) := id I412
                have i417 : (-1) ≤ (σ408 9 2).toInt := I413
                rcases h408 with h418 | h419
                · obtain ⟨q421, k420⟩ := h418
                  exact absurd (by omega : False) id
                · obtain ⟨q423, k422⟩ := h419
                  refine lv_istore (lv' := [(5, .int r409), (4, .int r391), (3, .int r155), (2, .int x24), (0, .ref (ad 9)), (1, .ref (ad 16))]) hx hb dX7_readOrder_137 hl (by decide) rfl (fun ls hl => ?_)
                  refine lv_iload hx hb dX7_readOrder_139 (lv_at hl 0 rfl) ?_
                  refine lv_iconst (v := (-1)) hx hb dX7_readOrder_141 (by decide) ?_
                  refine lv_icmp_eq (tgt := 148) hx hb dX7_readOrder_142 (by decide) (fun c => absurd (jeq c rfl jz_m1) (by omega)) (fun c424 => ?_)
                  have kc424 := jne c424 rfl jz_m1
                  refine lv_iload hx hb dX7_readOrder_145 (lv_at hl 0 rfl) ?_
                  have I425 : jI16 σ408 := jI16_fr ((congrFun (f410 16 (by decide)) 0).trans ((congrFun (f392 16 (by decide)) 0).trans ((congrFun (f358 16 (by decide)) 0).trans ((congrFun (f350 16 (by decide)) 0).trans ((congrFun (f156 16 (by decide)) 0).trans ((congrFun (f44 16 (by decide)) 0).trans ((congrFun (f31 16 (by decide)) 0).trans (congrFun (f10 16 (by decide)) 0)))))))) ((congrFun (f410 16 (by decide)) 1).trans ((congrFun (f392 16 (by decide)) 1).trans ((congrFun (f358 16 (by decide)) 1).trans ((congrFun (f350 16 (by decide)) 1).trans ((congrFun (f156 16 (by decide)) 1).trans ((congrFun (f44 16 (by decide)) 1).trans ((congrFun (f31 16 (by decide)) 1).trans (congrFun (f10 16 (by decide)) 1)))))))) ((congrFun (f410 16 (by decide)) 2).trans ((congrFun (f392 16 (by decide)) 2).trans ((congrFun (f358 16 (by decide)) 2).trans ((congrFun (f350 16 (by decide)) 2).trans ((congrFun (f156 16 (by decide)) 2).trans ((congrFun (f44 16 (by decide)) 2).trans ((congrFun (f31 16 (by decide)) 2).trans (congrFun (f10 16 (by decide)) 2)))))))) ((f410 17 (by decide)).trans ((f392 17 (by decide)).trans ((f358 17 (by decide)).trans ((f350 17 (by decide)).trans ((f156 17 (by decide)).trans ((f44 17 (by decide)).trans ((f31 17 (by decide)).trans (f10 17 (by decide))))))))) hI16
                  exact hret r409 σ408 τ _ _ _ _ rfl ⟨rfl, (fun i hi => ((f410 i (imp_48 i hi)).trans ((f392 i (imp_48 i hi)).trans ((f358 i (imp_48 i hi)).trans ((f350 i (imp_48 i hi)).trans ((f156 i (imp_48 i hi)).trans ((f44 i (imp_48 i hi)).trans ((f31 i (imp_49 i hi)).trans (f10 i (imp_48 i hi)))))))))), (fun i hi => ((f411 i (imp_50 i hi)).trans ((f393 i (imp_52 i hi)).trans ((f359 i (imp_51 i hi)).trans ((f351 i (imp_56 i hi)).trans ((f157 i (imp_52 i hi)).trans ((f45 i (imp_51 i hi)).trans ((f32 i (imp_51 i hi)).trans (f11 i (imp_52 i hi)))))))))), (fun i hi => ((congrFun (f410 16 (by decide)) i).trans ((congrFun (f392 16 (by decide)) i).trans ((congrFun (f358 16 (by decide)) i).trans ((congrFun (f350 16 (by decide)) i).trans ((congrFun (f156 16 (by decide)) i).trans ((congrFun (f44 16 (by decide)) i).trans ((congrFun (f31 16 (by decide)) i).trans (congrFun (f10 16 (by decide)) i))))))))), I412, I425, trivial⟩ hP hS dX7_readOrder_147
      · have kc38 := jnle c38 jz_8 rfl
        refine lv_aload_n hx hb dX7_readOrder_18 rfl (lv_at hl 3 rfl) ?_
        refine jcallV (As := []) (rest := []) ⟨hx, hb, hml, hown, hts⟩ hK hP hA hS hZ (c_X7_sign_9 l D cI cL ad zz hJ σ25 τ p33) cw_RX7_35 (jc_9 cI cL ad σ25 τ) rfl ⟨Nat.le_of_ble_eq_true rfl, Nat.le_of_ble_eq_true rfl⟩ rfl rfl rfl hl.1 rfl (Nat.le_of_ble_eq_true rfl) dX7_readOrder_19 ⟨Nat.zero_le _, Nat.zero_le _⟩ (fun r427 σ426 τ426 H locs h426 hP hS => ?_)
        obtain ⟨⟨rfl, rfl⟩, h426⟩ := h426
        rcases h426 with h428 | h429
        · obtain ⟨q432, k430, k431⟩ := h428
          have q433 : r427 = (σ 10 (σ25 9 1).toNatClampNeg) := q432.trans (by rw [f31 10 (by decide), f10 10 (by decide)])
          have q433e : (σ25 10 (σ25 9 1).toNatClampNeg).toInt = (σ 10 (σ25 9 1).toNatClampNeg).toInt := by rw [← q432, ← q433]
          have q433 := q433.symm
          subst q433
          refine lv_bipush (v := 48) hx hb dX7_readOrder_22 (by decide) ?_
          refine lv_icmp_lt (tgt := 67) hx hb dX7_readOrder_24 (by decide) (fun c434 => ?_) (fun c434 => ?_)
          · have kc434 := jlt c434 rfl jz_48
            refine lv_iload_n hx hb dX7_readOrder_67 rfl (lv_at hl 2 rfl) ?_
            refine lv_if_ne (tgt := 79) hx hb dX7_readOrder_68 (by decide) (fun c435 => ?_) (fun c435 => ?_)
            · have kc435 := jne c435 rfl jz_0
              refine lv_aload_n hx hb dX7_readOrder_79 rfl (lv_at hl 3 rfl) ?_
              refine lv_bipush (v := 58) hx hb dX7_readOrder_80 (by decide) ?_
              have I436 : jI91 σ25 := ⟨(by omega), (by omega)⟩
              have I437 : jI92 σ25 := jI92_fr (f32 2 (by decide)) I14
              refine jcallV (As := [.int 58]) (rest := []) ⟨hx, hb, hml, hown, hts⟩ hK hP hA hS hZ (c_X7_skip_9 l D cI cL ad zz hJ σ25 τ 58 (58) jz_58 p33 I436 I437 (by omega)) cw_RX7_50 (jc_9 cI cL ad σ25 τ) rfl ⟨Nat.le_of_ble_eq_true rfl, Nat.le_of_ble_eq_true rfl⟩ rfl rfl rfl hl.1 rfl (Nat.le_of_ble_eq_true rfl) dX7_readOrder_82 ⟨Nat.zero_le _, Nat.zero_le _⟩ (fun r439 σ438 τ438 H locs h438 hP hS => ?_)
              obtain ⟨rfl, f440, f441, I442, I443, I444, h438⟩ := h438
              obtain ⟨i445, w446, w447⟩ : (0 ≤ (σ438 9 0).toInt ∧ (σ438 9 0).toInt ≤ 80) ∧ (∀ k : Nat, k < 80 → 0 ≤ (σ438 10 k).toInt ∧ (σ438 10 k).toInt ≤ 255) ∧ (∀ k : Nat, k < 8 → 0 ≤ (σ438 11 k).toInt ∧ (σ438 11 k).toInt ≤ 3) := id I442
              obtain ⟨i448, i449⟩ : (0 ≤ (σ438 9 1).toInt) ∧ ((σ438 9 1).toInt ≤ (σ438 9 0).toInt) := id I443
              have i450 : (-1) ≤ (σ438 9 2).toInt := I444
              have z451 : (σ438 9 0).toInt = (σ 9 0).toInt := (congrArg Int32.toInt (show σ438 9 0 = (σ 9 0) from ((f441 0 (by decide)).trans ((f32 0 (by decide)).trans (f11 0 (by decide))))))
              have z452 : (σ438 9 2).toInt = (σ8 9 2).toInt := (congrArg Int32.toInt (show σ438 9 2 = (σ8 9 2) from ((f441 2 (by decide)).trans (f32 2 (by decide)))))
              refine lv_if_eq (tgt := 117) hx hb dX7_readOrder_85 (by decide) (fun c453 => ?_) (fun c453 => ?_)
              · have kc453 := jeq c453 rfl jz_0
                refine lv_aload_n hx hb dX7_readOrder_117 rfl (lv_at hl 3 rfl) ?_
                refine lv_bipush (v := 114) hx hb dX7_readOrder_118 (by decide) ?_
                refine jcallV (As := [.int 114]) (rest := []) ⟨hx, hb, hml, hown, hts⟩ hK hP hA hS hZ (c_X7_skip_9 l D cI cL ad zz hJ σ438 τ 114 (114) jz_114 I442 I443 I444 (by omega)) cw_RX7_50 (jc_9 cI cL ad σ438 τ) rfl ⟨Nat.le_of_ble_eq_true rfl, Nat.le_of_ble_eq_true rfl⟩ rfl rfl rfl hl.1 rfl (Nat.le_of_ble_eq_true rfl) dX7_readOrder_120 ⟨Nat.zero_le _, Nat.zero_le _⟩ (fun r455 σ454 τ454 H locs h454 hP hS => ?_)
                obtain ⟨rfl, f456, f457, I458, I459, I460, h454⟩ := h454
                obtain ⟨i461, w462, w463⟩ : (0 ≤ (σ454 9 0).toInt ∧ (σ454 9 0).toInt ≤ 80) ∧ (∀ k : Nat, k < 80 → 0 ≤ (σ454 10 k).toInt ∧ (σ454 10 k).toInt ≤ 255) ∧ (∀ k : Nat, k < 8 → 0 ≤ (σ454 11 k).toInt ∧ (σ454 11 k).toInt ≤ 3) := id I458
                obtain ⟨i464, i465⟩ : (0 ≤ (σ454 9 1).toInt) ∧ ((σ454 9 1).toInt ≤ (σ454 9 0).toInt) := id I459
                have i466 : (-1) ≤ (σ454 9 2).toInt := I460
                have z467 : (σ454 9 0).toInt = (σ 9 0).toInt := (congrArg Int32.toInt (show σ454 9 0 = (σ 9 0) from ((f457 0 (by decide)).trans ((f441 0 (by decide)).trans ((f32 0 (by decide)).trans (f11 0 (by decide)))))))
                have z468 : (σ454 9 2).toInt = (σ8 9 2).toInt := (congrArg Int32.toInt (show σ454 9 2 = (σ8 9 2) from ((f457 2 (by decide)).trans ((f441 2 (by decide)).trans (f32 2 (by decide))))))
                refine lv_if_eq (tgt := 133) hx hb dX7_readOrder_123 (by decide) (fun c469 => ?_) (fun c469 => ?_)
                · have kc469 := jeq c469 rfl jz_0
                  refine lv_aload_n hx hb dX7_readOrder_133 rfl (lv_at hl 3 rfl) ?_
                  refine jcallV (As := []) (rest := []) ⟨hx, hb, hml, hown, hts⟩ hK hP hA hS hZ (c_X7_end_9 l D cI cL ad zz hJ σ454 τ I458 I459 I460) cw_RX7_57 (jc_9 cI cL ad σ454 τ) rfl ⟨Nat.le_of_ble_eq_true rfl, Nat.le_of_ble_eq_true rfl⟩ rfl rfl rfl hl.1 rfl (Nat.le_of_ble_eq_true rfl) dX7_readOrder_134 ⟨Nat.zero_le _, Nat.zero_le _⟩ (fun r471 σ470 τ470 H locs h470 hP hS => ?_)
                  obtain ⟨rfl, f472, f473, I474, I475, h470⟩ := h470
                  obtain ⟨i476, w477, w478⟩ : (0 ≤ (σ470 9 0).toInt ∧ (σ470 9 0).toInt ≤ 80) ∧ (∀ k : Nat, k < 80 → 0 ≤ (σ470 10 k).toInt ∧ (σ470 10 k).toInt ≤ 255) ∧ (∀ k : Nat, k < 8 → 0 ≤ (σ470 11 k).toInt ∧ (σ470 11 k).toInt ≤ 3) := id I474
                  have i479 : (-1) ≤ (σ470 9 2).toInt := I475
                  rcases h470 with h480 | h481
                  · obtain ⟨q483, k482⟩ := h480
                    have q483 := q483.symm
                    subst q483
                    refine lv_istore (lv' := [(5, .int (-1)), (4, .int 0), (3, .int 8), (2, .int x24), (0, .ref (ad 9)), (1, .ref (ad 16))]) hx hb dX7_readOrder_137 hl (by decide) rfl (fun ls hl => ?_)
                    refine lv_iload hx hb dX7_readOrder_139 (lv_at hl 0 rfl) ?_
                    refine lv_iconst (v := (-1)) hx hb dX7_readOrder_141 (by decide) ?_
                    refine lv_icmp_eq (tgt := 148) hx hb dX7_readOrder_142 (by decide) (fun _ => ?_) (fun c => absurd (by decide) c)
                    refine lv_aload_n hx hb dX7_readOrder_148 rfl (lv_at hl 5 rfl) ?_
                    refine lv_iload_n hx hb dX7_readOrder_149 rfl (lv_at hl 3 rfl) ?_
                    refine jput (ty := .int) hx hb hts inlX6 tyX6 tyX6_ok nmX6 hown hK hP hJ hA hS (jc_16 cI cL ad σ470 τ) rfl (k := 0) (by decide) (Nat.le_of_ble_eq_true rfl) (jp_16_0 cI cL ad σ470 τ x24) (hts _ kw_13_18) (fun _ h9 => h9) rfl (by decide +kernel) rfl rfl dX7_readOrder_150 (fun σ484 H locs eσ484 hP hS => ?_)
                    refine lv_aload_n hx hb dX7_readOrder_153 rfl (lv_at hl 5 rfl) ?_
                    refine lv_iload_n hx hb dX7_readOrder_154 rfl (lv_at hl 2 rfl) ?_
                    refine jput (ty := .int) hx hb hts inlX6 tyX6 tyX6_ok nmX6 hown hK hP hJ hA hS (jc_16 cI cL ad σ484 τ) rfl (k := 1) (by decide) (Nat.le_of_ble_eq_true rfl) (jp_16_1 cI cL ad σ484 τ 8) (hts _ kw_13_19) (fun _ h9 => h9) rfl (by decide +kernel) rfl rfl dX7_readOrder_155 (fun σ485 H locs eσ485 hP hS => ?_)
                    refine lv_aload_n hx hb dX7_readOrder_158 rfl (lv_at hl 5 rfl) ?_
                    refine lv_iload hx hb dX7_readOrder_159 (lv_at hl 1 rfl) ?_
                    refine jput (ty := .int) hx hb hts inlX6 tyX6 tyX6_ok nmX6 hown hK hP hJ hA hS (jc_16 cI cL ad σ485 τ) rfl (k := 2) (by decide) (Nat.le_of_ble_eq_true rfl) (jp_16_2 cI cL ad σ485 τ 0) (hts _ kw_13_20) (fun _ h9 => h9) rfl (by decide +kernel) rfl rfl dX7_readOrder_161 (fun σ486 H locs eσ486 hP hS => ?_)
                    refine lv_aload_n hx hb dX7_readOrder_164 rfl (lv_at hl 4 rfl) ?_
                    refine va_get (D := D) hx hb hts inlX7 hown hK hP 9 (jc_9 cI cL ad σ486 τ) rfl 4 (by decide) (hts _ kw_3_21) (fun _ h9 => h9) rfl dX7_readOrder_165 ?_
                    refine lv_iconst (v := 0) hx hb dX7_readOrder_168 (by decide) ?_
                    refine lv_aload_n hx hb dX7_readOrder_169 rfl (lv_at hl 5 rfl) ?_
                    refine va_get (D := D) hx hb hts inlX6 hown hK hP 16 (jc_16 cI cL ad σ486 τ) rfl 3 (by decide) (hts _ kw_13_21) (fun _ h9 => h9) rfl dX7_readOrder_170 ?_
                    refine lv_iconst (v := 0) hx hb dX7_readOrder_173 (by decide) ?_
                    refine lv_iload_n hx hb dX7_readOrder_174 rfl (lv_at hl 3 rfl) ?_
                    refine jcpyI (q0 := 11) (q1 := 17) hx hb (hml.trans hl.1.symm) hown (hts _ kw_13_22) (hts _ kw_13_23) (hts _ kw_14_0) (hts _ kw_14_1) hK hP hJ hA hS (jc_11 cI cL ad σ486 τ) (jc_17 cI cL ad σ486 τ) (fun _ => rfl) jz_0 jz_0 rfl (by omega) (by omega) (by omega) (by omega) (by omega) (Nat.le_of_ble_eq_true rfl) (Nat.le_of_ble_eq_true rfl) dX7_readOrder_175 (fun σ487 H locs eσ487 hP hS => ?_)
                    have w488 : ∀ k : Nat, k < 8 → 0 ≤ (σ486 11 k).toInt ∧ (σ486 11 k).toInt ≤ 3 := (jrr_fr (jnp 11 eσ486 (by decide)) (jrr_fr (jnp 11 eσ485 (by decide)) (jrr_fr (jnp 11 eσ484 (by decide)) w478)))
                    have w489 : ∀ k : Nat, k < 8 → 0 ≤ (σ486 17 k).toInt ∧ (σ486 17 k).toInt ≤ 3 := (jrr_fr (jnp 17 eσ486 (by decide)) (jrr_fr (jnp 17 eσ485 (by decide)) (jrr_fr (jnp 17 eσ484 (by decide)) (jrr_fr (f472 17 (by decide)) (jrr_fr (f456 17 (by decide)) (jrr_fr (f440 17 (by decide)) (jrr_fr (f31 17 (by decide)) (jrr_fr (f10 17 (by decide)) w7))))))))
                    have f490 : (∀ i : Nat, (i < 17 ∨ 17 < i) → σ487 i = σ486 i) := by rw [eσ487]; exact jrow_n
                    have w491 : ∀ k : Nat, k < 8 → 0 ≤ (σ487 17 k).toInt ∧ (σ487 17 k).toInt ≤ 3 := by rw [eσ487]; exact jrow_rr w488 w489 jz_0 rfl (n0 := 8) (by omega) (by omega) (by omega)
                    refine lv_iconst (v := (-1)) hx hb dX7_readOrder_178 (by decide) ?_
                    have I492 : jI9 σ487 := jI9_fr ((congrFun (f490 9 (by decide)) 0).trans ((congrFun (jnp 9 eσ486 (by decide)) 0).trans ((congrFun (jnp 9 eσ485 (by decide)) 0).trans (congrFun (jnp 9 eσ484 (by decide)) 0)))) ((f490 10 (by decide)).trans ((jnp 10 eσ486 (by decide)).trans ((jnp 10 eσ485 (by decide)).trans (jnp 10 eσ484 (by decide))))) ((f490 11 (by decide)).trans ((jnp 11 eσ486 (by decide)).trans ((jnp 11 eσ485 (by decide)).trans (jnp 11 eσ484 (by decide))))) I474
                    have z493 : (σ487 16 0).toInt = x24.toInt := (congrArg Int32.toInt (show σ487 16 0 = x24 from ((congrFun (f490 16 (by decide)) 0).trans ((jkp 0 eσ486 (by decide)).trans ((jkp 0 eσ485 (by decide)).trans (jsp eσ484))))))
                    have z494 : (σ487 16 1).toInt = 8 := ((congrArg Int32.toInt (show σ487 16 1 = 8 from ((congrFun (f490 16 (by decide)) 1).trans ((jkp 1 eσ486 (by decide)).trans (jsp eσ485))))).trans jz_8)
                    have z495 : (σ487 16 2).toInt = 0 := ((congrArg Int32.toInt (show σ487 16 2 = 0 from ((congrFun (f490 16 (by decide)) 2).trans (jsp eσ486)))).trans jz_0)
                    have I496 : jI16 σ487 := ⟨(by omega), (by omega), (by omega), w491⟩
                    exact hret (-1) σ487 τ _ _ _ _ rfl ⟨rfl, (fun i hi => ((f490 i (imp_46 i hi)).trans ((jnp i eσ486 (imp_47 i hi)).trans ((jnp i eσ485 (imp_47 i hi)).trans ((jnp i eσ484 (imp_47 i hi)).trans ((f472 i (imp_48 i hi)).trans ((f456 i (imp_48 i hi)).trans ((f440 i (imp_48 i hi)).trans ((f31 i (imp_49 i hi)).trans (f10 i (imp_48 i hi))))))))))), (fun i hi => ((congrFun (f490 9 (by decide)) i).trans ((congrFun (jnp 9 eσ486 (by decide)) i).trans ((congrFun (jnp 9 eσ485 (by decide)) i).trans ((congrFun (jnp 9 eσ484 (by decide)) i).trans ((f473 i (imp_50 i hi)).trans ((f457 i (imp_51 i hi)).trans ((f441 i (imp_51 i hi)).trans ((f32 i (imp_51 i hi)).trans (f11 i (imp_52 i hi))))))))))), (fun i hi => ((congrFun (f490 16 (by decide)) i).trans ((jkp i eσ486 (imp_53 i hi)).trans ((jkp i eσ485 (imp_54 i hi)).trans ((jkp i eσ484 (imp_55 i hi)).trans ((congrFun (f472 16 (by decide)) i).trans ((congrFun (f456 16 (by decide)) i).trans ((congrFun (f440 16 (by decide)) i).trans ((congrFun (f31 16 (by decide)) i).trans (congrFun (f10 16 (by decide)) i)))))))))), I492, I496, trivial⟩ hP hS dX7_readOrder_179
                  · obtain ⟨q498, k497⟩ := h481
                    refine lv_istore (lv' := [(5, .int r471), (4, .int 0), (3, .int 8), (2, .int x24), (0, .ref (ad 9)), (1, .ref (ad 16))]) hx hb dX7_readOrder_137 hl (by decide) rfl (fun ls hl => ?_)
                    refine lv_iload hx hb dX7_readOrder_139 (lv_at hl 0 rfl) ?_
                    refine lv_iconst (v := (-1)) hx hb dX7_readOrder_141 (by decide) ?_
                    refine lv_icmp_eq (tgt := 148) hx hb dX7_readOrder_142 (by decide) (fun c => absurd (jeq c rfl jz_m1) (by omega)) (fun c499 => ?_)
                    have kc499 := jne c499 rfl jz_m1
                    refine lv_iload hx hb dX7_readOrder_145 (lv_at hl 0 rfl) ?_
                    have I500 : jI16 σ470 := jI16_fr ((congrFun (f472 16 (by decide)) 0).trans ((congrFun (f456 16 (by decide)) 0).trans ((congrFun (f440 16 (by decide)) 0).trans ((congrFun (f31 16 (by decide)) 0).trans (congrFun (f10 16 (by decide)) 0))))) ((congrFun (f472 16 (by decide)) 1).trans ((congrFun (f456 16 (by decide)) 1).trans ((congrFun (f440 16 (by decide)) 1).trans ((congrFun (f31 16 (by decide)) 1).trans (congrFun (f10 16 (by decide)) 1))))) ((congrFun (f472 16 (by decide)) 2).trans ((congrFun (f456 16 (by decide)) 2).trans ((congrFun (f440 16 (by decide)) 2).trans ((congrFun (f31 16 (by decide)) 2).trans (congrFun (f10 16 (by decide)) 2))))) ((f472 17 (by decide)).trans ((f456 17 (by decide)).trans ((f440 17 (by decide)).trans ((f31 17 (by decide)).trans (f10 17 (by decide)))))) hI16
                    exact hret r471 σ470 τ _ _ _ _ rfl ⟨rfl, (fun i hi => ((f472 i (imp_48 i hi)).trans ((f456 i (imp_48 i hi)).trans ((f440 i (imp_48 i hi)).trans ((f31 i (imp_49 i hi)).trans (f10 i (imp_48 i hi))))))), (fun i hi => ((f473 i (imp_50 i hi)).trans ((f457 i (imp_51 i hi)).trans ((f441 i (imp_51 i hi)).trans ((f32 i (imp_51 i hi)).trans (f11 i (imp_52 i hi))))))), (fun i hi => ((congrFun (f472 16 (by decide)) i).trans ((congrFun (f456 16 (by decide)) i).trans ((congrFun (f440 16 (by decide)) i).trans ((congrFun (f31 16 (by decide)) i).trans (congrFun (f10 16 (by decide)) i)))))), I474, I500, trivial⟩ hP hS dX7_readOrder_147
                · have kc469 := jne c469 rfl jz_0
                  refine lv_aload_n hx hb dX7_readOrder_126 rfl (lv_at hl 3 rfl) ?_
                  refine lv_iconst (v := 3) hx hb dX7_readOrder_127 (by decide) ?_
                  refine jcallV (As := [.int 3]) (rest := []) ⟨hx, hb, hml, hown, hts⟩ hK hP hA hS hZ (c_X7_number_3 l D cI cL ad zz hJ σ454 τ I458 I459 I460) cw_RX7_53 (jc_9 cI cL ad σ454 τ) rfl ⟨Nat.le_of_ble_eq_true rfl, Nat.le_of_ble_eq_true rfl⟩ rfl rfl rfl hl.1 rfl (Nat.le_of_ble_eq_true rfl) dX7_readOrder_128 ⟨Nat.zero_le _, Nat.zero_le _⟩ (fun r502 σ501 τ501 H locs h501 hP hS => ?_)
                  obtain ⟨rfl, f503, f504, I505, I506, I507, h501⟩ := h501
                  obtain ⟨i508, w509, w510⟩ : (0 ≤ (σ501 9 0).toInt ∧ (σ501 9 0).toInt ≤ 80) ∧ (∀ k : Nat, k < 80 → 0 ≤ (σ501 10 k).toInt ∧ (σ501 10 k).toInt ≤ 255) ∧ (∀ k : Nat, k < 8 → 0 ≤ (σ501 11 k).toInt ∧ (σ501 11 k).toInt ≤ 3) := id I505
                  obtain ⟨i511, i512⟩ : (0 ≤ (σ501 9 1).toInt) ∧ ((σ501 9 1).toInt ≤ (σ501 9 0).toInt) := id I506
                  have i513 : (-1) ≤ (σ501 9 2).toInt := I507
                  have z514 : (σ501 9 0).toInt = (σ 9 0).toInt := (congrArg Int32.toInt (show σ501 9 0 = (σ 9 0) from ((f504 0 (by decide)).trans ((f457 0 (by decide)).trans ((f441 0 (by decide)).trans ((f32 0 (by decide)).trans (f11 0 (by decide))))))))
                  obtain ⟨k515, h501⟩ := h501
                  have h516 := h501
                  obtain ⟨q518, k517⟩ := h516
                  refine lv_istore (lv' := [(4, .int r502), (3, .int 8), (2, .int x24), (0, .ref (ad 9)), (1, .ref (ad 16))]) hx hb dX7_readOrder_131 hl (by decide) rfl (fun ls hl => ?_)
                  refine lv_aload_n hx hb dX7_readOrder_133 rfl (lv_at hl 3 rfl) ?_
                  refine jcallV (As := []) (rest := []) ⟨hx, hb, hml, hown, hts⟩ hK hP hA hS hZ (c_X7_end_9 l D cI cL ad zz hJ σ501 τ I505 I506 I507) cw_RX7_57 (jc_9 cI cL ad σ501 τ) rfl ⟨Nat.le_of_ble_eq_true rfl, Nat.le_of_ble_eq_true rfl⟩ rfl rfl rfl hl.1 rfl (Nat.le_of_ble_eq_true rfl) dX7_readOrder_134 ⟨Nat.zero_le _, Nat.zero_le _⟩ (fun r520 σ519 τ519 H locs h519 hP hS => ?_)
                  obtain ⟨rfl, f521, f522, I523, I524, h519⟩ := h519
                  obtain ⟨i525, w526, w527⟩ : (0 ≤ (σ519 9 0).toInt ∧ (σ519 9 0).toInt ≤ 80) ∧ (∀ k : Nat, k < 80 → 0 ≤ (σ519 10 k).toInt ∧ (σ519 10 k).toInt ≤ 255) ∧ (∀ k : Nat, k < 8 → 0 ≤ (σ519 11 k).toInt ∧ (σ519 11 k).toInt ≤ 3) := id I523
                  have i528 : (-1) ≤ (σ519 9 2).toInt := I524
                  rcases h519 with h529 | h530
                  · obtain ⟨q532, k531⟩ := h529
                    have q532 := q532.symm
                    subst q532
                    refine lv_istore (lv' := [(5, .int (-1)), (4, .int r502), (3, .int 8), (2, .int x24), (0, .ref (ad 9)), (1, .ref (ad 16))]) hx hb dX7_readOrder_137 hl (by decide) rfl (fun ls hl => ?_)
                    refine lv_iload hx hb dX7_readOrder_139 (lv_at hl 0 rfl) ?_
                    refine lv_iconst (v := (-1)) hx hb dX7_readOrder_141 (by decide) ?_
                    refine lv_icmp_eq (tgt := 148) hx hb dX7_readOrder_142 (by decide) (fun _ => ?_) (fun c => absurd (by decide) c)
                    refine lv_aload_n hx hb dX7_readOrder_148 rfl (lv_at hl 5 rfl) ?_
                    refine lv_iload_n hx hb dX7_readOrder_149 rfl (lv_at hl 3 rfl) ?_
                    refine jput (ty := .int) hx hb hts inlX6 tyX6 tyX6_ok nmX6 hown hK hP hJ hA hS (jc_16 cI cL ad σ519 τ) rfl (k := 0) (by decide) (Nat.le_of_ble_eq_true rfl) (jp_16_0 cI cL ad σ519 τ x24) (hts _ kw_13_18) (fun _ h9 => h9) rfl (by decide +kernel) rfl rfl dX7_readOrder_150 (fun σ533 H locs eσ533 hP hS => ?_)
                    refine lv_aload_n hx hb dX7_readOrder_153 rfl (lv_at hl 5 rfl) ?_
                    refine lv_iload_n hx hb dX7_readOrder_154 rfl (lv_at hl 2 rfl) ?_
                    refine jput (ty := .int) hx hb hts inlX6 tyX6 tyX6_ok nmX6 hown hK hP hJ hA hS (jc_16 cI cL ad σ533 τ) rfl (k := 1) (by decide) (Nat.le_of_ble_eq_true rfl) (jp_16_1 cI cL ad σ533 τ 8) (hts _ kw_13_19) (fun _ h9 => h9) rfl (by decide +kernel) rfl rfl dX7_readOrder_155 (fun σ534 H locs eσ534 hP hS => ?_)
                    refine lv_aload_n hx hb dX7_readOrder_158 rfl (lv_at hl 5 rfl) ?_
                    refine lv_iload hx hb dX7_readOrder_159 (lv_at hl 1 rfl) ?_
                    refine jput (ty := .int) hx hb hts inlX6 tyX6 tyX6_ok nmX6 hown hK hP hJ hA hS (jc_16 cI cL ad σ534 τ) rfl (k := 2) (by decide) (Nat.le_of_ble_eq_true rfl) (jp_16_2 cI cL ad σ534 τ r502) (hts _ kw_13_20) (fun _ h9 => h9) rfl (by decide +kernel) rfl rfl dX7_readOrder_161 (fun σ535 H locs eσ535 hP hS => ?_)
                    refine lv_aload_n hx hb dX7_readOrder_164 rfl (lv_at hl 4 rfl) ?_
                    refine va_get (D := D) hx hb hts inlX7 hown hK hP 9 (jc_9 cI cL ad σ535 τ) rfl 4 (by decide) (hts _ kw_3_21) (fun _ h9 => h9) rfl dX7_readOrder_165 ?_
                    refine lv_iconst (v := 0) hx hb dX7_readOrder_168 (by decide) ?_
                    refine lv_aload_n hx hb dX7_readOrder_169 rfl (lv_at hl 5 rfl) ?_
                    refine va_get (D := D) hx hb hts inlX6 hown hK hP 16 (jc_16 cI cL ad σ535 τ) rfl 3 (by decide) (hts _ kw_13_21) (fun _ h9 => h9) rfl dX7_readOrder_170 ?_
                    refine lv_iconst (v := 0) hx hb dX7_readOrder_173 (by decide) ?_
                    refine lv_iload_n hx hb dX7_readOrder_174 rfl (lv_at hl 3 rfl) ?_
                    refine jcpyI (q0 := 11) (q1 := 17) hx hb (hml.trans hl.1.symm) hown (hts _ kw_13_22) (hts _ kw_13_23) (hts _ kw_14_0) (hts _ kw_14_1) hK hP hJ hA hS (jc_11 cI cL ad σ535 τ) (jc_17 cI cL ad σ535 τ) (fun _ => rfl) jz_0 jz_0 rfl (by omega) (by omega) (by omega) (by omega) (by omega) (Nat.le_of_ble_eq_true rfl) (Nat.le_of_ble_eq_true rfl) dX7_readOrder_175 (fun σ536 H locs eσ536 hP hS => ?_)
                    have w537 : ∀ k : Nat, k < 8 → 0 ≤ (σ535 11 k).toInt ∧ (σ535 11 k).toInt ≤ 3 := (jrr_fr (jnp 11 eσ535 (by decide)) (jrr_fr (jnp 11 eσ534 (by decide)) (jrr_fr (jnp 11 eσ533 (by decide)) w527)))
                    have w538 : ∀ k : Nat, k < 8 → 0 ≤ (σ535 17 k).toInt ∧ (σ535 17 k).toInt ≤ 3 := (jrr_fr (jnp 17 eσ535 (by decide)) (jrr_fr (jnp 17 eσ534 (by decide)) (jrr_fr (jnp 17 eσ533 (by decide)) (jrr_fr (f521 17 (by decide)) (jrr_fr (f503 17 (by decide)) (jrr_fr (f456 17 (by decide)) (jrr_fr (f440 17 (by decide)) (jrr_fr (f31 17 (by decide)) (jrr_fr (f10 17 (by decide)) w7)))))))))
                    have f539 : (∀ i : Nat, (i < 17 ∨ 17 < i) → σ536 i = σ535 i) := by rw [eσ536]; exact jrow_n
                    have w540 : ∀ k : Nat, k < 8 → 0 ≤ (σ536 17 k).toInt ∧ (σ536 17 k).toInt ≤ 3 := by rw [eσ536]; exact jrow_rr w537 w538 jz_0 rfl (n0 := 8) (by omega) (by omega) (by omega)
                    refine lv_iconst (v := (-1)) hx hb dX7_readOrder_178 (by decide) ?_
                    have I541 : jI9 σ536 := jI9_fr ((congrFun (f539 9 (by decide)) 0).trans ((congrFun (jnp 9 eσ535 (by decide)) 0).trans ((congrFun (jnp 9 eσ534 (by decide)) 0).trans (congrFun (jnp 9 eσ533 (by decide)) 0)))) ((f539 10 (by decide)).trans ((jnp 10 eσ535 (by decide)).trans ((jnp 10 eσ534 (by decide)).trans (jnp 10 eσ533 (by decide))))) ((f539 11 (by decide)).trans ((jnp 11 eσ535 (by decide)).trans ((jnp 11 eσ534 (by decide)).trans (jnp 11 eσ533 (by decide))))) I523
                    have z542 : (σ536 16 0).toInt = x24.toInt := (congrArg Int32.toInt (show σ536 16 0 = x24 from ((congrFun (f539 16 (by decide)) 0).trans ((jkp 0 eσ535 (by decide)).trans ((jkp 0 eσ534 (by decide)).trans (jsp eσ533))))))
                    have z543 : (σ536 16 1).toInt = 8 := ((congrArg Int32.toInt (show σ536 16 1 = 8 from ((congrFun (f539 16 (by decide)) 1).trans ((jkp 1 eσ535 (by decide)).trans (jsp eσ534))))).trans jz_8)
                    have z544 : (σ536 16 2).toInt = r502.toInt := (congrArg Int32.toInt (show σ536 16 2 = r502 from ((congrFun (f539 16 (by decide)) 2).trans (jsp eσ535))))
                    have I545 : jI16 σ536 := ⟨(by omega), (by omega), (by omega), w540⟩
                    exact hret (-1) σ536 τ _ _ _ _ rfl ⟨rfl, (fun i hi => ((f539 i (imp_46 i hi)).trans ((jnp i eσ535 (imp_47 i hi)).trans ((jnp i eσ534 (imp_47 i hi)).trans ((jnp i eσ533 (imp_47 i hi)).trans ((f521 i (imp_48 i hi)).trans ((f503 i (imp_48 i hi)).trans ((f456 i (imp_48 i hi)).trans ((f440 i (imp_48 i hi)).trans ((f31 i (imp_49 i hi)).trans (f10 i (imp_48 i hi)))))))))))), (fun i hi => ((congrFun (f539 9 (by decide)) i).trans ((congrFun (jnp 9 eσ535 (by decide)) i).trans ((congrFun (jnp 9 eσ534 (by decide)) i).trans ((congrFun (jnp 9 eσ533 (by decide)) i).trans ((f522 i (imp_50 i hi)).trans ((f504 i (imp_52 i hi)).trans ((f457 i (imp_51 i hi)).trans ((f441 i (imp_51 i hi)).trans ((f32 i (imp_51 i hi)).trans (f11 i (imp_52 i hi)))))))))))), (fun i hi => ((congrFun (f539 16 (by decide)) i).trans ((jkp i eσ535 (imp_53 i hi)).trans ((jkp i eσ534 (imp_54 i hi)).trans ((jkp i eσ533 (imp_55 i hi)).trans ((congrFun (f521 16 (by decide)) i).trans ((congrFun (f503 16 (by decide)) i).trans ((congrFun (f456 16 (by decide)) i).trans ((congrFun (f440 16 (by decide)) i).trans ((congrFun (f31 16 (by decide)) i).trans (congrFun (f10 16 (by decide)) i))))))))))), I541, I545, trivial⟩ hP hS dX7_readOrder_179
                  · obtain ⟨q547, k546⟩ := h530
                    refine lv_istore (lv' := [(5, .int r520), (4, .int r502), (3, .int 8), (2, .int x24), (0, .ref (ad 9)), (1, .ref (ad 16))]) hx hb dX7_readOrder_137 hl (by decide) rfl (fun ls hl => ?_)
                    refine lv_iload hx hb dX7_readOrder_139 (lv_at hl 0 rfl) ?_
                    refine lv_iconst (v := (-1)) hx hb dX7_readOrder_141 (by decide) ?_
                    refine lv_icmp_eq (tgt := 148) hx hb dX7_readOrder_142 (by decide) (fun c => absurd (jeq c rfl jz_m1) (by omega)) (fun c548 => ?_)
                    have kc548 := jne c548 rfl jz_m1
                    refine lv_iload hx hb dX7_readOrder_145 (lv_at hl 0 rfl) ?_
                    have I549 : jI16 σ519 := jI16_fr ((congrFun (f521 16 (by decide)) 0).trans ((congrFun (f503 16 (by decide)) 0).trans ((congrFun (f456 16 (by decide)) 0).trans ((congrFun (f440 16 (by decide)) 0).trans ((congrFun (f31 16 (by decide)) 0).trans (congrFun (f10 16 (by decide)) 0)))))) ((congrFun (f521 16 (by decide)) 1).trans ((congrFun (f503 16 (by decide)) 1).trans ((congrFun (f456 16 (by decide)) 1).trans ((congrFun (f440 16 (by decide)) 1).trans ((congrFun (f31 16 (by decide)) 1).trans (congrFun (f10 16 (by decide)) 1)))))) ((congrFun (f521 16 (by decide)) 2).trans ((congrFun (f503 16 (by decide)) 2).trans ((congrFun (f456 16 (by decide)) 2).trans ((congrFun (f440 16 (by decide)) 2).trans ((congrFun (f31 16 (by decide)) 2).trans (congrFun (f10 16 (by decide)) 2)))))) ((f521 17 (by decide)).trans ((f503 17 (by decide)).trans ((f456 17 (by decide)).trans ((f440 17 (by decide)).trans ((f31 17 (by decide)).trans (f10 17 (by decide))))))) hI16
                    exact hret r520 σ519 τ _ _ _ _ rfl ⟨rfl, (fun i hi => ((f521 i (imp_48 i hi)).trans ((f503 i (imp_48 i hi)).trans ((f456 i (imp_48 i hi)).trans ((f440 i (imp_48 i hi)).trans ((f31 i (imp_49 i hi)).trans (f10 i (imp_48 i hi)))))))), (fun i hi => ((f522 i (imp_50 i hi)).trans ((f504 i (imp_52 i hi)).trans ((f457 i (imp_51 i hi)).trans ((f441 i (imp_51 i hi)).trans ((f32 i (imp_51 i hi)).trans (f11 i (imp_52 i hi)))))))), (fun i hi => ((congrFun (f521 16 (by decide)) i).trans ((congrFun (f503 16 (by decide)) i).trans ((congrFun (f456 16 (by decide)) i).trans ((congrFun (f440 16 (by decide)) i).trans ((congrFun (f31 16 (by decide)) i).trans (congrFun (f10 16 (by decide)) i))))))), I523, I549, trivial⟩ hP hS dX7_readOrder_147
              · have kc453 := jne c453 rfl jz_0
                refine lv_aload_n hx hb dX7_readOrder_88 rfl (lv_at hl 3 rfl) ?_
                refine va_get (D := D) hx hb hts inlX7 hown hK hP 9 (jc_9 cI cL ad σ438 τ) rfl 1 (by decide) (hts _ kw_13_17) (fun _ h9 => h9) rfl dX7_readOrder_89 ?_
                refine lv_istore (lv' := [(5, .int (σ438 9 1)), (4, .int 0), (3, .int 8), (2, .int x24), (0, .ref (ad 9)), (1, .ref (ad 16))]) hx hb dX7_readOrder_92 hl (by decide) rfl (fun ls hl => ?_)
                refine lv_aload_n hx hb dX7_readOrder_94 rfl (lv_at hl 4 rfl) ?_
                refine lv_iconst (v := 2) hx hb dX7_readOrder_95 (by decide) ?_
                refine jcallV (As := [.int 2]) (rest := []) ⟨hx, hb, hml, hown, hts⟩ hK hP hA hS hZ (c_X7_number_2 l D cI cL ad zz hJ σ438 τ I442 I443 I444) cw_RX7_53 (jc_9 cI cL ad σ438 τ) rfl ⟨Nat.le_of_ble_eq_true rfl, Nat.le_of_ble_eq_true rfl⟩ rfl rfl rfl hl.1 rfl (Nat.le_of_ble_eq_true rfl) dX7_readOrder_96 ⟨Nat.zero_le _, Nat.zero_le _⟩ (fun r551 σ550 τ550 H locs h550 hP hS => ?_)
                obtain ⟨rfl, f552, f553, I554, I555, I556, h550⟩ := h550
                obtain ⟨i557, w558, w559⟩ : (0 ≤ (σ550 9 0).toInt ∧ (σ550 9 0).toInt ≤ 80) ∧ (∀ k : Nat, k < 80 → 0 ≤ (σ550 10 k).toInt ∧ (σ550 10 k).toInt ≤ 255) ∧ (∀ k : Nat, k < 8 → 0 ≤ (σ550 11 k).toInt ∧ (σ550 11 k).toInt ≤ 3) := id I554
                obtain ⟨i560, i561⟩ : (0 ≤ (σ550 9 1).toInt) ∧ ((σ550 9 1).toInt ≤ (σ550 9 0).toInt) := id I555
                have i562 : (-1) ≤ (σ550 9 2).toInt := I556
                have z563 : (σ550 9 0).toInt = (σ 9 0).toInt := (congrArg Int32.toInt (show σ550 9 0 = (σ 9 0) from ((f553 0 (by decide)).trans ((f441 0 (by decide)).trans ((f32 0 (by decide)).trans (f11 0 (by decide)))))))
                obtain ⟨k564, h550⟩ := h550
                have h565 := h550
                obtain ⟨q567, k566⟩ := h565
                refine lv_istore_n (lv' := [(3, .int r551), (5, .int (σ438 9 1)), (4, .int 0), (2, .int x24), (0, .ref (ad 9)), (1, .ref (ad 16))]) hx hb dX7_readOrder_99 rfl hl (by decide) rfl (fun ls hl => ?_)
                refine lv_iload_n hx hb dX7_readOrder_100 rfl (lv_at hl 0 rfl) ?_
                refine lv_iconst (v := 1) hx hb dX7_readOrder_101 (by decide) ?_
                refine lv_icmp_lt (tgt := 111) hx hb dX7_readOrder_102 (by decide) (fun c568 => ?_) (fun c568 => ?_)
                · have kc568 := jlt c568 rfl jz_1
                  refine lv_aload_n hx hb dX7_readOrder_111 rfl (lv_at hl 4 rfl) ?_
                  refine lv_iload hx hb dX7_readOrder_112 (lv_at hl 1 rfl) ?_
                  refine jcallVv (As := [.int (σ438 9 1)]) (rest := []) ⟨hx, hb, hml, hown, hts⟩ hK hP hA hS hZ (c_X7_fail_9 l D cI cL ad zz hJ σ550 τ (σ438 9 1) ((σ438 9 1).toInt) rfl I556 (by omega)) cw_RX7_43 (jc_9 cI cL ad σ550 τ) rfl ⟨Nat.le_of_ble_eq_true rfl, Nat.le_of_ble_eq_true rfl⟩ rfl rfl rfl hl.1 rfl (Nat.le_of_ble_eq_true rfl) dX7_readOrder_114 ⟨Nat.zero_le _, Nat.zero_le _⟩ (fun σ569 τ569 H locs h569 hP hS => ?_)
                  obtain ⟨rfl, f571, f572, h569⟩ := h569
                  obtain ⟨k573, h569⟩ := h569
                  refine lv_aload_n hx hb dX7_readOrder_117 rfl (lv_at hl 4 rfl) ?_
                  refine lv_bipush (v := 114) hx hb dX7_readOrder_118 (by decide) ?_
                  have I574 : jI9 σ569 := jI9_fr (f572 0 (by decide)) (f571 10 (by decide)) (f571 11 (by decide)) I554
                  have I575 : jI91 σ569 := jI91_fr (f572 0 (by decide)) (f572 1 (by decide)) I555
                  have I576 : jI92 σ569 := (show (-1) ≤ (σ569 9 2).toInt by omega)
                  refine jcallV (As := [.int 114]) (rest := []) ⟨hx, hb, hml, hown, hts⟩ hK hP hA hS hZ (c_X7_skip_9 l D cI cL ad zz hJ σ569 τ 114 (114) jz_114 I574 I575 I576 (by omega)) cw_RX7_50 (jc_9 cI cL ad σ569 τ) rfl ⟨Nat.le_of_ble_eq_true rfl, Nat.le_of_ble_eq_true rfl⟩ rfl rfl rfl hl.1 rfl (Nat.le_of_ble_eq_true rfl) dX7_readOrder_120 ⟨Nat.zero_le _, Nat.zero_le _⟩ (fun r578 σ577 τ577 H locs h577 hP hS => ?_)
                  obtain ⟨rfl, f579, f580, I581, I582, I583, h577⟩ := h577
                  obtain ⟨i584, w585, w586⟩ : (0 ≤ (σ577 9 0).toInt ∧ (σ577 9 0).toInt ≤ 80) ∧ (∀ k : Nat, k < 80 → 0 ≤ (σ577 10 k).toInt ∧ (σ577 10 k).toInt ≤ 255) ∧ (∀ k : Nat, k < 8 → 0 ≤ (σ577 11 k).toInt ∧ (σ577 11 k).toInt ≤ 3) := id I581
                  obtain ⟨i587, i588⟩ : (0 ≤ (σ577 9 1).toInt) ∧ ((σ577 9 1).toInt ≤ (σ577 9 0).toInt) := id I582
                  have i589 : (-1) ≤ (σ577 9 2).toInt := I583
                  have z590 : (σ577 9 0).toInt = (σ 9 0).toInt := (congrArg Int32.toInt (show σ577 9 0 = (σ 9 0) from ((f580 0 (by decide)).trans ((f572 0 (by decide)).trans ((f553 0 (by decide)).trans ((f441 0 (by decide)).trans ((f32 0 (by decide)).trans (f11 0 (by decide)))))))))
                  have z591 : (σ577 9 2).toInt = (σ569 9 2).toInt := (congrArg Int32.toInt (show σ577 9 2 = (σ569 9 2) from (f580 2 (by decide))))
                  refine lv_if_eq (tgt := 133) hx hb dX7_readOrder_123 (by decide) (fun c592 => ?_) (fun c592 => ?_)
                  · have kc592 := jeq c592 rfl jz_0
                    refine lv_aload_n hx hb dX7_readOrder_133 rfl (lv_at hl 4 rfl) ?_
                    refine jcallV (As := []) (rest := []) ⟨hx, hb, hml, hown, hts⟩ hK hP hA hS hZ (c_X7_end_9 l D cI cL ad zz hJ σ577 τ I581 I582 I583) cw_RX7_57 (jc_9 cI cL ad σ577 τ) rfl ⟨Nat.le_of_ble_eq_true rfl, Nat.le_of_ble_eq_true rfl⟩ rfl rfl rfl hl.1 rfl (Nat.le_of_ble_eq_true rfl) dX7_readOrder_134 ⟨Nat.zero_le _, Nat.zero_le _⟩ (fun r594 σ593 τ593 H locs h593 hP hS => ?_)
                    obtain ⟨rfl, f595, f596, I597, I598, h593⟩ := h593
                    obtain ⟨i599, w600, w601⟩ : (0 ≤ (σ593 9 0).toInt ∧ (σ593 9 0).toInt ≤ 80) ∧ (∀ k : Nat, k < 80 → 0 ≤ (σ593 10 k).toInt ∧ (σ593 10 k).toInt ≤ 255) ∧ (∀ k : Nat, k < 8 → 0 ≤ (σ593 11 k).toInt ∧ (σ593 11 k).toInt ≤ 3) := id I597
                    have i602 : (-1) ≤ (σ593 9 2).toInt := I598
                    rcases h593 with h603 | h604
                    · obtain ⟨q606, k605⟩ := h603
                      exact absurd (by omega : False) id
                    · obtain ⟨q608, k607⟩ := h604
                      refine lv_istore (lv' := [(5, .int r594), (3, .int r551), (4, .int 0), (2, .int x24), (0, .ref (ad 9)), (1, .ref (ad 16))]) hx hb dX7_readOrder_137 hl (by decide) rfl (fun ls hl => ?_)
                      refine lv_iload hx hb dX7_readOrder_139 (lv_at hl 0 rfl) ?_
                      refine lv_iconst (v := (-1)) hx hb dX7_readOrder_141 (by decide) ?_
                      refine lv_icmp_eq (tgt := 148) hx hb dX7_readOrder_142 (by decide) (fun c => absurd (jeq c rfl jz_m1) (by omega)) (fun c609 => ?_)
                      have kc609 := jne c609 rfl jz_m1
                      refine lv_iload hx hb dX7_readOrder_145 (lv_at hl 0 rfl) ?_
                      have I610 : jI16 σ593 := jI16_fr ((congrFun (f595 16 (by decide)) 0).trans ((congrFun (f579 16 (by decide)) 0).trans ((congrFun (f571 16 (by decide)) 0).trans ((congrFun (f552 16 (by decide)) 0).trans ((congrFun (f440 16 (by decide)) 0).trans ((congrFun (f31 16 (by decide)) 0).trans (congrFun (f10 16 (by decide)) 0))))))) ((congrFun (f595 16 (by decide)) 1).trans ((congrFun (f579 16 (by decide)) 1).trans ((congrFun (f571 16 (by decide)) 1).trans ((congrFun (f552 16 (by decide)) 1).trans ((congrFun (f440 16 (by decide)) 1).trans ((congrFun (f31 16 (by decide)) 1).trans (congrFun (f10 16 (by decide)) 1))))))) ((congrFun (f595 16 (by decide)) 2).trans ((congrFun (f579 16 (by decide)) 2).trans ((congrFun (f571 16 (by decide)) 2).trans ((congrFun (f552 16 (by decide)) 2).trans ((congrFun (f440 16 (by decide)) 2).trans ((congrFun (f31 16 (by decide)) 2).trans (congrFun (f10 16 (by decide)) 2))))))) ((f595 17 (by decide)).trans ((f579 17 (by decide)).trans ((f571 17 (by decide)).trans ((f552 17 (by decide)).trans ((f440 17 (by decide)).trans ((f31 17 (by decide)).trans (f10 17 (by decide)))))))) hI16
                      exact hret r594 σ593 τ _ _ _ _ rfl ⟨rfl, (fun i hi => ((f595 i (imp_48 i hi)).trans ((f579 i (imp_48 i hi)).trans ((f571 i (imp_48 i hi)).trans ((f552 i (imp_48 i hi)).trans ((f440 i (imp_48 i hi)).trans ((f31 i (imp_49 i hi)).trans (f10 i (imp_48 i hi))))))))), (fun i hi => ((f596 i (imp_50 i hi)).trans ((f580 i (imp_51 i hi)).trans ((f572 i (imp_56 i hi)).trans ((f553 i (imp_52 i hi)).trans ((f441 i (imp_51 i hi)).trans ((f32 i (imp_51 i hi)).trans (f11 i (imp_52 i hi))))))))), (fun i hi => ((congrFun (f595 16 (by decide)) i).trans ((congrFun (f579 16 (by decide)) i).trans ((congrFun (f571 16 (by decide)) i).trans ((congrFun (f552 16 (by decide)) i).trans ((congrFun (f440 16 (by decide)) i).trans ((congrFun (f31 16 (by decide)) i).trans (congrFun (f10 16 (by decide)) i)))))))), I597, I610, trivial⟩ hP hS dX7_readOrder_147
                  · have kc592 := jne c592 rfl jz_0
                    refine lv_aload_n hx hb dX7_readOrder_126 rfl (lv_at hl 4 rfl) ?_
                    refine lv_iconst (v := 3) hx hb dX7_readOrder_127 (by decide) ?_
                    refine jcallV (As := [.int 3]) (rest := []) ⟨hx, hb, hml, hown, hts⟩ hK hP hA hS hZ (c_X7_number_3 l D cI cL ad zz hJ σ577 τ I581 I582 I583) cw_RX7_53 (jc_9 cI cL ad σ577 τ) rfl ⟨Nat.le_of_ble_eq_true rfl, Nat.le_of_ble_eq_true rfl⟩ rfl rfl rfl hl.1 rfl (Nat.le_of_ble_eq_true rfl) dX7_readOrder_128 ⟨Nat.zero_le _, Nat.zero_le _⟩ (fun r612 σ611 τ611 H locs h611 hP hS => ?_)
                    obtain ⟨rfl, f613, f614, I615, I616, I617, h611⟩ := h611
                    obtain ⟨i618, w619, w620⟩ : (0 ≤ (σ611 9 0).toInt ∧ (σ611 9 0).toInt ≤ 80) ∧ (∀ k : Nat, k < 80 → 0 ≤ (σ611 10 k).toInt ∧ (σ611 10 k).toInt ≤ 255) ∧ (∀ k : Nat, k < 8 → 0 ≤ (σ611 11 k).toInt ∧ (σ611 11 k).toInt ≤ 3) := id I615
                    obtain ⟨i621, i622⟩ : (0 ≤ (σ611 9 1).toInt) ∧ ((σ611 9 1).toInt ≤ (σ611 9 0).toInt) := id I616
                    have i623 : (-1) ≤ (σ611 9 2).toInt := I617
                    have z624 : (σ611 9 0).toInt = (σ 9 0).toInt := (congrArg Int32.toInt (show σ611 9 0 = (σ 9 0) from ((f614 0 (by decide)).trans ((f580 0 (by decide)).trans ((f572 0 (by decide)).trans ((f553 0 (by decide)).trans ((f441 0 (by decide)).trans ((f32 0 (by decide)).trans (f11 0 (by decide))))))))))
                    obtain ⟨k625, h611⟩ := h611
                    have h626 := h611
                    obtain ⟨q628, k627⟩ := h626
                    refine lv_istore (lv' := [(4, .int r612), (3, .int r551), (5, .int (σ438 9 1)), (2, .int x24), (0, .ref (ad 9)), (1, .ref (ad 16))]) hx hb dX7_readOrder_131 hl (by decide) rfl (fun ls hl => ?_)
                    refine lv_aload_n hx hb dX7_readOrder_133 rfl (lv_at hl 4 rfl) ?_
                    refine jcallV (As := []) (rest := []) ⟨hx, hb, hml, hown, hts⟩ hK hP hA hS hZ (c_X7_end_9 l D cI cL ad zz hJ σ611 τ I615 I616 I617) cw_RX7_57 (jc_9 cI cL ad σ611 τ) rfl ⟨Nat.le_of_ble_eq_true rfl, Nat.le_of_ble_eq_true rfl⟩ rfl rfl rfl hl.1 rfl (Nat.le_of_ble_eq_true rfl) dX7_readOrder_134 ⟨Nat.zero_le _, Nat.zero_le _⟩ (fun r630 σ629 τ629 H locs h629 hP hS => ?_)
                    obtain ⟨rfl, f631, f632, I633, I634, h629⟩ := h629
                    obtain ⟨i635, w636, w637⟩ : (0 ≤ (σ629 9 0).toInt ∧ (σ629 9 0).toInt ≤ 80) ∧ (∀ k : Nat, k < 80 → 0 ≤ (σ629 10 k).toInt ∧ (σ629 10 k).toInt ≤ 255) ∧ (∀ k : Nat, k < 8 → 0 ≤ (σ629 11 k).toInt ∧ (σ629 11 k).toInt ≤ 3) := id I633
                    have i638 : (-1) ≤ (σ629 9 2).toInt := I634
                    rcases h629 with h639 | h640
                    · obtain ⟨q642, k641⟩ := h639
                      exact absurd (by omega : False) id
                    · obtain ⟨q644, k643⟩ := h640
                      refine lv_istore (lv' := [(5, .int r630), (4, .int r612), (3, .int r551), (2, .int x24), (0, .ref (ad 9)), (1, .ref (ad 16))]) hx hb dX7_readOrder_137 hl (by decide) rfl (fun ls hl => ?_)
                      refine lv_iload hx hb dX7_readOrder_139 (lv_at hl 0 rfl) ?_
                      refine lv_iconst (v := (-1)) hx hb dX7_readOrder_141 (by decide) ?_
                      refine lv_icmp_eq (tgt := 148) hx hb dX7_readOrder_142 (by decide) (fun c => absurd (jeq c rfl jz_m1) (by omega)) (fun c645 => ?_)
                      have kc645 := jne c645 rfl jz_m1
                      refine lv_iload hx hb dX7_readOrder_145 (lv_at hl 0 rfl) ?_
                      have I646 : jI16 σ629 := jI16_fr ((congrFun (f631 16 (by decide)) 0).trans ((congrFun (f613 16 (by decide)) 0).trans ((congrFun (f579 16 (by decide)) 0).trans ((congrFun (f571 16 (by decide)) 0).trans ((congrFun (f552 16 (by decide)) 0).trans ((congrFun (f440 16 (by decide)) 0).trans ((congrFun (f31 16 (by decide)) 0).trans (congrFun (f10 16 (by decide)) 0)))))))) ((congrFun (f631 16 (by decide)) 1).trans ((congrFun (f613 16 (by decide)) 1).trans ((congrFun (f579 16 (by decide)) 1).trans ((congrFun (f571 16 (by decide)) 1).trans ((congrFun (f552 16 (by decide)) 1).trans ((congrFun (f440 16 (by decide)) 1).trans ((congrFun (f31 16 (by decide)) 1).trans (congrFun (f10 16 (by decide)) 1)))))))) ((congrFun (f631 16 (by decide)) 2).trans ((congrFun (f613 16 (by decide)) 2).trans ((congrFun (f579 16 (by decide)) 2).trans ((congrFun (f571 16 (by decide)) 2).trans ((congrFun (f552 16 (by decide)) 2).trans ((congrFun (f440 16 (by decide)) 2).trans ((congrFun (f31 16 (by decide)) 2).trans (congrFun (f10 16 (by decide)) 2)))))))) ((f631 17 (by decide)).trans ((f613 17 (by decide)).trans ((f579 17 (by decide)).trans ((f571 17 (by decide)).trans ((f552 17 (by decide)).trans ((f440 17 (by decide)).trans ((f31 17 (by decide)).trans (f10 17 (by decide))))))))) hI16
                      exact hret r630 σ629 τ _ _ _ _ rfl ⟨rfl, (fun i hi => ((f631 i (imp_48 i hi)).trans ((f613 i (imp_48 i hi)).trans ((f579 i (imp_48 i hi)).trans ((f571 i (imp_48 i hi)).trans ((f552 i (imp_48 i hi)).trans ((f440 i (imp_48 i hi)).trans ((f31 i (imp_49 i hi)).trans (f10 i (imp_48 i hi)))))))))), (fun i hi => ((f632 i (imp_50 i hi)).trans ((f614 i (imp_52 i hi)).trans ((f580 i (imp_51 i hi)).trans ((f572 i (imp_56 i hi)).trans ((f553 i (imp_52 i hi)).trans ((f441 i (imp_51 i hi)).trans ((f32 i (imp_51 i hi)).trans (f11 i (imp_52 i hi)))))))))), (fun i hi => ((congrFun (f631 16 (by decide)) i).trans ((congrFun (f613 16 (by decide)) i).trans ((congrFun (f579 16 (by decide)) i).trans ((congrFun (f571 16 (by decide)) i).trans ((congrFun (f552 16 (by decide)) i).trans ((congrFun (f440 16 (by decide)) i).trans ((congrFun (f31 16 (by decide)) i).trans (congrFun (f10 16 (by decide)) i))))))))), I633, I646, trivial⟩ hP hS dX7_readOrder_147
                · have kc568 := jnlt c568 rfl jz_1
                  refine lv_iload_n hx hb dX7_readOrder_105 rfl (lv_at hl 0 rfl) ?_
                  refine lv_bipush (v := 12) hx hb dX7_readOrder_106 (by decide) ?_
                  refine lv_icmp_le (tgt := 117) hx hb dX7_readOrder_108 (by decide) (fun c647 => ?_) (fun c647 => ?_)
                  · have kc647 := jle c647 rfl jz_12
                    refine lv_aload_n hx hb dX7_readOrder_117 rfl (lv_at hl 4 rfl) ?_
                    refine lv_bipush (v := 114) hx hb dX7_readOrder_118 (by decide) ?_
                    refine jcallV (As := [.int 114]) (rest := []) ⟨hx, hb, hml, hown, hts⟩ hK hP hA hS hZ (c_X7_skip_9 l D cI cL ad zz hJ σ550 τ 114 (114) jz_114 I554 I555 I556 (by omega)) cw_RX7_50 (jc_9 cI cL ad σ550 τ) rfl ⟨Nat.le_of_ble_eq_true rfl, Nat.le_of_ble_eq_true rfl⟩ rfl rfl rfl hl.1 rfl (Nat.le_of_ble_eq_true rfl) dX7_readOrder_120 ⟨Nat.zero_le _, Nat.zero_le _⟩ (fun r649 σ648 τ648 H locs h648 hP hS => ?_)
                    obtain ⟨rfl, f650, f651, I652, I653, I654, h648⟩ := h648
                    obtain ⟨i655, w656, w657⟩ : (0 ≤ (σ648 9 0).toInt ∧ (σ648 9 0).toInt ≤ 80) ∧ (∀ k : Nat, k < 80 → 0 ≤ (σ648 10 k).toInt ∧ (σ648 10 k).toInt ≤ 255) ∧ (∀ k : Nat, k < 8 → 0 ≤ (σ648 11 k).toInt ∧ (σ648 11 k).toInt ≤ 3) := id I652
                    obtain ⟨i658, i659⟩ : (0 ≤ (σ648 9 1).toInt) ∧ ((σ648 9 1).toInt ≤ (σ648 9 0).toInt) := id I653
                    have i660 : (-1) ≤ (σ648 9 2).toInt := I654
                    have z661 : (σ648 9 0).toInt = (σ 9 0).toInt := (congrArg Int32.toInt (show σ648 9 0 = (σ 9 0) from ((f651 0 (by decide)).trans ((f553 0 (by decide)).trans ((f441 0 (by decide)).trans ((f32 0 (by decide)).trans (f11 0 (by decide))))))))
                    have z662 : (σ648 9 2).toInt = (σ550 9 2).toInt := (congrArg Int32.toInt (show σ648 9 2 = (σ550 9 2) from (f651 2 (by decide))))
                    refine lv_if_eq (tgt := 133) hx hb dX7_readOrder_123 (by decide) (fun c663 => ?_) (fun c663 => ?_)
                    · have kc663 := jeq c663 rfl jz_0
                      refine lv_aload_n hx hb dX7_readOrder_133 rfl (lv_at hl 4 rfl) ?_
                      refine jcallV (As := []) (rest := []) ⟨hx, hb, hml, hown, hts⟩ hK hP hA hS hZ (c_X7_end_9 l D cI cL ad zz hJ σ648 τ I652 I653 I654) cw_RX7_57 (jc_9 cI cL ad σ648 τ) rfl ⟨Nat.le_of_ble_eq_true rfl, Nat.le_of_ble_eq_true rfl⟩ rfl rfl rfl hl.1 rfl (Nat.le_of_ble_eq_true rfl) dX7_readOrder_134 ⟨Nat.zero_le _, Nat.zero_le _⟩ (fun r665 σ664 τ664 H locs h664 hP hS => ?_)
                      obtain ⟨rfl, f666, f667, I668, I669, h664⟩ := h664
                      obtain ⟨i670, w671, w672⟩ : (0 ≤ (σ664 9 0).toInt ∧ (σ664 9 0).toInt ≤ 80) ∧ (∀ k : Nat, k < 80 → 0 ≤ (σ664 10 k).toInt ∧ (σ664 10 k).toInt ≤ 255) ∧ (∀ k : Nat, k < 8 → 0 ≤ (σ664 11 k).toInt ∧ (σ664 11 k).toInt ≤ 3) := id I668
                      have i673 : (-1) ≤ (σ664 9 2).toInt := I669
                      rcases h664 with h674 | h675
                      · obtain ⟨q677, k676⟩ := h674
                        have q677 := q677.symm
                        subst q677
                        refine lv_istore (lv' := [(5, .int (-1)), (3, .int r551), (4, .int 0), (2, .int x24), (0, .ref (ad 9)), (1, .ref (ad 16))]) hx hb dX7_readOrder_137 hl (by decide) rfl (fun ls hl => ?_)
                        refine lv_iload hx hb dX7_readOrder_139 (lv_at hl 0 rfl) ?_
                        refine lv_iconst (v := (-1)) hx hb dX7_readOrder_141 (by decide) ?_
                        refine lv_icmp_eq (tgt := 148) hx hb dX7_readOrder_142 (by decide) (fun _ => ?_) (fun c => absurd (by decide) c)
                        refine lv_aload_n hx hb dX7_readOrder_148 rfl (lv_at hl 5 rfl) ?_
                        refine lv_iload_n hx hb dX7_readOrder_149 rfl (lv_at hl 3 rfl) ?_
                        refine jput (ty := .int) hx hb hts inlX6 tyX6 tyX6_ok nmX6 hown hK hP hJ hA hS (jc_16 cI cL ad σ664 τ) rfl (k := 0) (by decide) (Nat.le_of_ble_eq_true rfl) (jp_16_0 cI cL ad σ664 τ x24) (hts _ kw_13_18) (fun _ h9 => h9) rfl (by decide +kernel) rfl rfl dX7_readOrder_150 (fun σ678 H locs eσ678 hP hS => ?_)
                        refine lv_aload_n hx hb dX7_readOrder_153 rfl (lv_at hl 5 rfl) ?_
                        refine lv_iload_n hx hb dX7_readOrder_154 rfl (lv_at hl 1 rfl) ?_
                        refine jput (ty := .int) hx hb hts inlX6 tyX6 tyX6_ok nmX6 hown hK hP hJ hA hS (jc_16 cI cL ad σ678 τ) rfl (k := 1) (by decide) (Nat.le_of_ble_eq_true rfl) (jp_16_1 cI cL ad σ678 τ r551) (hts _ kw_13_19) (fun _ h9 => h9) rfl (by decide +kernel) rfl rfl dX7_readOrder_155 (fun σ679 H locs eσ679 hP hS => ?_)
                        refine lv_aload_n hx hb dX7_readOrder_158 rfl (lv_at hl 5 rfl) ?_
                        refine lv_iload hx hb dX7_readOrder_159 (lv_at hl 2 rfl) ?_
                        refine jput (ty := .int) hx hb hts inlX6 tyX6 tyX6_ok nmX6 hown hK hP hJ hA hS (jc_16 cI cL ad σ679 τ) rfl (k := 2) (by decide) (Nat.le_of_ble_eq_true rfl) (jp_16_2 cI cL ad σ679 τ 0) (hts _ kw_13_20) (fun _ h9 => h9) rfl (by decide +kernel) rfl rfl dX7_readOrder_161 (fun σ680 H locs eσ680 hP hS => ?_)
                        refine lv_aload_n hx hb dX7_readOrder_164 rfl (lv_at hl 4 rfl) ?_
                        refine va_get (D := D) hx hb hts inlX7 hown hK hP 9 (jc_9 cI cL ad σ680 τ) rfl 4 (by decide) (hts _ kw_3_21) (fun _ h9 => h9) rfl dX7_readOrder_165 ?_
                        refine lv_iconst (v := 0) hx hb dX7_readOrder_168 (by decide) ?_
                        refine lv_aload_n hx hb dX7_readOrder_169 rfl (lv_at hl 5 rfl) ?_
                        refine va_get (D := D) hx hb hts inlX6 hown hK hP 16 (jc_16 cI cL ad σ680 τ) rfl 3 (by decide) (hts _ kw_13_21) (fun _ h9 => h9) rfl dX7_readOrder_170 ?_
                        refine lv_iconst (v := 0) hx hb dX7_readOrder_173 (by decide) ?_
                        refine lv_iload_n hx hb dX7_readOrder_174 rfl (lv_at hl 3 rfl) ?_
                        refine jcpyI (q0 := 11) (q1 := 17) hx hb (hml.trans hl.1.symm) hown (hts _ kw_13_22) (hts _ kw_13_23) (hts _ kw_14_0) (hts _ kw_14_1) hK hP hJ hA hS (jc_11 cI cL ad σ680 τ) (jc_17 cI cL ad σ680 τ) (fun _ => rfl) jz_0 jz_0 rfl (by omega) (by omega) (by omega) (by omega) (by omega) (Nat.le_of_ble_eq_true rfl) (Nat.le_of_ble_eq_true rfl) dX7_readOrder_175 (fun σ681 H locs eσ681 hP hS => ?_)
                        have w682 : ∀ k : Nat, k < 8 → 0 ≤ (σ680 11 k).toInt ∧ (σ680 11 k).toInt ≤ 3 := (jrr_fr (jnp 11 eσ680 (by decide)) (jrr_fr (jnp 11 eσ679 (by decide)) (jrr_fr (jnp 11 eσ678 (by decide)) w672)))
                        have w683 : ∀ k : Nat, k < 8 → 0 ≤ (σ680 17 k).toInt ∧ (σ680 17 k).toInt ≤ 3 := (jrr_fr (jnp 17 eσ680 (by decide)) (jrr_fr (jnp 17 eσ679 (by decide)) (jrr_fr (jnp 17 eσ678 (by decide)) (jrr_fr (f666 17 (by decide)) (jrr_fr (f650 17 (by decide)) (jrr_fr (f552 17 (by decide)) (jrr_fr (f440 17 (by decide)) (jrr_fr (f31 17 (by decide)) (jrr_fr (f10 17 (by decide)) w7)))))))))
                        have f684 : (∀ i : Nat, (i < 17 ∨ 17 < i) → σ681 i = σ680 i) := by rw [eσ681]; exact jrow_n
                        have w685 : ∀ k : Nat, k < 8 → 0 ≤ (σ681 17 k).toInt ∧ (σ681 17 k).toInt ≤ 3 := by rw [eσ681]; exact jrow_rr w682 w683 jz_0 rfl (n0 := 8) (by omega) (by omega) (by omega)
                        refine lv_iconst (v := (-1)) hx hb dX7_readOrder_178 (by decide) ?_
                        have I686 : jI9 σ681 := jI9_fr ((congrFun (f684 9 (by decide)) 0).trans ((congrFun (jnp 9 eσ680 (by decide)) 0).trans ((congrFun (jnp 9 eσ679 (by decide)) 0).trans (congrFun (jnp 9 eσ678 (by decide)) 0)))) ((f684 10 (by decide)).trans ((jnp 10 eσ680 (by decide)).trans ((jnp 10 eσ679 (by decide)).trans (jnp 10 eσ678 (by decide))))) ((f684 11 (by decide)).trans ((jnp 11 eσ680 (by decide)).trans ((jnp 11 eσ679 (by decide)).trans (jnp 11 eσ678 (by decide))))) I668
                        have z687 : (σ681 16 0).toInt = x24.toInt := (congrArg Int32.toInt (show σ681 16 0 = x24 from ((congrFun (f684 16 (by decide)) 0).trans ((jkp 0 eσ680 (by decide)).trans ((jkp 0 eσ679 (by decide)).trans (jsp eσ678))))))
                        have z688 : (σ681 16 1).toInt = r551.toInt := (congrArg Int32.toInt (show σ681 16 1 = r551 from ((congrFun (f684 16 (by decide)) 1).trans ((jkp 1 eσ680 (by decide)).trans (jsp eσ679)))))
                        have z689 : (σ681 16 2).toInt = 0 := ((congrArg Int32.toInt (show σ681 16 2 = 0 from ((congrFun (f684 16 (by decide)) 2).trans (jsp eσ680)))).trans jz_0)
                        have I690 : jI16 σ681 := ⟨(by omega), (by omega), (by omega), w685⟩
                        exact hret (-1) σ681 τ _ _ _ _ rfl ⟨rfl, (fun i hi => ((f684 i (imp_46 i hi)).trans ((jnp i eσ680 (imp_47 i hi)).trans ((jnp i eσ679 (imp_47 i hi)).trans ((jnp i eσ678 (imp_47 i hi)).trans ((f666 i (imp_48 i hi)).trans ((f650 i (imp_48 i hi)).trans ((f552 i (imp_48 i hi)).trans ((f440 i (imp_48 i hi)).trans ((f31 i (imp_49 i hi)).trans (f10 i (imp_48 i hi)))))))))))), (fun i hi => ((congrFun (f684 9 (by decide)) i).trans ((congrFun (jnp 9 eσ680 (by decide)) i).trans ((congrFun (jnp 9 eσ679 (by decide)) i).trans ((congrFun (jnp 9 eσ678 (by decide)) i).trans ((f667 i (imp_50 i hi)).trans ((f651 i (imp_51 i hi)).trans ((f553 i (imp_52 i hi)).trans ((f441 i (imp_51 i hi)).trans ((f32 i (imp_51 i hi)).trans (f11 i (imp_52 i hi)))))))))))), (fun i hi => ((congrFun (f684 16 (by decide)) i).trans ((jkp i eσ680 (imp_53 i hi)).trans ((jkp i eσ679 (imp_54 i hi)).trans ((jkp i eσ678 (imp_55 i hi)).trans ((congrFun (f666 16 (by decide)) i).trans ((congrFun (f650 16 (by decide)) i).trans ((congrFun (f552 16 (by decide)) i).trans ((congrFun (f440 16 (by decide)) i).trans ((congrFun (f31 16 (by decide)) i).trans (congrFun (f10 16 (by decide)) i))))))))))), I686, I690, trivial⟩ hP hS dX7_readOrder_179
                      · obtain ⟨q692, k691⟩ := h675
                        refine lv_istore (lv' := [(5, .int r665), (3, .int r551), (4, .int 0), (2, .int x24), (0, .ref (ad 9)), (1, .ref (ad 16))]) hx hb dX7_readOrder_137 hl (by decide) rfl (fun ls hl => ?_)
                        refine lv_iload hx hb dX7_readOrder_139 (lv_at hl 0 rfl) ?_
                        refine lv_iconst (v := (-1)) hx hb dX7_readOrder_141 (by decide) ?_
                        refine lv_icmp_eq (tgt := 148) hx hb dX7_readOrder_142 (by decide) (fun c => absurd (jeq c rfl jz_m1) (by omega)) (fun c693 => ?_)
                        have kc693 := jne c693 rfl jz_m1
                        refine lv_iload hx hb dX7_readOrder_145 (lv_at hl 0 rfl) ?_
                        have I694 : jI16 σ664 := jI16_fr ((congrFun (f666 16 (by decide)) 0).trans ((congrFun (f650 16 (by decide)) 0).trans ((congrFun (f552 16 (by decide)) 0).trans ((congrFun (f440 16 (by decide)) 0).trans ((congrFun (f31 16 (by decide)) 0).trans (congrFun (f10 16 (by decide)) 0)))))) ((congrFun (f666 16 (by decide)) 1).trans ((congrFun (f650 16 (by decide)) 1).trans ((congrFun (f552 16 (by decide)) 1).trans ((congrFun (f440 16 (by decide)) 1).trans ((congrFun (f31 16 (by decide)) 1).trans (congrFun (f10 16 (by decide)) 1)))))) ((congrFun (f666 16 (by decide)) 2).trans ((congrFun (f650 16 (by decide)) 2).trans ((congrFun (f552 16 (by decide)) 2).trans ((congrFun (f440 16 (by decide)) 2).trans ((congrFun (f31 16 (by decide)) 2).trans (congrFun (f10 16 (by decide)) 2)))))) ((f666 17 (by decide)).trans ((f650 17 (by decide)).trans ((f552 17 (by decide)).trans ((f440 17 (by decide)).trans ((f31 17 (by decide)).trans (f10 17 (by decide))))))) hI16
                        exact hret r665 σ664 τ _ _ _ _ rfl ⟨rfl, (fun i hi => ((f666 i (imp_48 i hi)).trans ((f650 i (imp_48 i hi)).trans ((f552 i (imp_48 i hi)).trans ((f440 i (imp_48 i hi)).trans ((f31 i (imp_49 i hi)).trans (f10 i (imp_48 i hi)))))))), (fun i hi => ((f667 i (imp_50 i hi)).trans ((f651 i (imp_51 i hi)).trans ((f553 i (imp_52 i hi)).trans ((f441 i (imp_51 i hi)).trans ((f32 i (imp_51 i hi)).trans (f11 i (imp_52 i hi)))))))), (fun i hi => ((congrFun (f666 16 (by decide)) i).trans ((congrFun (f650 16 (by decide)) i).trans ((congrFun (f552 16 (by decide)) i).trans ((congrFun (f440 16 (by decide)) i).trans ((congrFun (f31 16 (by decide)) i).trans (congrFun (f10 16 (by decide)) i))))))), I668, I694, trivial⟩ hP hS dX7_readOrder_147
                    · have kc663 := jne c663 rfl jz_0
                      refine lv_aload_n hx hb dX7_readOrder_126 rfl (lv_at hl 4 rfl) ?_
                      refine lv_iconst (v := 3) hx hb dX7_readOrder_127 (by decide) ?_
                      refine jcallV (As := [.int 3]) (rest := []) ⟨hx, hb, hml, hown, hts⟩ hK hP hA hS hZ (c_X7_number_3 l D cI cL ad zz hJ σ648 τ I652 I653 I654) cw_RX7_53 (jc_9 cI cL ad σ648 τ) rfl ⟨Nat.le_of_ble_eq_true rfl, Nat.le_of_ble_eq_true rfl⟩ rfl rfl rfl hl.1 rfl (Nat.le_of_ble_eq_true rfl) dX7_readOrder_128 ⟨Nat.zero_le _, Nat.zero_le _⟩ (fun r696 σ695 τ695 H locs h695 hP hS => ?_)
                      obtain ⟨rfl, f697, f698, I699, I700, I701, h695⟩ := h695
                      obtain ⟨i702, w703, w704⟩ : (0 ≤ (σ695 9 0).toInt ∧ (σ695 9 0).toInt ≤ 80) ∧ (∀ k : Nat, k < 80 → 0 ≤ (σ695 10 k).toInt ∧ (σ695 10 k).toInt ≤ 255) ∧ (∀ k : Nat, k < 8 → 0 ≤ (σ695 11 k).toInt ∧ (σ695 11 k).toInt ≤ 3) := id I699
                      obtain ⟨i705, i706⟩ : (0 ≤ (σ695 9 1).toInt) ∧ ((σ695 9 1).toInt ≤ (σ695 9 0).toInt) := id I700
                      have i707 : (-1) ≤ (σ695 9 2).toInt := I701
                      have z708 : (σ695 9 0).toInt = (σ 9 0).toInt := (congrArg Int32.toInt (show σ695 9 0 = (σ 9 0) from ((f698 0 (by decide)).trans ((f651 0 (by decide)).trans ((f553 0 (by decide)).trans ((f441 0 (by decide)).trans ((f32 0 (by decide)).trans (f11 0 (by decide)))))))))
                      obtain ⟨k709, h695⟩ := h695
                      have h710 := h695
                      obtain ⟨q712, k711⟩ := h710
                      refine lv_istore (lv' := [(4, .int r696), (3, .int r551), (5, .int (σ438 9 1)), (2, .int x24), (0, .ref (ad 9)), (1, .ref (ad 16))]) hx hb dX7_readOrder_131 hl (by decide) rfl (fun ls hl => ?_)
                      refine lv_aload_n hx hb dX7_readOrder_133 rfl (lv_at hl 4 rfl) ?_
                      refine jcallV (As := []) (rest := []) ⟨hx, hb, hml, hown, hts⟩ hK hP hA hS hZ (c_X7_end_9 l D cI cL ad zz hJ σ695 τ I699 I700 I701) cw_RX7_57 (jc_9 cI cL ad σ695 τ) rfl ⟨Nat.le_of_ble_eq_true rfl, Nat.le_of_ble_eq_true rfl⟩ rfl rfl rfl hl.1 rfl (Nat.le_of_ble_eq_true rfl) dX7_readOrder_134 ⟨Nat.zero_le _, Nat.zero_le _⟩ (fun r714 σ713 τ713 H locs h713 hP hS => ?_)
                      obtain ⟨rfl, f715, f716, I717, I718, h713⟩ := h713
                      obtain ⟨i719, w720, w721⟩ : (0 ≤ (σ713 9 0).toInt ∧ (σ713 9 0).toInt ≤ 80) ∧ (∀ k : Nat, k < 80 → 0 ≤ (σ713 10 k).toInt ∧ (σ713 10 k).toInt ≤ 255) ∧ (∀ k : Nat, k < 8 → 0 ≤ (σ713 11 k).toInt ∧ (σ713 11 k).toInt ≤ 3) := id I717
                      have i722 : (-1) ≤ (σ713 9 2).toInt := I718
                      rcases h713 with h723 | h724
                      · obtain ⟨q726, k725⟩ := h723
                        have q726 := q726.symm
                        subst q726
                        refine lv_istore (lv' := [(5, .int (-1)), (4, .int r696), (3, .int r551), (2, .int x24), (0, .ref (ad 9)), (1, .ref (ad 16))]) hx hb dX7_readOrder_137 hl (by decide) rfl (fun ls hl => ?_)
                        refine lv_iload hx hb dX7_readOrder_139 (lv_at hl 0 rfl) ?_
                        refine lv_iconst (v := (-1)) hx hb dX7_readOrder_141 (by decide) ?_
                        refine lv_icmp_eq (tgt := 148) hx hb dX7_readOrder_142 (by decide) (fun _ => ?_) (fun c => absurd (by decide) c)
                        refine lv_aload_n hx hb dX7_readOrder_148 rfl (lv_at hl 5 rfl) ?_
                        refine lv_iload_n hx hb dX7_readOrder_149 rfl (lv_at hl 3 rfl) ?_
                        refine jput (ty := .int) hx hb hts inlX6 tyX6 tyX6_ok nmX6 hown hK hP hJ hA hS (jc_16 cI cL ad σ713 τ) rfl (k := 0) (by decide) (Nat.le_of_ble_eq_true rfl) (jp_16_0 cI cL ad σ713 τ x24) (hts _ kw_13_18) (fun _ h9 => h9) rfl (by decide +kernel) rfl rfl dX7_readOrder_150 (fun σ727 H locs eσ727 hP hS => ?_)
                        refine lv_aload_n hx hb dX7_readOrder_153 rfl (lv_at hl 5 rfl) ?_
                        refine lv_iload_n hx hb dX7_readOrder_154 rfl (lv_at hl 2 rfl) ?_
                        refine jput (ty := .int) hx hb hts inlX6 tyX6 tyX6_ok nmX6 hown hK hP hJ hA hS (jc_16 cI cL ad σ727 τ) rfl (k := 1) (by decide) (Nat.le_of_ble_eq_true rfl) (jp_16_1 cI cL ad σ727 τ r551) (hts _ kw_13_19) (fun _ h9 => h9) rfl (by decide +kernel) rfl rfl dX7_readOrder_155 (fun σ728 H locs eσ728 hP hS => ?_)
                        refine lv_aload_n hx hb dX7_readOrder_158 rfl (lv_at hl 5 rfl) ?_
                        refine lv_iload hx hb dX7_readOrder_159 (lv_at hl 1 rfl) ?_
                        refine jput (ty := .int) hx hb hts inlX6 tyX6 tyX6_ok nmX6 hown hK hP hJ hA hS (jc_16 cI cL ad σ728 τ) rfl (k := 2) (by decide) (Nat.le_of_ble_eq_true rfl) (jp_16_2 cI cL ad σ728 τ r696) (hts _ kw_13_20) (fun _ h9 => h9) rfl (by decide +kernel) rfl rfl dX7_readOrder_161 (fun σ729 H locs eσ729 hP hS => ?_)
                        refine lv_aload_n hx hb dX7_readOrder_164 rfl (lv_at hl 4 rfl) ?_
                        refine va_get (D := D) hx hb hts inlX7 hown hK hP 9 (jc_9 cI cL ad σ729 τ) rfl 4 (by decide) (hts _ kw_3_21) (fun _ h9 => h9) rfl dX7_readOrder_165 ?_
                        refine lv_iconst (v := 0) hx hb dX7_readOrder_168 (by decide) ?_
                        refine lv_aload_n hx hb dX7_readOrder_169 rfl (lv_at hl 5 rfl) ?_
                        refine va_get (D := D) hx hb hts inlX6 hown hK hP 16 (jc_16 cI cL ad σ729 τ) rfl 3 (by decide) (hts _ kw_13_21) (fun _ h9 => h9) rfl dX7_readOrder_170 ?_
                        refine lv_iconst (v := 0) hx hb dX7_readOrder_173 (by decide) ?_
                        refine lv_iload_n hx hb dX7_readOrder_174 rfl (lv_at hl 3 rfl) ?_
                        refine jcpyI (q0 := 11) (q1 := 17) hx hb (hml.trans hl.1.symm) hown (hts _ kw_13_22) (hts _ kw_13_23) (hts _ kw_14_0) (hts _ kw_14_1) hK hP hJ hA hS (jc_11 cI cL ad σ729 τ) (jc_17 cI cL ad σ729 τ) (fun _ => rfl) jz_0 jz_0 rfl (by omega) (by omega) (by omega) (by omega) (by omega) (Nat.le_of_ble_eq_true rfl) (Nat.le_of_ble_eq_true rfl) dX7_readOrder_175 (fun σ730 H locs eσ730 hP hS => ?_)
                        have w731 : ∀ k : Nat, k < 8 → 0 ≤ (σ729 11 k).toInt ∧ (σ729 11 k).toInt ≤ 3 := (jrr_fr (jnp 11 eσ729 (by decide)) (jrr_fr (jnp 11 eσ728 (by decide)) (jrr_fr (jnp 11 eσ727 (by decide)) w721)))
                        have w732 : ∀ k : Nat, k < 8 → 0 ≤ (σ729 17 k).toInt ∧ (σ729 17 k).toInt ≤ 3 := (jrr_fr (jnp 17 eσ729 (by decide)) (jrr_fr (jnp 17 eσ728 (by decide)) (jrr_fr (jnp 17 eσ727 (by decide)) (jrr_fr (f715 17 (by decide)) (jrr_fr (f697 17 (by decide)) (jrr_fr (f650 17 (by decide)) (jrr_fr (f552 17 (by decide)) (jrr_fr (f440 17 (by decide)) (jrr_fr (f31 17 (by decide)) (jrr_fr (f10 17 (by decide)) w7))))))))))
                        have f733 : (∀ i : Nat, (i < 17 ∨ 17 < i) → σ730 i = σ729 i) := by rw [eσ730]; exact jrow_n
                        have w734 : ∀ k : Nat, k < 8 → 0 ≤ (σ730 17 k).toInt ∧ (σ730 17 k).toInt ≤ 3 := by rw [eσ730]; exact jrow_rr w731 w732 jz_0 rfl (n0 := 8) (by omega) (by omega) (by omega)
                        refine lv_iconst (v := (-1)) hx hb dX7_readOrder_178 (by decide) ?_
                        have I735 : jI9 σ730 := jI9_fr ((congrFun (f733 9 (by decide)) 0).trans ((congrFun (jnp 9 eσ729 (by decide)) 0).trans ((congrFun (jnp 9 eσ728 (by decide)) 0).trans (congrFun (jnp 9 eσ727 (by decide)) 0)))) ((f733 10 (by decide)).trans ((jnp 10 eσ729 (by decide)).trans ((jnp 10 eσ728 (by decide)).trans (jnp 10 eσ727 (by decide))))) ((f733 11 (by decide)).trans ((jnp 11 eσ729 (by decide)).trans ((jnp 11 eσ728 (by decide)).trans (jnp 11 eσ727 (by decide))))) I717
                        have z736 : (σ730 16 0).toInt = x24.toInt := (congrArg Int32.toInt (show σ730 16 0 = x24 from ((congrFun (f733 16 (by decide)) 0).trans ((jkp 0 eσ729 (by decide)).trans ((jkp 0 eσ728 (by decide)).trans (jsp eσ727))))))
                        have z737 : (σ730 16 1).toInt = r551.toInt := (congrArg Int32.toInt (show σ730 16 1 = r551 from ((congrFun (f733 16 (by decide)) 1).trans ((jkp 1 eσ729 (by decide)).trans (jsp eσ728)))))
                        have z738 : (σ730 16 2).toInt = r696.toInt := (congrArg Int32.toInt (show σ730 16 2 = r696 from ((congrFun (f733 16 (by decide)) 2).trans (jsp eσ729))))
                        have I739 : jI16 σ730 := ⟨(by omega), (by omega), (by omega), w734⟩
                        exact hret (-1) σ730 τ _ _ _ _ rfl ⟨rfl, (fun i hi => ((f733 i (imp_46 i hi)).trans ((jnp i eσ729 (imp_47 i hi)).trans ((jnp i eσ728 (imp_47 i hi)).trans ((jnp i eσ727 (imp_47 i hi)).trans ((f715 i (imp_48 i hi)).trans ((f697 i (imp_48 i hi)).trans ((f650 i (imp_48 i hi)).trans ((f552 i (imp_48 i hi)).trans ((f440 i (imp_48 i hi)).trans ((f31 i (imp_49 i hi)).trans (f10 i (imp_48 i hi))))))))))))), (fun i hi => ((congrFun (f733 9 (by decide)) i).trans ((congrFun (jnp 9 eσ729 (by decide)) i).trans ((congrFun (jnp 9 eσ728 (by decide)) i).trans ((congrFun (jnp 9 eσ727 (by decide)) i).trans ((f716 i (imp_50 i hi)).trans ((f698 i (imp_52 i hi)).trans ((f651 i (imp_51 i hi)).trans ((f553 i (imp_52 i hi)).trans ((f441 i (imp_51 i hi)).trans ((f32 i (imp_51 i hi)).trans (f11 i (imp_52 i hi))))))))))))), (fun i hi => ((congrFun (f733 16 (by decide)) i).trans ((jkp i eσ729 (imp_53 i hi)).trans ((jkp i eσ728 (imp_54 i hi)).trans ((jkp i eσ727 (imp_55 i hi)).trans ((congrFun (f715 16 (by decide)) i).trans ((congrFun (f697 16 (by decide)) i).trans ((congrFun (f650 16 (by decide)) i).trans ((congrFun (f552 16 (by decide)) i).trans ((congrFun (f440 16 (by decide)) i).trans ((congrFun (f31 16 (by decide)) i).trans (congrFun (f10 16 (by decide)) i)))))))))))), I735, I739, trivial⟩ hP hS dX7_readOrder_179
                      · obtain ⟨q741, k740⟩ := h724
                        refine lv_istore (lv' := [(5, .int r714), (4, .int r696), (3, .int r551), (2, .int x24), (0, .ref (ad 9)), (1, .ref (ad 16))]) hx hb dX7_readOrder_137 hl (by decide) rfl (fun ls hl => ?_)
                        refine lv_iload hx hb dX7_readOrder_139 (lv_at hl 0 rfl) ?_
                        refine lv_iconst (v := (-1)) hx hb dX7_readOrder_141 (by decide) ?_
                        refine lv_icmp_eq (tgt := 148) hx hb dX7_readOrder_142 (by decide) (fun c => absurd (jeq c rfl jz_m1) (by omega)) (fun c742 => ?_)
                        have kc742 := jne c742 rfl jz_m1
                        refine lv_iload hx hb dX7_readOrder_145 (lv_at hl 0 rfl) ?_
                        have I743 : jI16 σ713 := jI16_fr ((congrFun (f715 16 (by decide)) 0).trans ((congrFun (f697 16 (by decide)) 0).trans ((congrFun (f650 16 (by decide)) 0).trans ((congrFun (f552 16 (by decide)) 0).trans ((congrFun (f440 16 (by decide)) 0).trans ((congrFun (f31 16 (by decide)) 0).trans (congrFun (f10 16 (by decide)) 0))))))) ((congrFun (f715 16 (by decide)) 1).trans ((congrFun (f697 16 (by decide)) 1).trans ((congrFun (f650 16 (by decide)) 1).trans ((congrFun (f552 16 (by decide)) 1).trans ((congrFun (f440 16 (by decide)) 1).trans ((congrFun (f31 16 (by decide)) 1).trans (congrFun (f10 16 (by decide)) 1))))))) ((congrFun (f715 16 (by decide)) 2).trans ((congrFun (f697 16 (by decide)) 2).trans ((congrFun (f650 16 (by decide)) 2).trans ((congrFun (f552 16 (by decide)) 2).trans ((congrFun (f440 16 (by decide)) 2).trans ((congrFun (f31 16 (by decide)) 2).trans (congrFun (f10 16 (by decide)) 2))))))) ((f715 17 (by decide)).trans ((f697 17 (by decide)).trans ((f650 17 (by decide)).trans ((f552 17 (by decide)).trans ((f440 17 (by decide)).trans ((f31 17 (by decide)).trans (f10 17 (by decide)))))))) hI16
                        exact hret r714 σ713 τ _ _ _ _ rfl ⟨rfl, (fun i hi => ((f715 i (imp_48 i hi)).trans ((f697 i (imp_48 i hi)).trans ((f650 i (imp_48 i hi)).trans ((f552 i (imp_48 i hi)).trans ((f440 i (imp_48 i hi)).trans ((f31 i (imp_49 i hi)).trans (f10 i (imp_48 i hi))))))))), (fun i hi => ((f716 i (imp_50 i hi)).trans ((f698 i (imp_52 i hi)).trans ((f651 i (imp_51 i hi)).trans ((f553 i (imp_52 i hi)).trans ((f441 i (imp_51 i hi)).trans ((f32 i (imp_51 i hi)).trans (f11 i (imp_52 i hi))))))))), (fun i hi => ((congrFun (f715 16 (by decide)) i).trans ((congrFun (f697 16 (by decide)) i).trans ((congrFun (f650 16 (by decide)) i).trans ((congrFun (f552 16 (by decide)) i).trans ((congrFun (f440 16 (by decide)) i).trans ((congrFun (f31 16 (by decide)) i).trans (congrFun (f10 16 (by decide)) i)))))))), I717, I743, trivial⟩ hP hS dX7_readOrder_147
                  · have kc647 := jnle c647 rfl jz_12
                    refine lv_aload_n hx hb dX7_readOrder_111 rfl (lv_at hl 4 rfl) ?_
                    refine lv_iload hx hb dX7_readOrder_112 (lv_at hl 1 rfl) ?_
                    refine jcallVv (As := [.int (σ438 9 1)]) (rest := []) ⟨hx, hb, hml, hown, hts⟩ hK hP hA hS hZ (c_X7_fail_9 l D cI cL ad zz hJ σ550 τ (σ438 9 1) ((σ438 9 1).toInt) rfl I556 (by omega)) cw_RX7_43 (jc_9 cI cL ad σ550 τ) rfl ⟨Nat.le_of_ble_eq_true rfl, Nat.le_of_ble_eq_true rfl⟩ rfl rfl rfl hl.1 rfl (Nat.le_of_ble_eq_true rfl) dX7_readOrder_114 ⟨Nat.zero_le _, Nat.zero_le _⟩ (fun σ744 τ744 H locs h744 hP hS => ?_)
                    obtain ⟨rfl, f746, f747, h744⟩ := h744
                    obtain ⟨k748, h744⟩ := h744
                    refine lv_aload_n hx hb dX7_readOrder_117 rfl (lv_at hl 4 rfl) ?_
                    refine lv_bipush (v := 114) hx hb dX7_readOrder_118 (by decide) ?_
                    have I749 : jI9 σ744 := jI9_fr (f747 0 (by decide)) (f746 10 (by decide)) (f746 11 (by decide)) I554
                    have I750 : jI91 σ744 := jI91_fr (f747 0 (by decide)) (f747 1 (by decide)) I555
                    have I751 : jI92 σ744 := (show (-1) ≤ (σ744 9 2).toInt by omega)
                    refine jcallV (As := [.int 114]) (rest := []) ⟨hx, hb, hml, hown, hts⟩ hK hP hA hS hZ (c_X7_skip_9 l D cI cL ad zz hJ σ744 τ 114 (114) jz_114 I749 I750 I751 (by omega)) cw_RX7_50 (jc_9 cI cL ad σ744 τ) rfl ⟨Nat.le_of_ble_eq_true rfl, Nat.le_of_ble_eq_true rfl⟩ rfl rfl rfl hl.1 rfl (Nat.le_of_ble_eq_true rfl) dX7_readOrder_120 ⟨Nat.zero_le _, Nat.zero_le _⟩ (fun r753 σ752 τ752 H locs h752 hP hS => ?_)
                    obtain ⟨rfl, f754, f755, I756, I757, I758, h752⟩ := h752
                    obtain ⟨i759, w760, w761⟩ : (0 ≤ (σ752 9 0).toInt ∧ (σ752 9 0).toInt ≤ 80) ∧ (∀ k : Nat, k < 80 → 0 ≤ (σ752 10 k).toInt ∧ (σ752 10 k).toInt ≤ 255) ∧ (∀ k : Nat, k < 8 → 0 ≤ (σ752 11 k).toInt ∧ (σ752 11 k).toInt ≤ 3) := id I756
                    obtain ⟨i762, i763⟩ : (0 ≤ (σ752 9 1).toInt) ∧ ((σ752 9 1).toInt ≤ (σ752 9 0).toInt) := id I757
                    have i764 : (-1) ≤ (σ752 9 2).toInt := I758
                    have z765 : (σ752 9 0).toInt = (σ 9 0).toInt := (congrArg Int32.toInt (show σ752 9 0 = (σ 9 0) from ((f755 0 (by decide)).trans ((f747 0 (by decide)).trans ((f553 0 (by decide)).trans ((f441 0 (by decide)).trans ((f32 0 (by decide)).trans (f11 0 (by decide)))))))))
                    have z766 : (σ752 9 2).toInt = (σ744 9 2).toInt := (congrArg Int32.toInt (show σ752 9 2 = (σ744 9 2) from (f755 2 (by decide))))
                    refine lv_if_eq (tgt := 133) hx hb dX7_readOrder_123 (by decide) (fun c767 => ?_) (fun c767 => ?_)
                    · have kc767 := jeq c767 rfl jz_0
                      refine lv_aload_n hx hb dX7_readOrder_133 rfl (lv_at hl 4 rfl) ?_
                      refine jcallV (As := []) (rest := []) ⟨hx, hb, hml, hown, hts⟩ hK hP hA hS hZ (c_X7_end_9 l D cI cL ad zz hJ σ752 τ I756 I757 I758) cw_RX7_57 (jc_9 cI cL ad σ752 τ) rfl ⟨Nat.le_of_ble_eq_true rfl, Nat.le_of_ble_eq_true rfl⟩ rfl rfl rfl hl.1 rfl (Nat.le_of_ble_eq_true rfl) dX7_readOrder_134 ⟨Nat.zero_le _, Nat.zero_le _⟩ (fun r769 σ768 τ768 H locs h768 hP hS => ?_)
                      obtain ⟨rfl, f770, f771, I772, I773, h768⟩ := h768
                      obtain ⟨i774, w775, w776⟩ : (0 ≤ (σ768 9 0).toInt ∧ (σ768 9 0).toInt ≤ 80) ∧ (∀ k : Nat, k < 80 → 0 ≤ (σ768 10 k).toInt ∧ (σ768 10 k).toInt ≤ 255) ∧ (∀ k : Nat, k < 8 → 0 ≤ (σ768 11 k).toInt ∧ (σ768 11 k).toInt ≤ 3) := id I772
                      have i777 : (-1) ≤ (σ768 9 2).toInt := I773
                      rcases h768 with h778 | h779
                      · obtain ⟨q781, k780⟩ := h778
                        exact absurd (by omega : False) id
                      · obtain ⟨q783, k782⟩ := h779
                        refine lv_istore (lv' := [(5, .int r769), (3, .int r551), (4, .int 0), (2, .int x24), (0, .ref (ad 9)), (1, .ref (ad 16))]) hx hb dX7_readOrder_137 hl (by decide) rfl (fun ls hl => ?_)
                        refine lv_iload hx hb dX7_readOrder_139 (lv_at hl 0 rfl) ?_
                        refine lv_iconst (v := (-1)) hx hb dX7_readOrder_141 (by decide) ?_
                        refine lv_icmp_eq (tgt := 148) hx hb dX7_readOrder_142 (by decide) (fun c => absurd (jeq c rfl jz_m1) (by omega)) (fun c784 => ?_)
                        have kc784 := jne c784 rfl jz_m1
                        refine lv_iload hx hb dX7_readOrder_145 (lv_at hl 0 rfl) ?_
                        have I785 : jI16 σ768 := jI16_fr ((congrFun (f770 16 (by decide)) 0).trans ((congrFun (f754 16 (by decide)) 0).trans ((congrFun (f746 16 (by decide)) 0).trans ((congrFun (f552 16 (by decide)) 0).trans ((congrFun (f440 16 (by decide)) 0).trans ((congrFun (f31 16 (by decide)) 0).trans (congrFun (f10 16 (by decide)) 0))))))) ((congrFun (f770 16 (by decide)) 1).trans ((congrFun (f754 16 (by decide)) 1).trans ((congrFun (f746 16 (by decide)) 1).trans ((congrFun (f552 16 (by decide)) 1).trans ((congrFun (f440 16 (by decide)) 1).trans ((congrFun (f31 16 (by decide)) 1).trans (congrFun (f10 16 (by decide)) 1))))))) ((congrFun (f770 16 (by decide)) 2).trans ((congrFun (f754 16 (by decide)) 2).trans ((congrFun (f746 16 (by decide)) 2).trans ((congrFun (f552 16 (by decide)) 2).trans ((congrFun (f440 16 (by decide)) 2).trans ((congrFun (f31 16 (by decide)) 2).trans (congrFun (f10 16 (by decide)) 2))))))) ((f770 17 (by decide)).trans ((f754 17 (by decide)).trans ((f746 17 (by decide)).trans ((f552 17 (by decide)).trans ((f440 17 (by decide)).trans ((f31 17 (by decide)).trans (f10 17 (by decide)))))))) hI16
                        exact hret r769 σ768 τ _ _ _ _ rfl ⟨rfl, (fun i hi => ((f770 i (imp_48 i hi)).trans ((f754 i (imp_48 i hi)).trans ((f746 i (imp_48 i hi)).trans ((f552 i (imp_48 i hi)).trans ((f440 i (imp_48 i hi)).trans ((f31 i (imp_49 i hi)).trans (f10 i (imp_48 i hi))))))))), (fun i hi => ((f771 i (imp_50 i hi)).trans ((f755 i (imp_51 i hi)).trans ((f747 i (imp_56 i hi)).trans ((f553 i (imp_52 i hi)).trans ((f441 i (imp_51 i hi)).trans ((f32 i (imp_51 i hi)).trans (f11 i (imp_52 i hi))))))))), (fun i hi => ((congrFun (f770 16 (by decide)) i).trans ((congrFun (f754 16 (by decide)) i).trans ((congrFun (f746 16 (by decide)) i).trans ((congrFun (f552 16 (by decide)) i).trans ((congrFun (f440 16 (by decide)) i).trans ((congrFun (f31 16 (by decide)) i).trans (congrFun (f10 16 (by decide)) i)))))))), I772, I785, trivial⟩ hP hS dX7_readOrder_147
                    · have kc767 := jne c767 rfl jz_0
                      refine lv_aload_n hx hb dX7_readOrder_126 rfl (lv_at hl 4 rfl) ?_
                      refine lv_iconst (v := 3) hx hb dX7_readOrder_127 (by decide) ?_
                      refine jcallV (As := [.int 3]) (rest := []) ⟨hx, hb, hml, hown, hts⟩ hK hP hA hS hZ (c_X7_number_3 l D cI cL ad zz hJ σ752 τ I756 I757 I758) cw_RX7_53 (jc_9 cI cL ad σ752 τ) rfl ⟨Nat.le_of_ble_eq_true rfl, Nat.le_of_ble_eq_true rfl⟩ rfl rfl rfl hl.1 rfl (Nat.le_of_ble_eq_true rfl) dX7_readOrder_128 ⟨Nat.zero_le _, Nat.zero_le _⟩ (fun r787 σ786 τ786 H locs h786 hP hS => ?_)
                      obtain ⟨rfl, f788, f789, I790, I791, I792, h786⟩ := h786
                      obtain ⟨i793, w794, w795⟩ : (0 ≤ (σ786 9 0).toInt ∧ (σ786 9 0).toInt ≤ 80) ∧ (∀ k : Nat, k < 80 → 0 ≤ (σ786 10 k).toInt ∧ (σ786 10 k).toInt ≤ 255) ∧ (∀ k : Nat, k < 8 → 0 ≤ (σ786 11 k).toInt ∧ (σ786 11 k).toInt ≤ 3) := id I790
                      obtain ⟨i796, i797⟩ : (0 ≤ (σ786 9 1).toInt) ∧ ((σ786 9 1).toInt ≤ (σ786 9 0).toInt) := id I791
                      have i798 : (-1) ≤ (σ786 9 2).toInt := I792
                      have z799 : (σ786 9 0).toInt = (σ 9 0).toInt := (congrArg Int32.toInt (show σ786 9 0 = (σ 9 0) from ((f789 0 (by decide)).trans ((f755 0 (by decide)).trans ((f747 0 (by decide)).trans ((f553 0 (by decide)).trans ((f441 0 (by decide)).trans ((f32 0 (by decide)).trans (f11 0 (by decide))))))))))
                      obtain ⟨k800, h786⟩ := h786
                      have h801 := h786
                      obtain ⟨q803, k802⟩ := h801
                      refine lv_istore (lv' := [(4, .int r787), (3, .int r551), (5, .int (σ438 9 1)), (2, .int x24), (0, .ref (ad 9)), (1, .ref (ad 16))]) hx hb dX7_readOrder_131 hl (by decide) rfl (fun ls hl => ?_)
                      refine lv_aload_n hx hb dX7_readOrder_133 rfl (lv_at hl 4 rfl) ?_
                      refine jcallV (As := []) (rest := []) ⟨hx, hb, hml, hown, hts⟩ hK hP hA hS hZ (c_X7_end_9 l D cI cL ad zz hJ σ786 τ I790 I791 I792) cw_RX7_57 (jc_9 cI cL ad σ786 τ) rfl ⟨Nat.le_of_ble_eq_true rfl, Nat.le_of_ble_eq_true rfl⟩ rfl rfl rfl hl.1 rfl (Nat.le_of_ble_eq_true rfl) dX7_readOrder_134 ⟨Nat.zero_le _, Nat.zero_le _⟩ (fun r805 σ804 τ804 H locs h804 hP hS => ?_)
                      obtain ⟨rfl, f806, f807, I808, I809, h804⟩ := h804
                      obtain ⟨i810, w811, w812⟩ : (0 ≤ (σ804 9 0).toInt ∧ (σ804 9 0).toInt ≤ 80) ∧ (∀ k : Nat, k < 80 → 0 ≤ (σ804 10 k).toInt ∧ (σ804 10 k).toInt ≤ 255) ∧ (∀ k : Nat, k < 8 → 0 ≤ (σ804 11 k).toInt ∧ (σ804 11 k).toInt ≤ 3) := id I808
                      have i813 : (-1) ≤ (σ804 9 2).toInt := I809
                      rcases h804 with h814 | h815
                      · obtain ⟨q817, k816⟩ := h814
                        exact absurd (by omega : False) id
                      · obtain ⟨q819, k818⟩ := h815
                        refine lv_istore (lv' := [(5, .int r805), (4, .int r787), (3, .int r551), (2, .int x24), (0, .ref (ad 9)), (1, .ref (ad 16))]) hx hb dX7_readOrder_137 hl (by decide) rfl (fun ls hl => ?_)
                        refine lv_iload hx hb dX7_readOrder_139 (lv_at hl 0 rfl) ?_
                        refine lv_iconst (v := (-1)) hx hb dX7_readOrder_141 (by decide) ?_
                        refine lv_icmp_eq (tgt := 148) hx hb dX7_readOrder_142 (by decide) (fun c => absurd (jeq c rfl jz_m1) (by omega)) (fun c820 => ?_)
                        have kc820 := jne c820 rfl jz_m1
                        refine lv_iload hx hb dX7_readOrder_145 (lv_at hl 0 rfl) ?_
                        have I821 : jI16 σ804 := jI16_fr ((congrFun (f806 16 (by decide)) 0).trans ((congrFun (f788 16 (by decide)) 0).trans ((congrFun (f754 16 (by decide)) 0).trans ((congrFun (f746 16 (by decide)) 0).trans ((congrFun (f552 16 (by decide)) 0).trans ((congrFun (f440 16 (by decide)) 0).trans ((congrFun (f31 16 (by decide)) 0).trans (congrFun (f10 16 (by decide)) 0)))))))) ((congrFun (f806 16 (by decide)) 1).trans ((congrFun (f788 16 (by decide)) 1).trans ((congrFun (f754 16 (by decide)) 1).trans ((congrFun (f746 16 (by decide)) 1).trans ((congrFun (f552 16 (by decide)) 1).trans ((congrFun (f440 16 (by decide)) 1).trans ((congrFun (f31 16 (by decide)) 1).trans (congrFun (f10 16 (by decide)) 1)))))))) ((congrFun (f806 16 (by decide)) 2).trans ((congrFun (f788 16 (by decide)) 2).trans ((congrFun (f754 16 (by decide)) 2).trans ((congrFun (f746 16 (by decide)) 2).trans ((congrFun (f552 16 (by decide)) 2).trans ((congrFun (f440 16 (by decide)) 2).trans ((congrFun (f31 16 (by decide)) 2).trans (congrFun (f10 16 (by decide)) 2)))))))) ((f806 17 (by decide)).trans ((f788 17 (by decide)).trans ((f754 17 (by decide)).trans ((f746 17 (by decide)).trans ((f552 17 (by decide)).trans ((f440 17 (by decide)).trans ((f31 17 (by decide)).trans (f10 17 (by decide))))))))) hI16
                        exact hret r805 σ804 τ _ _ _ _ rfl ⟨rfl, (fun i hi => ((f806 i (imp_48 i hi)).trans ((f788 i (imp_48 i hi)).trans ((f754 i (imp_48 i hi)).trans ((f746 i (imp_48 i hi)).trans ((f552 i (imp_48 i hi)).trans ((f440 i (imp_48 i hi)).trans ((f31 i (imp_49 i hi)).trans (f10 i (imp_48 i hi)))))))))), (fun i hi => ((f807 i (imp_50 i hi)).trans ((f789 i (imp_52 i hi)).trans ((f755 i (imp_51 i hi)).trans ((f747 i (imp_56 i hi)).trans ((f553 i (imp_52 i hi)).trans ((f441 i (imp_51 i hi)).trans ((f32 i (imp_51 i hi)).trans (f11 i (imp_52 i hi)))))))))), (fun i hi => ((congrFun (f806 16 (by decide)) i).trans ((congrFun (f788 16 (by decide)) i).trans ((congrFun (f754 16 (by decide)) i).trans ((congrFun (f746 16 (by decide)) i).trans ((congrFun (f552 16 (by decide)) i).trans ((congrFun (f440 16 (by decide)) i).trans ((congrFun (f31 16 (by decide)) i).trans (congrFun (f10 16 (by decide)) i))))))))), I808, I821, trivial⟩ hP hS dX7_readOrder_147
            · have kc435 := jeq c435 rfl jz_0
              refine lv_aload_n hx hb dX7_readOrder_71 rfl (lv_at hl 3 rfl) ?_
              refine lv_aload_n hx hb dX7_readOrder_72 rfl (lv_at hl 3 rfl) ?_
              refine va_get (D := D) hx hb hts inlX7 hown hK hP 9 (jc_9 cI cL ad σ25 τ) rfl 1 (by decide) (hts _ kw_13_17) (fun _ h9 => h9) rfl dX7_readOrder_73 ?_
              have I822 : jI92 σ25 := jI92_fr (f32 2 (by decide)) I14
              refine jcallVv (As := [.int (σ25 9 1)]) (rest := []) ⟨hx, hb, hml, hown, hts⟩ hK hP hA hS hZ (c_X7_fail_9 l D cI cL ad zz hJ σ25 τ (σ25 9 1) ((σ25 9 1).toInt) rfl I822 (by omega)) cw_RX7_43 (jc_9 cI cL ad σ25 τ) rfl ⟨Nat.le_of_ble_eq_true rfl, Nat.le_of_ble_eq_true rfl⟩ rfl rfl rfl hl.1 rfl (Nat.le_of_ble_eq_true rfl) dX7_readOrder_76 ⟨Nat.zero_le _, Nat.zero_le _⟩ (fun σ823 τ823 H locs h823 hP hS => ?_)
              obtain ⟨rfl, f825, f826, h823⟩ := h823
              obtain ⟨k827, h823⟩ := h823
              refine lv_aload_n hx hb dX7_readOrder_79 rfl (lv_at hl 3 rfl) ?_
              refine lv_bipush (v := 58) hx hb dX7_readOrder_80 (by decide) ?_
              have I828 : jI9 σ823 := jI9_fr (f826 0 (by decide)) (f825 10 (by decide)) (f825 11 (by decide)) p33
              have z829 : (σ823 9 1).toInt = (σ25 9 1).toInt := (congrArg Int32.toInt (show σ823 9 1 = (σ25 9 1) from (f826 1 (by decide))))
              have z830 : (σ823 9 0).toInt = (σ 9 0).toInt := (congrArg Int32.toInt (show σ823 9 0 = (σ 9 0) from ((f826 0 (by decide)).trans ((f32 0 (by decide)).trans (f11 0 (by decide))))))
              have I831 : jI91 σ823 := ⟨(by omega), (by omega)⟩
              have I832 : jI92 σ823 := (show (-1) ≤ (σ823 9 2).toInt by omega)
              refine jcallV (As := [.int 58]) (rest := []) ⟨hx, hb, hml, hown, hts⟩ hK hP hA hS hZ (c_X7_skip_9 l D cI cL ad zz hJ σ823 τ 58 (58) jz_58 I828 I831 I832 (by omega)) cw_RX7_50 (jc_9 cI cL ad σ823 τ) rfl ⟨Nat.le_of_ble_eq_true rfl, Nat.le_of_ble_eq_true rfl⟩ rfl rfl rfl hl.1 rfl (Nat.le_of_ble_eq_true rfl) dX7_readOrder_82 ⟨Nat.zero_le _, Nat.zero_le _⟩ (fun r834 σ833 τ833 H locs h833 hP hS => ?_)
              obtain ⟨rfl, f835, f836, I837, I838, I839, h833⟩ := h833
              obtain ⟨i840, w841, w842⟩ : (0 ≤ (σ833 9 0).toInt ∧ (σ833 9 0).toInt ≤ 80) ∧ (∀ k : Nat, k < 80 → 0 ≤ (σ833 10 k).toInt ∧ (σ833 10 k).toInt ≤ 255) ∧ (∀ k : Nat, k < 8 → 0 ≤ (σ833 11 k).toInt ∧ (σ833 11 k).toInt ≤ 3) := id I837
              obtain ⟨i843, i844⟩ : (0 ≤ (σ833 9 1).toInt) ∧ ((σ833 9 1).toInt ≤ (σ833 9 0).toInt) := id I838
              have i845 : (-1) ≤ (σ833 9 2).toInt := I839
              have z846 : (σ833 9 0).toInt = (σ 9 0).toInt := (congrArg Int32.toInt (show σ833 9 0 = (σ 9 0) from ((f836 0 (by decide)).trans ((f826 0 (by decide)).trans ((f32 0 (by decide)).trans (f11 0 (by decide)))))))
              have z847 : (σ833 9 2).toInt = (σ823 9 2).toInt := (congrArg Int32.toInt (show σ833 9 2 = (σ823 9 2) from (f836 2 (by decide))))
              refine lv_if_eq (tgt := 117) hx hb dX7_readOrder_85 (by decide) (fun c848 => ?_) (fun c848 => ?_)
              · have kc848 := jeq c848 rfl jz_0
                refine lv_aload_n hx hb dX7_readOrder_117 rfl (lv_at hl 3 rfl) ?_
                refine lv_bipush (v := 114) hx hb dX7_readOrder_118 (by decide) ?_
                refine jcallV (As := [.int 114]) (rest := []) ⟨hx, hb, hml, hown, hts⟩ hK hP hA hS hZ (c_X7_skip_9 l D cI cL ad zz hJ σ833 τ 114 (114) jz_114 I837 I838 I839 (by omega)) cw_RX7_50 (jc_9 cI cL ad σ833 τ) rfl ⟨Nat.le_of_ble_eq_true rfl, Nat.le_of_ble_eq_true rfl⟩ rfl rfl rfl hl.1 rfl (Nat.le_of_ble_eq_true rfl) dX7_readOrder_120 ⟨Nat.zero_le _, Nat.zero_le _⟩ (fun r850 σ849 τ849 H locs h849 hP hS => ?_)
                obtain ⟨rfl, f851, f852, I853, I854, I855, h849⟩ := h849
                obtain ⟨i856, w857, w858⟩ : (0 ≤ (σ849 9 0).toInt ∧ (σ849 9 0).toInt ≤ 80) ∧ (∀ k : Nat, k < 80 → 0 ≤ (σ849 10 k).toInt ∧ (σ849 10 k).toInt ≤ 255) ∧ (∀ k : Nat, k < 8 → 0 ≤ (σ849 11 k).toInt ∧ (σ849 11 k).toInt ≤ 3) := id I853
                obtain ⟨i859, i860⟩ : (0 ≤ (σ849 9 1).toInt) ∧ ((σ849 9 1).toInt ≤ (σ849 9 0).toInt) := id I854
                have i861 : (-1) ≤ (σ849 9 2).toInt := I855
                have z862 : (σ849 9 0).toInt = (σ 9 0).toInt := (congrArg Int32.toInt (show σ849 9 0 = (σ 9 0) from ((f852 0 (by decide)).trans ((f836 0 (by decide)).trans ((f826 0 (by decide)).trans ((f32 0 (by decide)).trans (f11 0 (by decide))))))))
                have z863 : (σ849 9 2).toInt = (σ823 9 2).toInt := (congrArg Int32.toInt (show σ849 9 2 = (σ823 9 2) from ((f852 2 (by decide)).trans (f836 2 (by decide)))))
                refine lv_if_eq (tgt := 133) hx hb dX7_readOrder_123 (by decide) (fun c864 => ?_) (fun c864 => ?_)
                · have kc864 := jeq c864 rfl jz_0
                  refine lv_aload_n hx hb dX7_readOrder_133 rfl (lv_at hl 3 rfl) ?_
                  refine jcallV (As := []) (rest := []) ⟨hx, hb, hml, hown, hts⟩ hK hP hA hS hZ (c_X7_end_9 l D cI cL ad zz hJ σ849 τ I853 I854 I855) cw_RX7_57 (jc_9 cI cL ad σ849 τ) rfl ⟨Nat.le_of_ble_eq_true rfl, Nat.le_of_ble_eq_true rfl⟩ rfl rfl rfl hl.1 rfl (Nat.le_of_ble_eq_true rfl) dX7_readOrder_134 ⟨Nat.zero_le _, Nat.zero_le _⟩ (fun r866 σ865 τ865 H locs h865 hP hS => ?_)
                  obtain ⟨rfl, f867, f868, I869, I870, h865⟩ := h865
                  obtain ⟨i871, w872, w873⟩ : (0 ≤ (σ865 9 0).toInt ∧ (σ865 9 0).toInt ≤ 80) ∧ (∀ k : Nat, k < 80 → 0 ≤ (σ865 10 k).toInt ∧ (σ865 10 k).toInt ≤ 255) ∧ (∀ k : Nat, k < 8 → 0 ≤ (σ865 11 k).toInt ∧ (σ865 11 k).toInt ≤ 3) := id I869
                  have i874 : (-1) ≤ (σ865 9 2).toInt := I870
                  rcases h865 with h875 | h876
                  · obtain ⟨q878, k877⟩ := h875
                    exact absurd (by omega : False) id
                  · obtain ⟨q880, k879⟩ := h876
                    refine lv_istore (lv' := [(5, .int r866), (4, .int 0), (3, .int 8), (2, .int x24), (0, .ref (ad 9)), (1, .ref (ad 16))]) hx hb dX7_readOrder_137 hl (by decide) rfl (fun ls hl => ?_)
                    refine lv_iload hx hb dX7_readOrder_139 (lv_at hl 0 rfl) ?_
                    refine lv_iconst (v := (-1)) hx hb dX7_readOrder_141 (by decide) ?_
                    refine lv_icmp_eq (tgt := 148) hx hb dX7_readOrder_142 (by decide) (fun c => absurd (jeq c rfl jz_m1) (by omega)) (fun c881 => ?_)
                    have kc881 := jne c881 rfl jz_m1
                    refine lv_iload hx hb dX7_readOrder_145 (lv_at hl 0 rfl) ?_
                    have I882 : jI16 σ865 := jI16_fr ((congrFun (f867 16 (by decide)) 0).trans ((congrFun (f851 16 (by decide)) 0).trans ((congrFun (f835 16 (by decide)) 0).trans ((congrFun (f825 16 (by decide)) 0).trans ((congrFun (f31 16 (by decide)) 0).trans (congrFun (f10 16 (by decide)) 0)))))) ((congrFun (f867 16 (by decide)) 1).trans ((congrFun (f851 16 (by decide)) 1).trans ((congrFun (f835 16 (by decide)) 1).trans ((congrFun (f825 16 (by decide)) 1).trans ((congrFun (f31 16 (by decide)) 1).trans (congrFun (f10 16 (by decide)) 1)))))) ((congrFun (f867 16 (by decide)) 2).trans ((congrFun (f851 16 (by decide)) 2).trans ((congrFun (f835 16 (by decide)) 2).trans ((congrFun (f825 16 (by decide)) 2).trans ((congrFun (f31 16 (by decide)) 2).trans (congrFun (f10 16 (by decide)) 2)))))) ((f867 17 (by decide)).trans ((f851 17 (by decide)).trans ((f835 17 (by decide)).trans ((f825 17 (by decide)).trans ((f31 17 (by decide)).trans (f10 17 (by decide))))))) hI16
                    exact hret r866 σ865 τ _ _ _ _ rfl ⟨rfl, (fun i hi => ((f867 i (imp_48 i hi)).trans ((f851 i (imp_48 i hi)).trans ((f835 i (imp_48 i hi)).trans ((f825 i (imp_48 i hi)).trans ((f31 i (imp_49 i hi)).trans (f10 i (imp_48 i hi)))))))), (fun i hi => ((f868 i (imp_50 i hi)).trans ((f852 i (imp_51 i hi)).trans ((f836 i (imp_51 i hi)).trans ((f826 i (imp_56 i hi)).trans ((f32 i (imp_51 i hi)).trans (f11 i (imp_52 i hi)))))))), (fun i hi => ((congrFun (f867 16 (by decide)) i).trans ((congrFun (f851 16 (by decide)) i).trans ((congrFun (f835 16 (by decide)) i).trans ((congrFun (f825 16 (by decide)) i).trans ((congrFun (f31 16 (by decide)) i).trans (congrFun (f10 16 (by decide)) i))))))), I869, I882, trivial⟩ hP hS dX7_readOrder_147
                · have kc864 := jne c864 rfl jz_0
                  refine lv_aload_n hx hb dX7_readOrder_126 rfl (lv_at hl 3 rfl) ?_
                  refine lv_iconst (v := 3) hx hb dX7_readOrder_127 (by decide) ?_
                  refine jcallV (As := [.int 3]) (rest := []) ⟨hx, hb, hml, hown, hts⟩ hK hP hA hS hZ (c_X7_number_3 l D cI cL ad zz hJ σ849 τ I853 I854 I855) cw_RX7_53 (jc_9 cI cL ad σ849 τ) rfl ⟨Nat.le_of_ble_eq_true rfl, Nat.le_of_ble_eq_true rfl⟩ rfl rfl rfl hl.1 rfl (Nat.le_of_ble_eq_true rfl) dX7_readOrder_128 ⟨Nat.zero_le _, Nat.zero_le _⟩ (fun r884 σ883 τ883 H locs h883 hP hS => ?_)
                  obtain ⟨rfl, f885, f886, I887, I888, I889, h883⟩ := h883
                  obtain ⟨i890, w891, w892⟩ : (0 ≤ (σ883 9 0).toInt ∧ (σ883 9 0).toInt ≤ 80) ∧ (∀ k : Nat, k < 80 → 0 ≤ (σ883 10 k).toInt ∧ (σ883 10 k).toInt ≤ 255) ∧ (∀ k : Nat, k < 8 → 0 ≤ (σ883 11 k).toInt ∧ (σ883 11 k).toInt ≤ 3) := id I887
                  obtain ⟨i893, i894⟩ : (0 ≤ (σ883 9 1).toInt) ∧ ((σ883 9 1).toInt ≤ (σ883 9 0).toInt) := id I888
                  have i895 : (-1) ≤ (σ883 9 2).toInt := I889
                  have z896 : (σ883 9 0).toInt = (σ 9 0).toInt := (congrArg Int32.toInt (show σ883 9 0 = (σ 9 0) from ((f886 0 (by decide)).trans ((f852 0 (by decide)).trans ((f836 0 (by decide)).trans ((f826 0 (by decide)).trans ((f32 0 (by decide)).trans (f11 0 (by decide)))))))))
                  obtain ⟨k897, h883⟩ := h883
                  have h898 := h883
                  obtain ⟨q900, k899⟩ := h898
                  refine lv_istore (lv' := [(4, .int r884), (3, .int 8), (2, .int x24), (0, .ref (ad 9)), (1, .ref (ad 16))]) hx hb dX7_readOrder_131 hl (by decide) rfl (fun ls hl => ?_)
                  refine lv_aload_n hx hb dX7_readOrder_133 rfl (lv_at hl 3 rfl) ?_
                  refine jcallV (As := []) (rest := []) ⟨hx, hb, hml, hown, hts⟩ hK hP hA hS hZ (c_X7_end_9 l D cI cL ad zz hJ σ883 τ I887 I888 I889) cw_RX7_57 (jc_9 cI cL ad σ883 τ) rfl ⟨Nat.le_of_ble_eq_true rfl, Nat.le_of_ble_eq_true rfl⟩ rfl rfl rfl hl.1 rfl (Nat.le_of_ble_eq_true rfl) dX7_readOrder_134 ⟨Nat.zero_le _, Nat.zero_le _⟩ (fun r902 σ901 τ901 H locs h901 hP hS => ?_)
                  obtain ⟨rfl, f903, f904, I905, I906, h901⟩ := h901
                  obtain ⟨i907, w908, w909⟩ : (0 ≤ (σ901 9 0).toInt ∧ (σ901 9 0).toInt ≤ 80) ∧ (∀ k : Nat, k < 80 → 0 ≤ (σ901 10 k).toInt ∧ (σ901 10 k).toInt ≤ 255) ∧ (∀ k : Nat, k < 8 → 0 ≤ (σ901 11 k).toInt ∧ (σ901 11 k).toInt ≤ 3) := id I905
                  have i910 : (-1) ≤ (σ901 9 2).toInt := I906
                  rcases h901 with h911 | h912
                  · obtain ⟨q914, k913⟩ := h911
                    exact absurd (by omega : False) id
                  · obtain ⟨q916, k915⟩ := h912
                    refine lv_istore (lv' := [(5, .int r902), (4, .int r884), (3, .int 8), (2, .int x24), (0, .ref (ad 9)), (1, .ref (ad 16))]) hx hb dX7_readOrder_137 hl (by decide) rfl (fun ls hl => ?_)
                    refine lv_iload hx hb dX7_readOrder_139 (lv_at hl 0 rfl) ?_
                    refine lv_iconst (v := (-1)) hx hb dX7_readOrder_141 (by decide) ?_
                    refine lv_icmp_eq (tgt := 148) hx hb dX7_readOrder_142 (by decide) (fun c => absurd (jeq c rfl jz_m1) (by omega)) (fun c917 => ?_)
                    have kc917 := jne c917 rfl jz_m1
                    refine lv_iload hx hb dX7_readOrder_145 (lv_at hl 0 rfl) ?_
                    have I918 : jI16 σ901 := jI16_fr ((congrFun (f903 16 (by decide)) 0).trans ((congrFun (f885 16 (by decide)) 0).trans ((congrFun (f851 16 (by decide)) 0).trans ((congrFun (f835 16 (by decide)) 0).trans ((congrFun (f825 16 (by decide)) 0).trans ((congrFun (f31 16 (by decide)) 0).trans (congrFun (f10 16 (by decide)) 0))))))) ((congrFun (f903 16 (by decide)) 1).trans ((congrFun (f885 16 (by decide)) 1).trans ((congrFun (f851 16 (by decide)) 1).trans ((congrFun (f835 16 (by decide)) 1).trans ((congrFun (f825 16 (by decide)) 1).trans ((congrFun (f31 16 (by decide)) 1).trans (congrFun (f10 16 (by decide)) 1))))))) ((congrFun (f903 16 (by decide)) 2).trans ((congrFun (f885 16 (by decide)) 2).trans ((congrFun (f851 16 (by decide)) 2).trans ((congrFun (f835 16 (by decide)) 2).trans ((congrFun (f825 16 (by decide)) 2).trans ((congrFun (f31 16 (by decide)) 2).trans (congrFun (f10 16 (by decide)) 2))))))) ((f903 17 (by decide)).trans ((f885 17 (by decide)).trans ((f851 17 (by decide)).trans ((f835 17 (by decide)).trans ((f825 17 (by decide)).trans ((f31 17 (by decide)).trans (f10 17 (by decide)))))))) hI16
                    exact hret r902 σ901 τ _ _ _ _ rfl ⟨rfl, (fun i hi => ((f903 i (imp_48 i hi)).trans ((f885 i (imp_48 i hi)).trans ((f851 i (imp_48 i hi)).trans ((f835 i (imp_48 i hi)).trans ((f825 i (imp_48 i hi)).trans ((f31 i (imp_49 i hi)).trans (f10 i (imp_48 i hi))))))))), (fun i hi => ((f904 i (imp_50 i hi)).trans ((f886 i (imp_52 i hi)).trans ((f852 i (imp_51 i hi)).trans ((f836 i (imp_51 i hi)).trans ((f826 i (imp_56 i hi)).trans ((f32 i (imp_51 i hi)).trans (f11 i (imp_52 i hi))))))))), (fun i hi => ((congrFun (f903 16 (by decide)) i).trans ((congrFun (f885 16 (by decide)) i).trans ((congrFun (f851 16 (by decide)) i).trans ((congrFun (f835 16 (by decide)) i).trans ((congrFun (f825 16 (by decide)) i).trans ((congrFun (f31 16 (by decide)) i).trans (congrFun (f10 16 (by decide)) i)))))))), I905, I918, trivial⟩ hP hS dX7_readOrder_147
              · have kc848 := jne c848 rfl jz_0
                refine lv_aload_n hx hb dX7_readOrder_88 rfl (lv_at hl 3 rfl) ?_
                refine va_get (D := D) hx hb hts inlX7 hown hK hP 9 (jc_9 cI cL ad σ833 τ) rfl 1 (by decide) (hts _ kw_13_17) (fun _ h9 => h9) rfl dX7_readOrder_89 ?_
                refine lv_istore (lv' := [(5, .int (σ833 9 1)), (4, .int 0), (3, .int 8), (2, .int x24), (0, .ref (ad 9)), (1, .ref (ad 16))]) hx hb dX7_readOrder_92 hl (by decide) rfl (fun ls hl => ?_)
                refine lv_aload_n hx hb dX7_readOrder_94 rfl (lv_at hl 4 rfl) ?_
                refine lv_iconst (v := 2) hx hb dX7_readOrder_95 (by decide) ?_
                refine jcallV (As := [.int 2]) (rest := []) ⟨hx, hb, hml, hown, hts⟩ hK hP hA hS hZ (c_X7_number_2 l D cI cL ad zz hJ σ833 τ I837 I838 I839) cw_RX7_53 (jc_9 cI cL ad σ833 τ) rfl ⟨Nat.le_of_ble_eq_true rfl, Nat.le_of_ble_eq_true rfl⟩ rfl rfl rfl hl.1 rfl (Nat.le_of_ble_eq_true rfl) dX7_readOrder_96 ⟨Nat.zero_le _, Nat.zero_le _⟩ (fun r920 σ919 τ919 H locs h919 hP hS => ?_)
                obtain ⟨rfl, f921, f922, I923, I924, I925, h919⟩ := h919
                obtain ⟨i926, w927, w928⟩ : (0 ≤ (σ919 9 0).toInt ∧ (σ919 9 0).toInt ≤ 80) ∧ (∀ k : Nat, k < 80 → 0 ≤ (σ919 10 k).toInt ∧ (σ919 10 k).toInt ≤ 255) ∧ (∀ k : Nat, k < 8 → 0 ≤ (σ919 11 k).toInt ∧ (σ919 11 k).toInt ≤ 3) := id I923
                obtain ⟨i929, i930⟩ : (0 ≤ (σ919 9 1).toInt) ∧ ((σ919 9 1).toInt ≤ (σ919 9 0).toInt) := id I924
                have i931 : (-1) ≤ (σ919 9 2).toInt := I925
                have z932 : (σ919 9 0).toInt = (σ 9 0).toInt := (congrArg Int32.toInt (show σ919 9 0 = (σ 9 0) from ((f922 0 (by decide)).trans ((f836 0 (by decide)).trans ((f826 0 (by decide)).trans ((f32 0 (by decide)).trans (f11 0 (by decide))))))))
                obtain ⟨k933, h919⟩ := h919
                have h934 := h919
                obtain ⟨q936, k935⟩ := h934
                refine lv_istore_n (lv' := [(3, .int r920), (5, .int (σ833 9 1)), (4, .int 0), (2, .int x24), (0, .ref (ad 9)), (1, .ref (ad 16))]) hx hb dX7_readOrder_99 rfl hl (by decide) rfl (fun ls hl => ?_)
                refine lv_iload_n hx hb dX7_readOrder_100 rfl (lv_at hl 0 rfl) ?_
                refine lv_iconst (v := 1) hx hb dX7_readOrder_101 (by decide) ?_
                refine lv_icmp_lt (tgt := 111) hx hb dX7_readOrder_102 (by decide) (fun c937 => ?_) (fun c937 => ?_)
                · have kc937 := jlt c937 rfl jz_1
                  refine lv_aload_n hx hb dX7_readOrder_111 rfl (lv_at hl 4 rfl) ?_
                  refine lv_iload hx hb dX7_readOrder_112 (lv_at hl 1 rfl) ?_
                  refine jcallVv (As := [.int (σ833 9 1)]) (rest := []) ⟨hx, hb, hml, hown, hts⟩ hK hP hA hS hZ (c_X7_fail_9 l D cI cL ad zz hJ σ919 τ (σ833 9 1) ((σ833 9 1).toInt) rfl I925 (by omega)) cw_RX7_43 (jc_9 cI cL ad σ919 τ) rfl ⟨Nat.le_of_ble_eq_true rfl, Nat.le_of_ble_eq_true rfl⟩ rfl rfl rfl hl.1 rfl (Nat.le_of_ble_eq_true rfl) dX7_readOrder_114 ⟨Nat.zero_le _, Nat.zero_le _⟩ (fun σ938 τ938 H locs h938 hP hS => ?_)
                  obtain ⟨rfl, f940, f941, h938⟩ := h938
                  obtain ⟨k942, h938⟩ := h938
                  refine lv_aload_n hx hb dX7_readOrder_117 rfl (lv_at hl 4 rfl) ?_
                  refine lv_bipush (v := 114) hx hb dX7_readOrder_118 (by decide) ?_
                  have I943 : jI9 σ938 := jI9_fr (f941 0 (by decide)) (f940 10 (by decide)) (f940 11 (by decide)) I923
                  have I944 : jI91 σ938 := jI91_fr (f941 0 (by decide)) (f941 1 (by decide)) I924
                  have I945 : jI92 σ938 := (show (-1) ≤ (σ938 9 2).toInt by omega)
                  refine jcallV (As := [.int 114]) (rest := []) ⟨hx, hb, hml, hown, hts⟩ hK hP hA hS hZ (c_X7_skip_9 l D cI cL ad zz hJ σ938 τ 114 (114) jz_114 I943 I944 I945 (by omega)) cw_RX7_50 (jc_9 cI cL ad σ938 τ) rfl ⟨Nat.le_of_ble_eq_true rfl, Nat.le_of_ble_eq_true rfl⟩ rfl rfl rfl hl.1 rfl (Nat.le_of_ble_eq_true rfl) dX7_readOrder_120 ⟨Nat.zero_le _, Nat.zero_le _⟩ (fun r947 σ946 τ946 H locs h946 hP hS => ?_)
                  obtain ⟨rfl, f948, f949, I950, I951, I952, h946⟩ := h946
                  obtain ⟨i953, w954, w955⟩ : (0 ≤ (σ946 9 0).toInt ∧ (σ946 9 0).toInt ≤ 80) ∧ (∀ k : Nat, k < 80 → 0 ≤ (σ946 10 k).toInt ∧ (σ946 10 k).toInt ≤ 255) ∧ (∀ k : Nat, k < 8 → 0 ≤ (σ946 11 k).toInt ∧ (σ946 11 k).toInt ≤ 3) := id I950
                  obtain ⟨i956, i957⟩ : (0 ≤ (σ946 9 1).toInt) ∧ ((σ946 9 1).toInt ≤ (σ946 9 0).toInt) := id I951
                  have i958 : (-1) ≤ (σ946 9 2).toInt := I952
                  have z959 : (σ946 9 0).toInt = (σ 9 0).toInt := (congrArg Int32.toInt (show σ946 9 0 = (σ 9 0) from ((f949 0 (by decide)).trans ((f941 0 (by decide)).trans ((f922 0 (by decide)).trans ((f836 0 (by decide)).trans ((f826 0 (by decide)).trans ((f32 0 (by decide)).trans (f11 0 (by decide))))))))))
                  have z960 : (σ946 9 2).toInt = (σ938 9 2).toInt := (congrArg Int32.toInt (show σ946 9 2 = (σ938 9 2) from (f949 2 (by decide))))
                  refine lv_if_eq (tgt := 133) hx hb dX7_readOrder_123 (by decide) (fun c961 => ?_) (fun c961 => ?_)
                  · have kc961 := jeq c961 rfl jz_0
                    refine lv_aload_n hx hb dX7_readOrder_133 rfl (lv_at hl 4 rfl) ?_
                    refine jcallV (As := []) (rest := []) ⟨hx, hb, hml, hown, hts⟩ hK hP hA hS hZ (c_X7_end_9 l D cI cL ad zz hJ σ946 τ I950 I951 I952) cw_RX7_57 (jc_9 cI cL ad σ946 τ) rfl ⟨Nat.le_of_ble_eq_true rfl, Nat.le_of_ble_eq_true rfl⟩ rfl rfl rfl hl.1 rfl (Nat.le_of_ble_eq_true rfl) dX7_readOrder_134 ⟨Nat.zero_le _, Nat.zero_le _⟩ (fun r963 σ962 τ962 H locs h962 hP hS => ?_)
                    obtain ⟨rfl, f964, f965, I966, I967, h962⟩ := h962
                    obtain ⟨i968, w969, w970⟩ : (0 ≤ (σ962 9 0).toInt ∧ (σ962 9 0).toInt ≤ 80) ∧ (∀ k : Nat, k < 80 → 0 ≤ (σ962 10 k).toInt ∧ (σ962 10 k).toInt ≤ 255) ∧ (∀ k : Nat, k < 8 → 0 ≤ (σ962 11 k).toInt ∧ (σ962 11 k).toInt ≤ 3) := id I966
                    have i971 : (-1) ≤ (σ962 9 2).toInt := I967
                    rcases h962 with h972 | h973
                    · obtain ⟨q975, k974⟩ := h972
                      exact absurd (by omega : False) id
                    · obtain ⟨q977, k976⟩ := h973
                      refine lv_istore (lv' := [(5, .int r963), (3, .int r920), (4, .int 0), (2, .int x24), (0, .ref (ad 9)), (1, .ref (ad 16))]) hx hb dX7_readOrder_137 hl (by decide) rfl (fun ls hl => ?_)
                      refine lv_iload hx hb dX7_readOrder_139 (lv_at hl 0 rfl) ?_
                      refine lv_iconst (v := (-1)) hx hb dX7_readOrder_141 (by decide) ?_
                      refine lv_icmp_eq (tgt := 148) hx hb dX7_readOrder_142 (by decide) (fun c => absurd (jeq c rfl jz_m1) (by omega)) (fun c978 => ?_)
                      have kc978 := jne c978 rfl jz_m1
                      refine lv_iload hx hb dX7_readOrder_145 (lv_at hl 0 rfl) ?_
                      have I979 : jI16 σ962 := jI16_fr ((congrFun (f964 16 (by decide)) 0).trans ((congrFun (f948 16 (by decide)) 0).trans ((congrFun (f940 16 (by decide)) 0).trans ((congrFun (f921 16 (by decide)) 0).trans ((congrFun (f835 16 (by decide)) 0).trans ((congrFun (f825 16 (by decide)) 0).trans ((congrFun (f31 16 (by decide)) 0).trans (congrFun (f10 16 (by decide)) 0)))))))) ((congrFun (f964 16 (by decide)) 1).trans ((congrFun (f948 16 (by decide)) 1).trans ((congrFun (f940 16 (by decide)) 1).trans ((congrFun (f921 16 (by decide)) 1).trans ((congrFun (f835 16 (by decide)) 1).trans ((congrFun (f825 16 (by decide)) 1).trans ((congrFun (f31 16 (by decide)) 1).trans (congrFun (f10 16 (by decide)) 1)))))))) ((congrFun (f964 16 (by decide)) 2).trans ((congrFun (f948 16 (by decide)) 2).trans ((congrFun (f940 16 (by decide)) 2).trans ((congrFun (f921 16 (by decide)) 2).trans ((congrFun (f835 16 (by decide)) 2).trans ((congrFun (f825 16 (by decide)) 2).trans ((congrFun (f31 16 (by decide)) 2).trans (congrFun (f10 16 (by decide)) 2)))))))) ((f964 17 (by decide)).trans ((f948 17 (by decide)).trans ((f940 17 (by decide)).trans ((f921 17 (by decide)).trans ((f835 17 (by decide)).trans ((f825 17 (by decide)).trans ((f31 17 (by decide)).trans (f10 17 (by decide))))))))) hI16
                      exact hret r963 σ962 τ _ _ _ _ rfl ⟨rfl, (fun i hi => ((f964 i (imp_48 i hi)).trans ((f948 i (imp_48 i hi)).trans ((f940 i (imp_48 i hi)).trans ((f921 i (imp_48 i hi)).trans ((f835 i (imp_48 i hi)).trans ((f825 i (imp_48 i hi)).trans ((f31 i (imp_49 i hi)).trans (f10 i (imp_48 i hi)))))))))), (fun i hi => ((f965 i (imp_50 i hi)).trans ((f949 i (imp_51 i hi)).trans ((f941 i (imp_56 i hi)).trans ((f922 i (imp_52 i hi)).trans ((f836 i (imp_51 i hi)).trans ((f826 i (imp_56 i hi)).trans ((f32 i (imp_51 i hi)).trans (f11 i (imp_52 i hi)))))))))), (fun i hi => ((congrFun (f964 16 (by decide)) i).trans ((congrFun (f948 16 (by decide)) i).trans ((congrFun (f940 16 (by decide)) i).trans ((congrFun (f921 16 (by decide)) i).trans ((congrFun (f835 16 (by decide)) i).trans ((congrFun (f825 16 (by decide)) i).trans ((congrFun (f31 16 (by decide)) i).trans (congrFun (f10 16 (by decide)) i))))))))), I966, I979, trivial⟩ hP hS dX7_readOrder_147
                  · have kc961 := jne c961 rfl jz_0
                    refine lv_aload_n hx hb dX7_readOrder_126 rfl (lv_at hl 4 rfl) ?_
                    refine lv_iconst (v := 3) hx hb dX7_readOrder_127 (by decide) ?_
                    refine jcallV (As := [.int 3]) (rest := []) ⟨hx, hb, hml, hown, hts⟩ hK hP hA hS hZ (c_X7_number_3 l D cI cL ad zz hJ σ946 τ I950 I951 I952) cw_RX7_53 (jc_9 cI cL ad σ946 τ) rfl ⟨Nat.le_of_ble_eq_true rfl, Nat.le_of_ble_eq_true rfl⟩ rfl rfl rfl hl.1 rfl (Nat.le_of_ble_eq_true rfl) dX7_readOrder_128 ⟨Nat.zero_le _, Nat.zero_le _⟩ (fun r981 σ980 τ980 H locs h980 hP hS => ?_)
                    obtain ⟨rfl, f982, f983, I984, I985, I986, h980⟩ := h980
                    obtain ⟨i987, w988, w989⟩ : (0 ≤ (σ980 9 0).toInt ∧ (σ980 9 0).toInt ≤ 80) ∧ (∀ k : Nat, k < 80 → 0 ≤ (σ980 10 k).toInt ∧ (σ980 10 k).toInt ≤ 255) ∧ (∀ k : Nat, k < 8 → 0 ≤ (σ980 11 k).toInt ∧ (σ980 11 k).toInt ≤ 3) := id I984
                    obtain ⟨i990, i991⟩ : (0 ≤ (σ980 9 1).toInt) ∧ ((σ980 9 1).toInt ≤ (σ980 9 0).toInt) := id I985
                    have i992 : (-1) ≤ (σ980 9 2).toInt := I986
                    have z993 : (σ980 9 0).toInt = (σ 9 0).toInt := (congrArg Int32.toInt (show σ980 9 0 = (σ 9 0) from ((f983 0 (by decide)).trans ((f949 0 (by decide)).trans ((f941 0 (by decide)).trans ((f922 0 (by decide)).trans ((f836 0 (by decide)).trans ((f826 0 (by decide)).trans ((f32 0 (by decide)).trans (f11 0 (by decide)))))))))))
                    obtain ⟨k994, h980⟩ := h980
                    have h995 := h980
                    obtain ⟨q997, k996⟩ := h995
                    refine lv_istore (lv' := [(4, .int r981), (3, .int r920), (5, .int (σ833 9 1)), (2, .int x24), (0, .ref (ad 9)), (1, .ref (ad 16))]) hx hb dX7_readOrder_131 hl (by decide) rfl (fun ls hl => ?_)
                    refine lv_aload_n hx hb dX7_readOrder_133 rfl (lv_at hl 4 rfl) ?_
                    refine jcallV (As := []) (rest := []) ⟨hx, hb, hml, hown, hts⟩ hK hP hA hS hZ (c_X7_end_9 l D cI cL ad zz hJ σ980 τ I984 I985 I986) cw_RX7_57 (jc_9 cI cL ad σ980 τ) rfl ⟨Nat.le_of_ble_eq_true rfl, Nat.le_of_ble_eq_true rfl⟩ rfl rfl rfl hl.1 rfl (Nat.le_of_ble_eq_true rfl) dX7_readOrder_134 ⟨Nat.zero_le _, Nat.zero_le _⟩ (fun r999 σ998 τ998 H locs h998 hP hS => ?_)
                    obtain ⟨rfl, f1000, f1001, I1002, I1003, h998⟩ := h998
                    obtain ⟨i1004, w1005, w1006⟩ : (0 ≤ (σ998 9 0).toInt ∧ (σ998 9 0).toInt ≤ 80) ∧ (∀ k : Nat, k < 80 → 0 ≤ (σ998 10 k).toInt ∧ (σ998 10 k).toInt ≤ 255) ∧ (∀ k : Nat, k < 8 → 0 ≤ (σ998 11 k).toInt ∧ (σ998 11 k).toInt ≤ 3) := id I1002
                    have i1007 : (-1) ≤ (σ998 9 2).toInt := I1003
                    rcases h998 with h1008 | h1009
                    · obtain ⟨q1011, k1010⟩ := h1008
                      exact absurd (by omega : False) id
                    · obtain ⟨q1013, k1012⟩ := h1009
                      refine lv_istore (lv' := [(5, .int r999), (4, .int r981), (3, .int r920), (2, .int x24), (0, .ref (ad 9)), (1, .ref (ad 16))]) hx hb dX7_readOrder_137 hl (by decide) rfl (fun ls hl => ?_)
                      refine lv_iload hx hb dX7_readOrder_139 (lv_at hl 0 rfl) ?_
                      refine lv_iconst (v := (-1)) hx hb dX7_readOrder_141 (by decide) ?_
                      refine lv_icmp_eq (tgt := 148) hx hb dX7_readOrder_142 (by decide) (fun c => absurd (jeq c rfl jz_m1) (by omega)) (fun c1014 => ?_)
                      have kc1014 := jne c1014 rfl jz_m1
                      refine lv_iload hx hb dX7_readOrder_145 (lv_at hl 0 rfl) ?_
                      have I1015 : jI16 σ998 := jI16_fr ((congrFun (f1000 16 (by decide)) 0).trans ((congrFun (f982 16 (by decide)) 0).trans ((congrFun (f948 16 (by decide)) 0).trans ((congrFun (f940 16 (by decide)) 0).trans ((congrFun (f921 16 (by decide)) 0).trans ((congrFun (f835 16 (by decide)) 0).trans ((congrFun (f825 16 (by decide)) 0).trans ((congrFun (f31 16 (by decide)) 0).trans (congrFun (f10 16 (by decide)) 0))))))))) ((congrFun (f1000 16 (by decide)) 1).trans ((congrFun (f982 16 (by decide)) 1).trans ((congrFun (f948 16 (by decide)) 1).trans ((congrFun (f940 16 (by decide)) 1).trans ((congrFun (f921 16 (by decide)) 1).trans ((congrFun (f835 16 (by decide)) 1).trans ((congrFun (f825 16 (by decide)) 1).trans ((congrFun (f31 16 (by decide)) 1).trans (congrFun (f10 16 (by decide)) 1))))))))) ((congrFun (f1000 16 (by decide)) 2).trans ((congrFun (f982 16 (by decide)) 2).trans ((congrFun (f948 16 (by decide)) 2).trans ((congrFun (f940 16 (by decide)) 2).trans ((congrFun (f921 16 (by decide)) 2).trans ((congrFun (f835 16 (by decide)) 2).trans ((congrFun (f825 16 (by decide)) 2).trans ((congrFun (f31 16 (by decide)) 2).trans (congrFun (f10 16 (by decide)) 2))))))))) ((f1000 17 (by decide)).trans ((f982 17 (by decide)).trans ((f948 17 (by decide)).trans ((f940 17 (by decide)).trans ((f921 17 (by decide)).trans ((f835 17 (by decide)).trans ((f825 17 (by decide)).trans ((f31 17 (by decide)).trans (f10 17 (by decide)))))))))) hI16
                      exact hret r999 σ998 τ _ _ _ _ rfl ⟨rfl, (fun i hi => ((f1000 i (imp_48 i hi)).trans ((f982 i (imp_48 i hi)).trans ((f948 i (imp_48 i hi)).trans ((f940 i (imp_48 i hi)).trans ((f921 i (imp_48 i hi)).trans ((f835 i (imp_48 i hi)).trans ((f825 i (imp_48 i hi)).trans ((f31 i (imp_49 i hi)).trans (f10 i (imp_48 i hi))))))))))), (fun i hi => ((f1001 i (imp_50 i hi)).trans ((f983 i (imp_52 i hi)).trans ((f949 i (imp_51 i hi)).trans ((f941 i (imp_56 i hi)).trans ((f922 i (imp_52 i hi)).trans ((f836 i (imp_51 i hi)).trans ((f826 i (imp_56 i hi)).trans ((f32 i (imp_51 i hi)).trans (f11 i (imp_52 i hi))))))))))), (fun i hi => ((congrFun (f1000 16 (by decide)) i).trans ((congrFun (f982 16 (by decide)) i).trans ((congrFun (f948 16 (by decide)) i).trans ((congrFun (f940 16 (by decide)) i).trans ((congrFun (f921 16 (by decide)) i).trans ((congrFun (f835 16 (by decide)) i).trans ((congrFun (f825 16 (by decide)) i).trans ((congrFun (f31 16 (by decide)) i).trans (congrFun (f10 16 (by decide)) i)))))))))), I1002, I1015, trivial⟩ hP hS dX7_readOrder_147
                · have kc937 := jnlt c937 rfl jz_1
                  refine lv_iload_n hx hb dX7_readOrder_105 rfl (lv_at hl 0 rfl) ?_
                  refine lv_bipush (v := 12) hx hb dX7_readOrder_106 (by decide) ?_
                  refine lv_icmp_le (tgt := 117) hx hb dX7_readOrder_108 (by decide) (fun c1016 => ?_) (fun c1016 => ?_)
                  · have kc1016 := jle c1016 rfl jz_12
                    refine lv_aload_n hx hb dX7_readOrder_117 rfl (lv_at hl 4 rfl) ?_
                    refine lv_bipush (v := 114) hx hb dX7_readOrder_118 (by decide) ?_
                    refine jcallV (As := [.int 114]) (rest := []) ⟨hx, hb, hml, hown, hts⟩ hK hP hA hS hZ (c_X7_skip_9 l D cI cL ad zz hJ σ919 τ 114 (114) jz_114 I923 I924 I925 (by omega)) cw_RX7_50 (jc_9 cI cL ad σ919 τ) rfl ⟨Nat.le_of_ble_eq_true rfl, Nat.le_of_ble_eq_true rfl⟩ rfl rfl rfl hl.1 rfl (Nat.le_of_ble_eq_true rfl) dX7_readOrder_120 ⟨Nat.zero_le _, Nat.zero_le _⟩ (fun r1018 σ1017 τ1017 H locs h1017 hP hS => ?_)
                    obtain ⟨rfl, f1019, f1020, I1021, I1022, I1023, h1017⟩ := h1017
                    obtain ⟨i1024, w1025, w1026⟩ : (0 ≤ (σ1017 9 0).toInt ∧ (σ1017 9 0).toInt ≤ 80) ∧ (∀ k : Nat, k < 80 → 0 ≤ (σ1017 10 k).toInt ∧ (σ1017 10 k).toInt ≤ 255) ∧ (∀ k : Nat, k < 8 → 0 ≤ (σ1017 11 k).toInt ∧ (σ1017 11 k).toInt ≤ 3) := id I1021
                    obtain ⟨i1027, i1028⟩ : (0 ≤ (σ1017 9 1).toInt) ∧ ((σ1017 9 1).toInt ≤ (σ1017 9 0).toInt) := id I1022
                    have i1029 : (-1) ≤ (σ1017 9 2).toInt := I1023
                    have z1030 : (σ1017 9 0).toInt = (σ 9 0).toInt := (congrArg Int32.toInt (show σ1017 9 0 = (σ 9 0) from ((f1020 0 (by decide)).trans ((f922 0 (by decide)).trans ((f836 0 (by decide)).trans ((f826 0 (by decide)).trans ((f32 0 (by decide)).trans (f11 0 (by decide)))))))))
                    have z1031 : (σ1017 9 2).toInt = (σ919 9 2).toInt := (congrArg Int32.toInt (show σ1017 9 2 = (σ919 9 2) from (f1020 2 (by decide))))
                    refine lv_if_eq (tgt := 133) hx hb dX7_readOrder_123 (by decide) (fun c1032 => ?_) (fun c1032 => ?_)
                    · have kc1032 := jeq c1032 rfl jz_0
                      refine lv_aload_n hx hb dX7_readOrder_133 rfl (lv_at hl 4 rfl) ?_
                      refine jcallV (As := []) (rest := []) ⟨hx, hb, hml, hown, hts⟩ hK hP hA hS hZ (c_X7_end_9 l D cI cL ad zz hJ σ1017 τ I1021 I1022 I1023) cw_RX7_57 (jc_9 cI cL ad σ1017 τ) rfl ⟨Nat.le_of_ble_eq_true rfl, Nat.le_of_ble_eq_true rfl⟩ rfl rfl rfl hl.1 rfl (Nat.le_of_ble_eq_true rfl) dX7_readOrder_134 ⟨Nat.zero_le _, Nat.zero_le _⟩ (fun r1034 σ1033 τ1033 H locs h1033 hP hS => ?_)
                      obtain ⟨rfl, f1035, f1036, I1037, I1038, h1033⟩ := h1033
                      obtain ⟨i1039, w1040, w1041⟩ : (0 ≤ (σ1033 9 0).toInt ∧ (σ1033 9 0).toInt ≤ 80) ∧ (∀ k : Nat, k < 80 → 0 ≤ (σ1033 10 k).toInt ∧ (σ1033 10 k).toInt ≤ 255) ∧ (∀ k : Nat, k < 8 → 0 ≤ (σ1033 11 k).toInt ∧ (σ1033 11 k).toInt ≤ 3) := id I1037
                      have i1042 : (-1) ≤ (σ1033 9 2).toInt := I1038
                      rcases h1033 with h1043 | h1044
                      · obtain ⟨q1046, k1045⟩ := h1043
                        exact absurd (by omega : False) id
                      · obtain ⟨q1048, k1047⟩ := h1044
                        refine lv_istore (lv' := [(5, .int r1034), (3, .int r920), (4, .int 0), (2, .int x24), (0, .ref (ad 9)), (1, .ref (ad 16))]) hx hb dX7_readOrder_137 hl (by decide) rfl (fun ls hl => ?_)
                        refine lv_iload hx hb dX7_readOrder_139 (lv_at hl 0 rfl) ?_
                        refine lv_iconst (v := (-1)) hx hb dX7_readOrder_141 (by decide) ?_
                        refine lv_icmp_eq (tgt := 148) hx hb dX7_readOrder_142 (by decide) (fun c => absurd (jeq c rfl jz_m1) (by omega)) (fun c1049 => ?_)
                        have kc1049 := jne c1049 rfl jz_m1
                        refine lv_iload hx hb dX7_readOrder_145 (lv_at hl 0 rfl) ?_
                        have I1050 : jI16 σ1033 := jI16_fr ((congrFun (f1035 16 (by decide)) 0).trans ((congrFun (f1019 16 (by decide)) 0).trans ((congrFun (f921 16 (by decide)) 0).trans ((congrFun (f835 16 (by decide)) 0).trans ((congrFun (f825 16 (by decide)) 0).trans ((congrFun (f31 16 (by decide)) 0).trans (congrFun (f10 16 (by decide)) 0))))))) ((congrFun (f1035 16 (by decide)) 1).trans ((congrFun (f1019 16 (by decide)) 1).trans ((congrFun (f921 16 (by decide)) 1).trans ((congrFun (f835 16 (by decide)) 1).trans ((congrFun (f825 16 (by decide)) 1).trans ((congrFun (f31 16 (by decide)) 1).trans (congrFun (f10 16 (by decide)) 1))))))) ((congrFun (f1035 16 (by decide)) 2).trans ((congrFun (f1019 16 (by decide)) 2).trans ((congrFun (f921 16 (by decide)) 2).trans ((congrFun (f835 16 (by decide)) 2).trans ((congrFun (f825 16 (by decide)) 2).trans ((congrFun (f31 16 (by decide)) 2).trans (congrFun (f10 16 (by decide)) 2))))))) ((f1035 17 (by decide)).trans ((f1019 17 (by decide)).trans ((f921 17 (by decide)).trans ((f835 17 (by decide)).trans ((f825 17 (by decide)).trans ((f31 17 (by decide)).trans (f10 17 (by decide)))))))) hI16
                        exact hret r1034 σ1033 τ _ _ _ _ rfl ⟨rfl, (fun i hi => ((f1035 i (imp_48 i hi)).trans ((f1019 i (imp_48 i hi)).trans ((f921 i (imp_48 i hi)).trans ((f835 i (imp_48 i hi)).trans ((f825 i (imp_48 i hi)).trans ((f31 i (imp_49 i hi)).trans (f10 i (imp_48 i hi))))))))), (fun i hi => ((f1036 i (imp_50 i hi)).trans ((f1020 i (imp_51 i hi)).trans ((f922 i (imp_52 i hi)).trans ((f836 i (imp_51 i hi)).trans ((f826 i (imp_56 i hi)).trans ((f32 i (imp_51 i hi)).trans (f11 i (imp_52 i hi))))))))), (fun i hi => ((congrFun (f1035 16 (by decide)) i).trans ((congrFun (f1019 16 (by decide)) i).trans ((congrFun (f921 16 (by decide)) i).trans ((congrFun (f835 16 (by decide)) i).trans ((congrFun (f825 16 (by decide)) i).trans ((congrFun (f31 16 (by decide)) i).trans (congrFun (f10 16 (by decide)) i)))))))), I1037, I1050, trivial⟩ hP hS dX7_readOrder_147
                    · have kc1032 := jne c1032 rfl jz_0
                      refine lv_aload_n hx hb dX7_readOrder_126 rfl (lv_at hl 4 rfl) ?_
                      refine lv_iconst (v := 3) hx hb dX7_readOrder_127 (by decide) ?_
                      refine jcallV (As := [.int 3]) (rest := []) ⟨hx, hb, hml, hown, hts⟩ hK hP hA hS hZ (c_X7_number_3 l D cI cL ad zz hJ σ1017 τ I1021 I1022 I1023) cw_RX7_53 (jc_9 cI cL ad σ1017 τ) rfl ⟨Nat.le_of_ble_eq_true rfl, Nat.le_of_ble_eq_true rfl⟩ rfl rfl rfl hl.1 rfl (Nat.le_of_ble_eq_true rfl) dX7_readOrder_128 ⟨Nat.zero_le _, Nat.zero_le _⟩ (fun r1052 σ1051 τ1051 H locs h1051 hP hS => ?_)
                      obtain ⟨rfl, f1053, f1054, I1055, I1056, I1057, h1051⟩ := h1051
                      obtain ⟨i1058, w1059, w1060⟩ : (0 ≤ (σ1051 9 0).toInt ∧ (σ1051 9 0).toInt ≤ 80) ∧ (∀ k : Nat, k < 80 → 0 ≤ (σ1051 10 k).toInt ∧ (σ1051 10 k).toInt ≤ 255) ∧ (∀ k : Nat, k < 8 → 0 ≤ (σ1051 11 k).toInt ∧ (σ1051 11 k).toInt ≤ 3) := id I1055
                      obtain ⟨i1061, i1062⟩ : (0 ≤ (σ1051 9 1).toInt) ∧ ((σ1051 9 1).toInt ≤ (σ1051 9 0).toInt) := id I1056
                      have i1063 : (-1) ≤ (σ1051 9 2).toInt := I1057
                      have z1064 : (σ1051 9 0).toInt = (σ 9 0).toInt := (congrArg Int32.toInt (show σ1051 9 0 = (σ 9 0) from ((f1054 0 (by decide)).trans ((f1020 0 (by decide)).trans ((f922 0 (by decide)).trans ((f836 0 (by decide)).trans ((f826 0 (by decide)).trans ((f32 0 (by decide)).trans (f11 0 (by decide))))))))))
                      obtain ⟨k1065, h1051⟩ := h1051
                      have h1066 := h1051
                      obtain ⟨q1068, k1067⟩ := h1066
                      refine lv_istore (lv' := [(4, .int r1052), (3, .int r920), (5, .int (σ833 9 1)), (2, .int x24), (0, .ref (ad 9)), (1, .ref (ad 16))]) hx hb dX7_readOrder_131 hl (by decide) rfl (fun ls hl => ?_)
                      refine lv_aload_n hx hb dX7_readOrder_133 rfl (lv_at hl 4 rfl) ?_
                      refine jcallV (As := []) (rest := []) ⟨hx, hb, hml, hown, hts⟩ hK hP hA hS hZ (c_X7_end_9 l D cI cL ad zz hJ σ1051 τ I1055 I1056 I1057) cw_RX7_57 (jc_9 cI cL ad σ1051 τ) rfl ⟨Nat.le_of_ble_eq_true rfl, Nat.le_of_ble_eq_true rfl⟩ rfl rfl rfl hl.1 rfl (Nat.le_of_ble_eq_true rfl) dX7_readOrder_134 ⟨Nat.zero_le _, Nat.zero_le _⟩ (fun r1070 σ1069 τ1069 H locs h1069 hP hS => ?_)
                      obtain ⟨rfl, f1071, f1072, I1073, I1074, h1069⟩ := h1069
                      obtain ⟨i1075, w1076, w1077⟩ : (0 ≤ (σ1069 9 0).toInt ∧ (σ1069 9 0).toInt ≤ 80) ∧ (∀ k : Nat, k < 80 → 0 ≤ (σ1069 10 k).toInt ∧ (σ1069 10 k).toInt ≤ 255) ∧ (∀ k : Nat, k < 8 → 0 ≤ (σ1069 11 k).toInt ∧ (σ1069 11 k).toInt ≤ 3) := id I1073
                      have i1078 : (-1) ≤ (σ1069 9 2).toInt := I1074
                      rcases h1069 with h1079 | h1080
                      · obtain ⟨q1082, k1081⟩ := h1079
                        exact absurd (by omega : False) id
                      · obtain ⟨q1084, k1083⟩ := h1080
                        refine lv_istore (lv' := [(5, .int r1070), (4, .int r1052), (3, .int r920), (2, .int x24), (0, .ref (ad 9)), (1, .ref (ad 16))]) hx hb dX7_readOrder_137 hl (by decide) rfl (fun ls hl => ?_)
                        refine lv_iload hx hb dX7_readOrder_139 (lv_at hl 0 rfl) ?_
                        refine lv_iconst (v := (-1)) hx hb dX7_readOrder_141 (by decide) ?_
                        refine lv_icmp_eq (tgt := 148) hx hb dX7_readOrder_142 (by decide) (fun c => absurd (jeq c rfl jz_m1) (by omega)) (fun c1085 => ?_)
                        have kc1085 := jne c1085 rfl jz_m1
                        refine lv_iload hx hb dX7_readOrder_145 (lv_at hl 0 rfl) ?_
                        have I1086 : jI16 σ1069 := jI16_fr ((congrFun (f1071 16 (by decide)) 0).trans ((congrFun (f1053 16 (by decide)) 0).trans ((congrFun (f1019 16 (by decide)) 0).trans ((congrFun (f921 16 (by decide)) 0).trans ((congrFun (f835 16 (by decide)) 0).trans ((congrFun (f825 16 (by decide)) 0).trans ((congrFun (f31 16 (by decide)) 0).trans (congrFun (f10 16 (by decide)) 0)))))))) ((congrFun (f1071 16 (by decide)) 1).trans ((congrFun (f1053 16 (by decide)) 1).trans ((congrFun (f1019 16 (by decide)) 1).trans ((congrFun (f921 16 (by decide)) 1).trans ((congrFun (f835 16 (by decide)) 1).trans ((congrFun (f825 16 (by decide)) 1).trans ((congrFun (f31 16 (by decide)) 1).trans (congrFun (f10 16 (by decide)) 1)))))))) ((congrFun (f1071 16 (by decide)) 2).trans ((congrFun (f1053 16 (by decide)) 2).trans ((congrFun (f1019 16 (by decide)) 2).trans ((congrFun (f921 16 (by decide)) 2).trans ((congrFun (f835 16 (by decide)) 2).trans ((congrFun (f825 16 (by decide)) 2).trans ((congrFun (f31 16 (by decide)) 2).trans (congrFun (f10 16 (by decide)) 2)))))))) ((f1071 17 (by decide)).trans ((f1053 17 (by decide)).trans ((f1019 17 (by decide)).trans ((f921 17 (by decide)).trans ((f835 17 (by decide)).trans ((f825 17 (by decide)).trans ((f31 17 (by decide)).trans (f10 17 (by decide))))))))) hI16
                        exact hret r1070 σ1069 τ _ _ _ _ rfl ⟨rfl, (fun i hi => ((f1071 i (imp_48 i hi)).trans ((f1053 i (imp_48 i hi)).trans ((f1019 i (imp_48 i hi)).trans ((f921 i (imp_48 i hi)).trans ((f835 i (imp_48 i hi)).trans ((f825 i (imp_48 i hi)).trans ((f31 i (imp_49 i hi)).trans (f10 i (imp_48 i hi)))))))))), (fun i hi => ((f1072 i (imp_50 i hi)).trans ((f1054 i (imp_52 i hi)).trans ((f1020 i (imp_51 i hi)).trans ((f922 i (imp_52 i hi)).trans ((f836 i (imp_51 i hi)).trans ((f826 i (imp_56 i hi)).trans ((f32 i (imp_51 i hi)).trans (f11 i (imp_52 i hi)))))))))), (fun i hi => ((congrFun (f1071 16 (by decide)) i).trans ((congrFun (f1053 16 (by decide)) i).trans ((congrFun (f1019 16 (by decide)) i).trans ((congrFun (f921 16 (by decide)) i).trans ((congrFun (f835 16 (by decide)) i).trans ((congrFun (f825 16 (by decide)) i).trans ((congrFun (f31 16 (by decide)) i).trans (congrFun (f10 16 (by decide)) i))))))))), I1073, I1086, trivial⟩ hP hS dX7_readOrder_147
                  · have kc1016 := jnle c1016 rfl jz_12
                    refine lv_aload_n hx hb dX7_readOrder_111 rfl (lv_at hl 4 rfl) ?_
                    refine lv_iload hx hb dX7_readOrder_112 (lv_at hl 1 rfl) ?_
                    refine jcallVv (As := [.int (σ833 9 1)]) (rest := []) ⟨hx, hb, hml, hown, hts⟩ hK hP hA hS hZ (c_X7_fail_9 l D cI cL ad zz hJ σ919 τ (σ833 9 1) ((σ833 9 1).toInt) rfl I925 (by omega)) cw_RX7_43 (jc_9 cI cL ad σ919 τ) rfl ⟨Nat.le_of_ble_eq_true rfl, Nat.le_of_ble_eq_true rfl⟩ rfl rfl rfl hl.1 rfl (Nat.le_of_ble_eq_true rfl) dX7_readOrder_114 ⟨Nat.zero_le _, Nat.zero_le _⟩ (fun σ1087 τ1087 H locs h1087 hP hS => ?_)
                    obtain ⟨rfl, f1089, f1090, h1087⟩ := h1087
                    obtain ⟨k1091, h1087⟩ := h1087
                    refine lv_aload_n hx hb dX7_readOrder_117 rfl (lv_at hl 4 rfl) ?_
                    refine lv_bipush (v := 114) hx hb dX7_readOrder_118 (by decide) ?_
                    have I1092 : jI9 σ1087 := jI9_fr (f1090 0 (by decide)) (f1089 10 (by decide)) (f1089 11 (by decide)) I923
                    have I1093 : jI91 σ1087 := jI91_fr (f1090 0 (by decide)) (f1090 1 (by decide)) I924
                    have I1094 : jI92 σ1087 := (show (-1) ≤ (σ1087 9 2).toInt by omega)
                    refine jcallV (As := [.int 114]) (rest := []) ⟨hx, hb, hml, hown, hts⟩ hK hP hA hS hZ (c_X7_skip_9 l D cI cL ad zz hJ σ1087 τ 114 (114) jz_114 I1092 I1093 I1094 (by omega)) cw_RX7_50 (jc_9 cI cL ad σ1087 τ) rfl ⟨Nat.le_of_ble_eq_true rfl, Nat.le_of_ble_eq_true rfl⟩ rfl rfl rfl hl.1 rfl (Nat.le_of_ble_eq_true rfl) dX7_readOrder_120 ⟨Nat.zero_le _, Nat.zero_le _⟩ (fun r1096 σ1095 τ1095 H locs h1095 hP hS => ?_)
                    obtain ⟨rfl, f1097, f1098, I1099, I1100, I1101, h1095⟩ := h1095
                    obtain ⟨i1102, w1103, w1104⟩ : (0 ≤ (σ1095 9 0).toInt ∧ (σ1095 9 0).toInt ≤ 80) ∧ (∀ k : Nat, k < 80 → 0 ≤ (σ1095 10 k).toInt ∧ (σ1095 10 k).toInt ≤ 255) ∧ (∀ k : Nat, k < 8 → 0 ≤ (σ1095 11 k).toInt ∧ (σ1095 11 k).toInt ≤ 3) := id I1099
                    obtain ⟨i1105, i1106⟩ : (0 ≤ (σ1095 9 1).toInt) ∧ ((σ1095 9 1).toInt ≤ (σ1095 9 0).toInt) := id I1100
                    have i1107 : (-1) ≤ (σ1095 9 2).toInt := I1101
                    have z1108 : (σ1095 9 0).toInt = (σ 9 0).toInt := (congrArg Int32.toInt (show σ1095 9 0 = (σ 9 0) from ((f1098 0 (by decide)).trans ((f1090 0 (by decide)).trans ((f922 0 (by decide)).trans ((f836 0 (by decide)).trans ((f826 0 (by decide)).trans ((f32 0 (by decide)).trans (f11 0 (by decide))))))))))
                    have z1109 : (σ1095 9 2).toInt = (σ1087 9 2).toInt := (congrArg Int32.toInt (show σ1095 9 2 = (σ1087 9 2) from (f1098 2 (by decide))))
                    refine lv_if_eq (tgt := 133) hx hb dX7_readOrder_123 (by decide) (fun c1110 => ?_) (fun c1110 => ?_)
                    · have kc1110 := jeq c1110 rfl jz_0
                      refine lv_aload_n hx hb dX7_readOrder_133 rfl (lv_at hl 4 rfl) ?_
                      refine jcallV (As := []) (rest := []) ⟨hx, hb, hml, hown, hts⟩ hK hP hA hS hZ (c_X7_end_9 l D cI cL ad zz hJ σ1095 τ I1099 I1100 I1101) cw_RX7_57 (jc_9 cI cL ad σ1095 τ) rfl ⟨Nat.le_of_ble_eq_true rfl, Nat.le_of_ble_eq_true rfl⟩ rfl rfl rfl hl.1 rfl (Nat.le_of_ble_eq_true rfl) dX7_readOrder_134 ⟨Nat.zero_le _, Nat.zero_le _⟩ (fun r1112 σ1111 τ1111 H locs h1111 hP hS => ?_)
                      obtain ⟨rfl, f1113, f1114, I1115, I1116, h1111⟩ := h1111
                      obtain ⟨i1117, w1118, w1119⟩ : (0 ≤ (σ1111 9 0).toInt ∧ (σ1111 9 0).toInt ≤ 80) ∧ (∀ k : Nat, k < 80 → 0 ≤ (σ1111 10 k).toInt ∧ (σ1111 10 k).toInt ≤ 255) ∧ (∀ k : Nat, k < 8 → 0 ≤ (σ1111 11 k).toInt ∧ (σ1111 11 k).toInt ≤ 3) := id I1115
                      have i1120 : (-1) ≤ (σ1111 9 2).toInt := I1116
                      rcases h1111 with h1121 | h1122
                      · obtain ⟨q1124, k1123⟩ := h1121
                        exact absurd (by omega : False) id
                      · obtain ⟨q1126, k1125⟩ := h1122
                        refine lv_istore (lv' := [(5, .int r1112), (3, .int r920), (4, .int 0), (2, .int x24), (0, .ref (ad 9)), (1, .ref (ad 16))]) hx hb dX7_readOrder_137 hl (by decide) rfl (fun ls hl => ?_)
                        refine lv_iload hx hb dX7_readOrder_139 (lv_at hl 0 rfl) ?_
                        refine lv_iconst (v := (-1)) hx hb dX7_readOrder_141 (by decide) ?_
                        refine lv_icmp_eq (tgt := 148) hx hb dX7_readOrder_142 (by decide) (fun c => absurd (jeq c rfl jz_m1) (by omega)) (fun c1127 => ?_)
                        have kc1127 := jne c1127 rfl jz_m1
                        refine lv_iload hx hb dX7_readOrder_145 (lv_at hl 0 rfl) ?_
                        have I1128 : jI16 σ1111 := jI16_fr ((congrFun (f1113 16 (by decide)) 0).trans ((congrFun (f1097 16 (by decide)) 0).trans ((congrFun (f1089 16 (by decide)) 0).trans ((congrFun (f921 16 (by decide)) 0).trans ((congrFun (f835 16 (by decide)) 0).trans ((congrFun (f825 16 (by decide)) 0).trans ((congrFun (f31 16 (by decide)) 0).trans (congrFun (f10 16 (by decide)) 0)))))))) ((congrFun (f1113 16 (by decide)) 1).trans ((congrFun (f1097 16 (by decide)) 1).trans ((congrFun (f1089 16 (by decide)) 1).trans ((congrFun (f921 16 (by decide)) 1).trans ((congrFun (f835 16 (by decide)) 1).trans ((congrFun (f825 16 (by decide)) 1).trans ((congrFun (f31 16 (by decide)) 1).trans (congrFun (f10 16 (by decide)) 1)))))))) ((congrFun (f1113 16 (by decide)) 2).trans ((congrFun (f1097 16 (by decide)) 2).trans ((congrFun (f1089 16 (by decide)) 2).trans ((congrFun (f921 16 (by decide)) 2).trans ((congrFun (f835 16 (by decide)) 2).trans ((congrFun (f825 16 (by decide)) 2).trans ((congrFun (f31 16 (by decide)) 2).trans (congrFun (f10 16 (by decide)) 2)))))))) ((f1113 17 (by decide)).trans ((f1097 17 (by decide)).trans ((f1089 17 (by decide)).trans ((f921 17 (by decide)).trans ((f835 17 (by decide)).trans ((f825 17 (by decide)).trans ((f31 17 (by decide)).trans (f10 17 (by decide))))))))) hI16
                        exact hret r1112 σ1111 τ _ _ _ _ rfl ⟨rfl, (fun i hi => ((f1113 i (imp_48 i hi)).trans ((f1097 i (imp_48 i hi)).trans ((f1089 i (imp_48 i hi)).trans ((f921 i (imp_48 i hi)).trans ((f835 i (imp_48 i hi)).trans ((f825 i (imp_48 i hi)).trans ((f31 i (imp_49 i hi)).trans (f10 i (imp_48 i hi)))))))))), (fun i hi => ((f1114 i (imp_50 i hi)).trans ((f1098 i (imp_51 i hi)).trans ((f1090 i (imp_56 i hi)).trans ((f922 i (imp_52 i hi)).trans ((f836 i (imp_51 i hi)).trans ((f826 i (imp_56 i hi)).trans ((f32 i (imp_51 i hi)).trans (f11 i (imp_52 i hi)))))))))), (fun i hi => ((congrFun (f1113 16 (by decide)) i).trans ((congrFun (f1097 16 (by decide)) i).trans ((congrFun (f1089 16 (by decide)) i).trans ((congrFun (f921 16 (by decide)) i).trans ((congrFun (f835 16 (by decide)) i).trans ((congrFun (f825 16 (by decide)) i).trans ((congrFun (f31 16 (by decide)) i).trans (congrFun (f10 16 (by decide)) i))))))))), I1115, I1128, trivial⟩ hP hS dX7_readOrder_147
                    · have kc1110 := jne c1110 rfl jz_0
                      refine lv_aload_n hx hb dX7_readOrder_126 rfl (lv_at hl 4 rfl) ?_
                      refine lv_iconst (v := 3) hx hb dX7_readOrder_127 (by decide) ?_
                      refine jcallV (As := [.int 3]) (rest := []) ⟨hx, hb, hml, hown, hts⟩ hK hP hA hS hZ (c_X7_number_3 l D cI cL ad zz hJ σ1095 τ I1099 I1100 I1101) cw_RX7_53 (jc_9 cI cL ad σ1095 τ) rfl ⟨Nat.le_of_ble_eq_true rfl, Nat.le_of_ble_eq_true rfl⟩ rfl rfl rfl hl.1 rfl (Nat.le_of_ble_eq_true rfl) dX7_readOrder_128 ⟨Nat.zero_le _, Nat.zero_le _⟩ (fun r1130 σ1129 τ1129 H locs h1129 hP hS => ?_)
                      obtain ⟨rfl, f1131, f1132, I1133, I1134, I1135, h1129⟩ := h1129
                      obtain ⟨i1136, w1137, w1138⟩ : (0 ≤ (σ1129 9 0).toInt ∧ (σ1129 9 0).toInt ≤ 80) ∧ (∀ k : Nat, k < 80 → 0 ≤ (σ1129 10 k).toInt ∧ (σ1129 10 k).toInt ≤ 255) ∧ (∀ k : Nat, k < 8 → 0 ≤ (σ1129 11 k).toInt ∧ (σ1129 11 k).toInt ≤ 3) := id I1133
                      obtain ⟨i1139, i1140⟩ : (0 ≤ (σ1129 9 1).toInt) ∧ ((σ1129 9 1).toInt ≤ (σ1129 9 0).toInt) := id I1134
                      have i1141 : (-1) ≤ (σ1129 9 2).toInt := I1135
                      have z1142 : (σ1129 9 0).toInt = (σ 9 0).toInt := (congrArg Int32.toInt (show σ1129 9 0 = (σ 9 0) from ((f1132 0 (by decide)).trans ((f1098 0 (by decide)).trans ((f1090 0 (by decide)).trans ((f922 0 (by decide)).trans ((f836 0 (by decide)).trans ((f826 0 (by decide)).trans ((f32 0 (by decide)).trans (f11 0 (by decide)))))))))))
                      obtain ⟨k1143, h1129⟩ := h1129
                      have h1144 := h1129
                      obtain ⟨q1146, k1145⟩ := h1144
                      refine lv_istore (lv' := [(4, .int r1130), (3, .int r920), (5, .int (σ833 9 1)), (2, .int x24), (0, .ref (ad 9)), (1, .ref (ad 16))]) hx hb dX7_readOrder_131 hl (by decide) rfl (fun ls hl => ?_)
                      refine lv_aload_n hx hb dX7_readOrder_133 rfl (lv_at hl 4 rfl) ?_
                      refine jcallV (As := []) (rest := []) ⟨hx, hb, hml, hown, hts⟩ hK hP hA hS hZ (c_X7_end_9 l D cI cL ad zz hJ σ1129 τ I1133 I1134 I1135) cw_RX7_57 (jc_9 cI cL ad σ1129 τ) rfl ⟨Nat.le_of_ble_eq_true rfl, Nat.le_of_ble_eq_true rfl⟩ rfl rfl rfl hl.1 rfl (Nat.le_of_ble_eq_true rfl) dX7_readOrder_134 ⟨Nat.zero_le _, Nat.zero_le _⟩ (fun r1148 σ1147 τ1147 H locs h1147 hP hS => ?_)
                      obtain ⟨rfl, f1149, f1150, I1151, I1152, h1147⟩ := h1147
                      obtain ⟨i1153, w1154, w1155⟩ : (0 ≤ (σ1147 9 0).toInt ∧ (σ1147 9 0).toInt ≤ 80) ∧ (∀ k : Nat, k < 80 → 0 ≤ (σ1147 10 k).toInt ∧ (σ1147 10 k).toInt ≤ 255) ∧ (∀ k : Nat, k < 8 → 0 ≤ (σ1147 11 k).toInt ∧ (σ1147 11 k).toInt ≤ 3) := id I1151
                      have i1156 : (-1) ≤ (σ1147 9 2).toInt := I1152
                      rcases h1147 with h1157 | h1158
                      · obtain ⟨q1160, k1159⟩ := h1157
                        exact absurd (by omega : False) id
                      · obtain ⟨q1162, k1161⟩ := h1158
                        refine lv_istore (lv' := [(5, .int r1148), (4, .int r1130), (3, .int r920), (2, .int x24), (0, .ref (ad 9)), (1, .ref (ad 16))]) hx hb dX7_readOrder_137 hl (by decide) rfl (fun ls hl => ?_)
                        refine lv_iload hx hb dX7_readOrder_139 (lv_at hl 0 rfl) ?_
                        refine lv_iconst (v := (-1)) hx hb dX7_readOrder_141 (by decide) ?_
                        refine lv_icmp_eq (tgt := 148) hx hb dX7_readOrder_142 (by decide) (fun c => absurd (jeq c rfl jz_m1) (by omega)) (fun c1163 => ?_)
                        have kc1163 := jne c1163 rfl jz_m1
                        refine lv_iload hx hb dX7_readOrder_145 (lv_at hl 0 rfl) ?_
                        have I1164 : jI16 σ1147 := jI16_fr ((congrFun (f1149 16 (by decide)) 0).trans ((congrFun (f1131 16 (by decide)) 0).trans ((congrFun (f1097 16 (by decide)) 0).trans ((congrFun (f1089 16 (by decide)) 0).trans ((congrFun (f921 16 (by decide)) 0).trans ((congrFun (f835 16 (by decide)) 0).trans ((congrFun (f825 16 (by decide)) 0).trans ((congrFun (f31 16 (by decide)) 0).trans (congrFun (f10 16 (by decide)) 0))))))))) ((congrFun (f1149 16 (by decide)) 1).trans ((congrFun (f1131 16 (by decide)) 1).trans ((congrFun (f1097 16 (by decide)) 1).trans ((congrFun (f1089 16 (by decide)) 1).trans ((congrFun (f921 16 (by decide)) 1).trans ((congrFun (f835 16 (by decide)) 1).trans ((congrFun (f825 16 (by decide)) 1).trans ((congrFun (f31 16 (by decide)) 1).trans (congrFun (f10 16 (by decide)) 1))))))))) ((congrFun (f1149 16 (by decide)) 2).trans ((congrFun (f1131 16 (by decide)) 2).trans ((congrFun (f1097 16 (by decide)) 2).trans ((congrFun (f1089 16 (by decide)) 2).trans ((congrFun (f921 16 (by decide)) 2).trans ((congrFun (f835 16 (by decide)) 2).trans ((congrFun (f825 16 (by decide)) 2).trans ((congrFun (f31 16 (by decide)) 2).trans (congrFun (f10 16 (by decide)) 2))))))))) ((f1149 17 (by decide)).trans ((f1131 17 (by decide)).trans ((f1097 17 (by decide)).trans ((f1089 17 (by decide)).trans ((f921 17 (by decide)).trans ((f835 17 (by decide)).trans ((f825 17 (by decide)).trans ((f31 17 (by decide)).trans (f10 17 (by decide)))))))))) hI16
                        exact hret r1148 σ1147 τ _ _ _ _ rfl ⟨rfl, (fun i hi => ((f1149 i (imp_48 i hi)).trans ((f1131 i (imp_48 i hi)).trans ((f1097 i (imp_48 i hi)).trans ((f1089 i (imp_48 i hi)).trans ((f921 i (imp_48 i hi)).trans ((f835 i (imp_48 i hi)).trans ((f825 i (imp_48 i hi)).trans ((f31 i (imp_49 i hi)).trans (f10 i (imp_48 i hi))))))))))), (fun i hi => ((f1150 i (imp_50 i hi)).trans ((f1132 i (imp_52 i hi)).trans ((f1098 i (imp_51 i hi)).trans ((f1090 i (imp_56 i hi)).trans ((f922 i (imp_52 i hi)).trans ((f836 i (imp_51 i hi)).trans ((f826 i (imp_56 i hi)).trans ((f32 i (imp_51 i hi)).trans (f11 i (imp_52 i hi))))))))))), (fun i hi => ((congrFun (f1149 16 (by decide)) i).trans ((congrFun (f1131 16 (by decide)) i).trans ((congrFun (f1097 16 (by decide)) i).trans ((congrFun (f1089 16 (by decide)) i).trans ((congrFun (f921 16 (by decide)) i).trans ((congrFun (f835 16 (by decide)) i).trans ((congrFun (f825 16 (by decide)) i).trans ((congrFun (f31 16 (by decide)) i).trans (congrFun (f10 16 (by decide)) i)))))))))), I1151, I1164, trivial⟩ hP hS dX7_readOrder_147
          · have kc434 := jnlt c434 rfl jz_48
            refine lv_aload_n hx hb dX7_readOrder_27 rfl (lv_at hl 3 rfl) ?_
            refine jcallV (As := []) (rest := []) ⟨hx, hb, hml, hown, hts⟩ hK hP hA hS hZ (c_X7_sign_9 l D cI cL ad zz hJ σ25 τ p33) cw_RX7_35 (jc_9 cI cL ad σ25 τ) rfl ⟨Nat.le_of_ble_eq_true rfl, Nat.le_of_ble_eq_true rfl⟩ rfl rfl rfl hl.1 rfl (Nat.le_of_ble_eq_true rfl) dX7_readOrder_28 ⟨Nat.zero_le _, Nat.zero_le _⟩ (fun r1166 σ1165 τ1165 H locs h1165 hP hS => ?_)
            obtain ⟨⟨rfl, rfl⟩, h1165⟩ := h1165
            rcases h1165 with h1167 | h1168
            · obtain ⟨q1171, k1169, k1170⟩ := h1167
              have q1172 : r1166 = (σ 10 (σ25 9 1).toNatClampNeg) := q1171.trans (by rw [f31 10 (by decide), f10 10 (by decide)])
              have q1172e : (σ25 10 (σ25 9 1).toNatClampNeg).toInt = (σ 10 (σ25 9 1).toNatClampNeg).toInt := by rw [← q1171, ← q1172]
              have q1172 := q1172.symm
              subst q1172
              refine lv_bipush (v := 51) hx hb dX7_readOrder_31 (by decide) ?_
              refine lv_icmp_gt (tgt := 67) hx hb dX7_readOrder_33 (by decide) (fun c1173 => ?_) (fun c1173 => ?_)
              · have kc1173 := jlt c1173 jz_51 rfl
                refine lv_iload_n hx hb dX7_readOrder_67 rfl (lv_at hl 2 rfl) ?_
                refine lv_if_ne (tgt := 79) hx hb dX7_readOrder_68 (by decide) (fun c1174 => ?_) (fun c1174 => ?_)
                · have kc1174 := jne c1174 rfl jz_0
                  refine lv_aload_n hx hb dX7_readOrder_79 rfl (lv_at hl 3 rfl) ?_
                  refine lv_bipush (v := 58) hx hb dX7_readOrder_80 (by decide) ?_
                  have I1175 : jI91 σ25 := ⟨(by omega), (by omega)⟩
                  have I1176 : jI92 σ25 := jI92_fr (f32 2 (by decide)) I14
                  refine jcallV (As := [.int 58]) (rest := []) ⟨hx, hb, hml, hown, hts⟩ hK hP hA hS hZ (c_X7_skip_9 l D cI cL ad zz hJ σ25 τ 58 (58) jz_58 p33 I1175 I1176 (by omega)) cw_RX7_50 (jc_9 cI cL ad σ25 τ) rfl ⟨Nat.le_of_ble_eq_true rfl, Nat.le_of_ble_eq_true rfl⟩ rfl rfl rfl hl.1 rfl (Nat.le_of_ble_eq_true rfl) dX7_readOrder_82 ⟨Nat.zero_le _, Nat.zero_le _⟩ (fun r1178 σ1177 τ1177 H locs h1177 hP hS => ?_)
                  obtain ⟨rfl, f1179, f1180, I1181, I1182, I1183, h1177⟩ := h1177
                  obtain ⟨i1184, w1185, w1186⟩ : (0 ≤ (σ1177 9 0).toInt ∧ (σ1177 9 0).toInt ≤ 80) ∧ (∀ k : Nat, k < 80 → 0 ≤ (σ1177 10 k).toInt ∧ (σ1177 10 k).toInt ≤ 255) ∧ (∀ k : Nat, k < 8 → 0 ≤ (σ1177 11 k).toInt ∧ (σ1177 11 k).toInt ≤ 3) := id I1181
                  obtain ⟨i1187, i1188⟩ : (0 ≤ (σ1177 9 1).toInt) ∧ ((σ1177 9 1).toInt ≤ (σ1177 9 0).toInt) := id I1182
                  have i1189 : (-1) ≤ (σ1177 9 2).toInt := I1183
                  have z1190 : (σ1177 9 0).toInt = (σ 9 0).toInt := (congrArg Int32.toInt (show σ1177 9 0 = (σ 9 0) from ((f1180 0 (by decide)).trans ((f32 0 (by decide)).trans (f11 0 (by decide))))))
                  have z1191 : (σ1177 9 2).toInt = (σ8 9 2).toInt := (congrArg Int32.toInt (show σ1177 9 2 = (σ8 9 2) from ((f1180 2 (by decide)).trans (f32 2 (by decide)))))
                  refine lv_if_eq (tgt := 117) hx hb dX7_readOrder_85 (by decide) (fun c1192 => ?_) (fun c1192 => ?_)
                  · have kc1192 := jeq c1192 rfl jz_0
                    refine lv_aload_n hx hb dX7_readOrder_117 rfl (lv_at hl 3 rfl) ?_
                    refine lv_bipush (v := 114) hx hb dX7_readOrder_118 (by decide) ?_
                    refine jcallV (As := [.int 114]) (rest := []) ⟨hx, hb, hml, hown, hts⟩ hK hP hA hS hZ (c_X7_skip_9 l D cI cL ad zz hJ σ1177 τ 114 (114) jz_114 I1181 I1182 I1183 (by omega)) cw_RX7_50 (jc_9 cI cL ad σ1177 τ) rfl ⟨Nat.le_of_ble_eq_true rfl, Nat.le_of_ble_eq_true rfl⟩ rfl rfl rfl hl.1 rfl (Nat.le_of_ble_eq_true rfl) dX7_readOrder_120 ⟨Nat.zero_le _, Nat.zero_le _⟩ (fun r1194 σ1193 τ1193 H locs h1193 hP hS => ?_)
                    obtain ⟨rfl, f1195, f1196, I1197, I1198, I1199, h1193⟩ := h1193
                    obtain ⟨i1200, w1201, w1202⟩ : (0 ≤ (σ1193 9 0).toInt ∧ (σ1193 9 0).toInt ≤ 80) ∧ (∀ k : Nat, k < 80 → 0 ≤ (σ1193 10 k).toInt ∧ (σ1193 10 k).toInt ≤ 255) ∧ (∀ k : Nat, k < 8 → 0 ≤ (σ1193 11 k).toInt ∧ (σ1193 11 k).toInt ≤ 3) := id I1197
                    obtain ⟨i1203, i1204⟩ : (0 ≤ (σ1193 9 1).toInt) ∧ ((σ1193 9 1).toInt ≤ (σ1193 9 0).toInt) := id I1198
                    have i1205 : (-1) ≤ (σ1193 9 2).toInt := I1199
                    have z1206 : (σ1193 9 0).toInt = (σ 9 0).toInt := (congrArg Int32.toInt (show σ1193 9 0 = (σ 9 0) from ((f1196 0 (by decide)).trans ((f1180 0 (by decide)).trans ((f32 0 (by decide)).trans (f11 0 (by decide)))))))
                    have z1207 : (σ1193 9 2).toInt = (σ8 9 2).toInt := (congrArg Int32.toInt (show σ1193 9 2 = (σ8 9 2) from ((f1196 2 (by decide)).trans ((f1180 2 (by decide)).trans (f32 2 (by decide))))))
                    refine lv_if_eq (tgt := 133) hx hb dX7_readOrder_123 (by decide) (fun c1208 => ?_) (fun c1208 => ?_)
                    · have kc1208 := jeq c1208 rfl jz_0
                      refine lv_aload_n hx hb dX7_readOrder_133 rfl (lv_at hl 3 rfl) ?_
                      refine jcallV (As := []) (rest := []) ⟨hx, hb, hml, hown, hts⟩ hK hP hA hS hZ (c_X7_end_9 l D cI cL ad zz hJ σ1193 τ I1197 I1198 I1199) cw_RX7_57 (jc_9 cI cL ad σ1193 τ) rfl ⟨Nat.le_of_ble_eq_true rfl, Nat.le_of_ble_eq_true rfl⟩ rfl rfl rfl hl.1 rfl (Nat.le_of_ble_eq_true rfl) dX7_readOrder_134 ⟨Nat.zero_le _, Nat.zero_le _⟩ (fun r1210 σ1209 τ1209 H locs h1209 hP hS => ?_)
                      obtain ⟨rfl, f1211, f1212, I1213, I1214, h1209⟩ := h1209
                      obtain ⟨i1215, w1216, w1217⟩ : (0 ≤ (σ1209 9 0).toInt ∧ (σ1209 9 0).toInt ≤ 80) ∧ (∀ k : Nat, k < 80 → 0 ≤ (σ1209 10 k).toInt ∧ (σ1209 10 k).toInt ≤ 255) ∧ (∀ k : Nat, k < 8 → 0 ≤ (σ1209 11 k).toInt ∧ (σ1209 11 k).toInt ≤ 3) := id I1213
                      have i1218 : (-1) ≤ (σ1209 9 2).toInt := I1214
                      rcases h1209 with h1219 | h1220
                      · obtain ⟨q1222, k1221⟩ := h1219
                        have q1222 := q1222.symm
                        subst q1222
                        refine lv_istore (lv' := [(5, .int (-1)), (4, .int 0), (3, .int 8), (2, .int x24), (0, .ref (ad 9)), (1, .ref (ad 16))]) hx hb dX7_readOrder_137 hl (by decide) rfl (fun ls hl => ?_)
                        refine lv_iload hx hb dX7_readOrder_139 (lv_at hl 0 rfl) ?_
                        refine lv_iconst (v := (-1)) hx hb dX7_readOrder_141 (by decide) ?_
                        refine lv_icmp_eq (tgt := 148) hx hb dX7_readOrder_142 (by decide) (fun _ => ?_) (fun c => absurd (by decide) c)
                        refine lv_aload_n hx hb dX7_readOrder_148 rfl (lv_at hl 5 rfl) ?_
                        refine lv_iload_n hx hb dX7_readOrder_149 rfl (lv_at hl 3 rfl) ?_
                        refine jput (ty := .int) hx hb hts inlX6 tyX6 tyX6_ok nmX6 hown hK hP hJ hA hS (jc_16 cI cL ad σ1209 τ) rfl (k := 0) (by decide) (Nat.le_of_ble_eq_true rfl) (jp_16_0 cI cL ad σ1209 τ x24) (hts _ kw_13_18) (fun _ h9 => h9) rfl (by decide +kernel) rfl rfl dX7_readOrder_150 (fun σ1223 H locs eσ1223 hP hS => ?_)
                        refine lv_aload_n hx hb dX7_readOrder_153 rfl (lv_at hl 5 rfl) ?_
                        refine lv_iload_n hx hb dX7_readOrder_154 rfl (lv_at hl 2 rfl) ?_
                        refine jput (ty := .int) hx hb hts inlX6 tyX6 tyX6_ok nmX6 hown hK hP hJ hA hS (jc_16 cI cL ad σ1223 τ) rfl (k := 1) (by decide) (Nat.le_of_ble_eq_true rfl) (jp_16_1 cI cL ad σ1223 τ 8) (hts _ kw_13_19) (fun _ h9 => h9) rfl (by decide +kernel) rfl rfl dX7_readOrder_155 (fun σ1224 H locs eσ1224 hP hS => ?_)
                        refine lv_aload_n hx hb dX7_readOrder_158 rfl (lv_at hl 5 rfl) ?_
                        refine lv_iload hx hb dX7_readOrder_159 (lv_at hl 1 rfl) ?_
                        refine jput (ty := .int) hx hb hts inlX6 tyX6 tyX6_ok nmX6 hown hK hP hJ hA hS (jc_16 cI cL ad σ1224 τ) rfl (k := 2) (by decide) (Nat.le_of_ble_eq_true rfl) (jp_16_2 cI cL ad σ1224 τ 0) (hts _ kw_13_20) (fun _ h9 => h9) rfl (by decide +kernel) rfl rfl dX7_readOrder_161 (fun σ1225 H locs eσ1225 hP hS => ?_)
                        refine lv_aload_n hx hb dX7_readOrder_164 rfl (lv_at hl 4 rfl) ?_
                        refine va_get (D := D) hx hb hts inlX7 hown hK hP 9 (jc_9 cI cL ad σ1225 τ) rfl 4 (by decide) (hts _ kw_3_21) (fun _ h9 => h9) rfl dX7_readOrder_165 ?_
                        refine lv_iconst (v := 0) hx hb dX7_readOrder_168 (by decide) ?_
                        refine lv_aload_n hx hb dX7_readOrder_169 rfl (lv_at hl 5 rfl) ?_
                        refine va_get (D := D) hx hb hts inlX6 hown hK hP 16 (jc_16 cI cL ad σ1225 τ) rfl 3 (by decide) (hts _ kw_13_21) (fun _ h9 => h9) rfl dX7_readOrder_170 ?_
                        refine lv_iconst (v := 0) hx hb dX7_readOrder_173 (by decide) ?_
                        refine lv_iload_n hx hb dX7_readOrder_174 rfl (lv_at hl 3 rfl) ?_
                        refine jcpyI (q0 := 11) (q1 := 17) hx hb (hml.trans hl.1.symm) hown (hts _ kw_13_22) (hts _ kw_13_23) (hts _ kw_14_0) (hts _ kw_14_1) hK hP hJ hA hS (jc_11 cI cL ad σ1225 τ) (jc_17 cI cL ad σ1225 τ) (fun _ => rfl) jz_0 jz_0 rfl (by omega) (by omega) (by omega) (by omega) (by omega) (Nat.le_of_ble_eq_true rfl) (Nat.le_of_ble_eq_true rfl) dX7_readOrder_175 (fun σ1226 H locs eσ1226 hP hS => ?_)
                        have w1227 : ∀ k : Nat, k < 8 → 0 ≤ (σ1225 11 k).toInt ∧ (σ1225 11 k).toInt ≤ 3 := (jrr_fr (jnp 11 eσ1225 (by decide)) (jrr_fr (jnp 11 eσ1224 (by decide)) (jrr_fr (jnp 11 eσ1223 (by decide)) w1217)))
                        have w1228 : ∀ k : Nat, k < 8 → 0 ≤ (σ1225 17 k).toInt ∧ (σ1225 17 k).toInt ≤ 3 := (jrr_fr (jnp 17 eσ1225 (by decide)) (jrr_fr (jnp 17 eσ1224 (by decide)) (jrr_fr (jnp 17 eσ1223 (by decide)) (jrr_fr (f1211 17 (by decide)) (jrr_fr (f1195 17 (by decide)) (jrr_fr (f1179 17 (by decide)) (jrr_fr (f31 17 (by decide)) (jrr_fr (f10 17 (by decide)) w7))))))))
                        have f1229 : (∀ i : Nat, (i < 17 ∨ 17 < i) → σ1226 i = σ1225 i) := by rw [eσ1226]; exact jrow_n
                        have w1230 : ∀ k : Nat, k < 8 → 0 ≤ (σ1226 17 k).toInt ∧ (σ1226 17 k).toInt ≤ 3 := by rw [eσ1226]; exact jrow_rr w1227 w1228 jz_0 rfl (n0 := 8) (by omega) (by omega) (by omega)
                        refine lv_iconst (v := (-1)) hx hb dX7_readOrder_178 (by decide) ?_
                        have I1231 : jI9 σ1226 := jI9_fr ((congrFun (f1229 9 (by decide)) 0).trans ((congrFun (jnp 9 eσ1225 (by decide)) 0).trans ((congrFun (jnp 9 eσ1224 (by decide)) 0).trans (congrFun (jnp 9 eσ1223 (by decide)) 0)))) ((f1229 10 (by decide)).trans ((jnp 10 eσ1225 (by decide)).trans ((jnp 10 eσ1224 (by decide)).trans (jnp 10 eσ1223 (by decide))))) ((f1229 11 (by decide)).trans ((jnp 11 eσ1225 (by decide)).trans ((jnp 11 eσ1224 (by decide)).trans (jnp 11 eσ1223 (by decide))))) I1213
                        have z1232 : (σ1226 16 0).toInt = x24.toInt := (congrArg Int32.toInt (show σ1226 16 0 = x24 from ((congrFun (f1229 16 (by decide)) 0).trans ((jkp 0 eσ1225 (by decide)).trans ((jkp 0 eσ1224 (by decide)).trans (jsp eσ1223))))))
                        have z1233 : (σ1226 16 1).toInt = 8 := ((congrArg Int32.toInt (show σ1226 16 1 = 8 from ((congrFun (f1229 16 (by decide)) 1).trans ((jkp 1 eσ1225 (by decide)).trans (jsp eσ1224))))).trans jz_8)
                        have z1234 : (σ1226 16 2).toInt = 0 := ((congrArg Int32.toInt (show σ1226 16 2 = 0 from ((congrFun (f1229 16 (by decide)) 2).trans (jsp eσ1225)))).trans jz_0)
                        have I1235 : jI16 σ1226 := ⟨(by omega), (by omega), (by omega), w1230⟩
                        exact hret (-1) σ1226 τ _ _ _ _ rfl ⟨rfl, (fun i hi => ((f1229 i (imp_46 i hi)).trans ((jnp i eσ1225 (imp_47 i hi)).trans ((jnp i eσ1224 (imp_47 i hi)).trans ((jnp i eσ1223 (imp_47 i hi)).trans ((f1211 i (imp_48 i hi)).trans ((f1195 i (imp_48 i hi)).trans ((f1179 i (imp_48 i hi)).trans ((f31 i (imp_49 i hi)).trans (f10 i (imp_48 i hi))))))))))), (fun i hi => ((congrFun (f1229 9 (by decide)) i).trans ((congrFun (jnp 9 eσ1225 (by decide)) i).trans ((congrFun (jnp 9 eσ1224 (by decide)) i).trans ((congrFun (jnp 9 eσ1223 (by decide)) i).trans ((f1212 i (imp_50 i hi)).trans ((f1196 i (imp_51 i hi)).trans ((f1180 i (imp_51 i hi)).trans ((f32 i (imp_51 i hi)).trans (f11 i (imp_52 i hi))))))))))), (fun i hi => ((congrFun (f1229 16 (by decide)) i).trans ((jkp i eσ1225 (imp_53 i hi)).trans ((jkp i eσ1224 (imp_54 i hi)).trans ((jkp i eσ1223 (imp_55 i hi)).trans ((congrFun (f1211 16 (by decide)) i).trans ((congrFun (f1195 16 (by decide)) i).trans ((congrFun (f1179 16 (by decide)) i).trans ((congrFun (f31 16 (by decide)) i).trans (congrFun (f10 16 (by decide)) i)))))))))), I1231, I1235, trivial⟩ hP hS dX7_readOrder_179
                      · obtain ⟨q1237, k1236⟩ := h1220
                        refine lv_istore (lv' := [(5, .int r1210), (4, .int 0), (3, .int 8), (2, .int x24), (0, .ref (ad 9)), (1, .ref (ad 16))]) hx hb dX7_readOrder_137 hl (by decide) rfl (fun ls hl => ?_)
                        refine lv_iload hx hb dX7_readOrder_139 (lv_at hl 0 rfl) ?_
                        refine lv_iconst (v := (-1)) hx hb dX7_readOrder_141 (by decide) ?_
                        refine lv_icmp_eq (tgt := 148) hx hb dX7_readOrder_142 (by decide) (fun c => absurd (jeq c rfl jz_m1) (by omega)) (fun c1238 => ?_)
                        have kc1238 := jne c1238 rfl jz_m1
                        refine lv_iload hx hb dX7_readOrder_145 (lv_at hl 0 rfl) ?_
                        have I1239 : jI16 σ1209 := jI16_fr ((congrFun (f1211 16 (by decide)) 0).trans ((congrFun (f1195 16 (by decide)) 0).trans ((congrFun (f1179 16 (by decide)) 0).trans ((congrFun (f31 16 (by decide)) 0).trans (congrFun (f10 16 (by decide)) 0))))) ((congrFun (f1211 16 (by decide)) 1).trans ((congrFun (f1195 16 (by decide)) 1).trans ((congrFun (f1179 16 (by decide)) 1).trans ((congrFun (f31 16 (by decide)) 1).trans (congrFun (f10 16 (by decide)) 1))))) ((congrFun (f1211 16 (by decide)) 2).trans ((congrFun (f1195 16 (by decide)) 2).trans ((congrFun (f1179 16 (by decide)) 2).trans ((congrFun (f31 16 (by decide)) 2).trans (congrFun (f10 16 (by decide)) 2))))) ((f1211 17 (by decide)).trans ((f1195 17 (by decide)).trans ((f1179 17 (by decide)).trans ((f31 17 (by decide)).trans (f10 17 (by decide)))))) hI16
                        exact hret r1210 σ1209 τ _ _ _ _ rfl ⟨rfl, (fun i hi => ((f1211 i (imp_48 i hi)).trans ((f1195 i (imp_48 i hi)).trans ((f1179 i (imp_48 i hi)).trans ((f31 i (imp_49 i hi)).trans (f10 i (imp_48 i hi))))))), (fun i hi => ((f1212 i (imp_50 i hi)).trans ((f1196 i (imp_51 i hi)).trans ((f1180 i (imp_51 i hi)).trans ((f32 i (imp_51 i hi)).trans (f11 i (imp_52 i hi))))))), (fun i hi => ((congrFun (f1211 16 (by decide)) i).trans ((congrFun (f1195 16 (by decide)) i).trans ((congrFun (f1179 16 (by decide)) i).trans ((congrFun (f31 16 (by decide)) i).trans (congrFun (f10 16 (by decide)) i)))))), I1213, I1239, trivial⟩ hP hS dX7_readOrder_147
                    · have kc1208 := jne c1208 rfl jz_0
                      refine lv_aload_n hx hb dX7_readOrder_126 rfl (lv_at hl 3 rfl) ?_
                      refine lv_iconst (v := 3) hx hb dX7_readOrder_127 (by decide) ?_
                      refine jcallV (As := [.int 3]) (rest := []) ⟨hx, hb, hml, hown, hts⟩ hK hP hA hS hZ (c_X7_number_3 l D cI cL ad zz hJ σ1193 τ I1197 I1198 I1199) cw_RX7_53 (jc_9 cI cL ad σ1193 τ) rfl ⟨Nat.le_of_ble_eq_true rfl, Nat.le_of_ble_eq_true rfl⟩ rfl rfl rfl hl.1 rfl (Nat.le_of_ble_eq_true rfl) dX7_readOrder_128 ⟨Nat.zero_le _, Nat.zero_le _⟩ (fun r1241 σ1240 τ1240 H locs h1240 hP hS => ?_)
                      obtain ⟨rfl, f1242, f1243, I1244, I1245, I1246, h1240⟩ := h1240
                      obtain ⟨i1247, w1248, w1249⟩ : (0 ≤ (σ1240 9 0).toInt ∧ (σ1240 9 0).toInt ≤ 80) ∧ (∀ k : Nat, k < 80 → 0 ≤ (σ1240 10 k).toInt ∧ (σ1240 10 k).toInt ≤ 255) ∧ (∀ k : Nat, k < 8 → 0 ≤ (σ1240 11 k).toInt ∧ (σ1240 11 k).toInt ≤ 3) := id I1244
                      obtain ⟨i1250, i1251⟩ : (0 ≤ (σ1240 9 1).toInt) ∧ ((σ1240 9 1).toInt ≤ (σ1240 9 0).toInt) := id I1245
                      have i1252 : (-1) ≤ (σ1240 9 2).toInt := I1246
                      have z1253 : (σ1240 9 0).toInt = (σ 9 0).toInt := (congrArg Int32.toInt (show σ1240 9 0 = (σ 9 0) from ((f1243 0 (by decide)).trans ((f1196 0 (by decide)).trans ((f1180 0 (by decide)).trans ((f32 0 (by decide)).trans (f11 0 (by decide))))))))
                      obtain ⟨k1254, h1240⟩ := h1240
                      have h1255 := h1240
                      obtain ⟨q1257, k1256⟩ := h1255
                      refine lv_istore (lv' := [(4, .int r1241), (3, .int 8), (2, .int x24), (0, .ref (ad 9)), (1, .ref (ad 16))]) hx hb dX7_readOrder_131 hl (by decide) rfl (fun ls hl => ?_)
                      refine lv_aload_n hx hb dX7_readOrder_133 rfl (lv_at hl 3 rfl) ?_
                      refine jcallV (As := []) (rest := []) ⟨hx, hb, hml, hown, hts⟩ hK hP hA hS hZ (c_X7_end_9 l D cI cL ad zz hJ σ1240 τ I1244 I1245 I1246) cw_RX7_57 (jc_9 cI cL ad σ1240 τ) rfl ⟨Nat.le_of_ble_eq_true rfl, Nat.le_of_ble_eq_true rfl⟩ rfl rfl rfl hl.1 rfl (Nat.le_of_ble_eq_true rfl) dX7_readOrder_134 ⟨Nat.zero_le _, Nat.zero_le _⟩ (fun r1259 σ1258 τ1258 H locs h1258 hP hS => ?_)
                      obtain ⟨rfl, f1260, f1261, I1262, I1263, h1258⟩ := h1258
                      obtain ⟨i1264, w1265, w1266⟩ : (0 ≤ (σ1258 9 0).toInt ∧ (σ1258 9 0).toInt ≤ 80) ∧ (∀ k : Nat, k < 80 → 0 ≤ (σ1258 10 k).toInt ∧ (σ1258 10 k).toInt ≤ 255) ∧ (∀ k : Nat, k < 8 → 0 ≤ (σ1258 11 k).toInt ∧ (σ1258 11 k).toInt ≤ 3) := id I1262
                      have i1267 : (-1) ≤ (σ1258 9 2).toInt := I1263
                      rcases h1258 with h1268 | h1269
                      · obtain ⟨q1271, k1270⟩ := h1268
                        have q1271 := q1271.symm
                        subst q1271
                        refine lv_istore (lv' := [(5, .int (-1)), (4, .int r1241), (3, .int 8), (2, .int x24), (0, .ref (ad 9)), (1, .ref (ad 16))]) hx hb dX7_readOrder_137 hl (by decide) rfl (fun ls hl => ?_)
                        refine lv_iload hx hb dX7_readOrder_139 (lv_at hl 0 rfl) ?_
                        refine lv_iconst (v := (-1)) hx hb dX7_readOrder_141 (by decide) ?_
                        refine lv_icmp_eq (tgt := 148) hx hb dX7_readOrder_142 (by decide) (fun _ => ?_) (fun c => absurd (by decide) c)
                        refine lv_aload_n hx hb dX7_readOrder_148 rfl (lv_at hl 5 rfl) ?_
                        refine lv_iload_n hx hb dX7_readOrder_149 rfl (lv_at hl 3 rfl) ?_
                        refine jput (ty := .int) hx hb hts inlX6 tyX6 tyX6_ok nmX6 hown hK hP hJ hA hS (jc_16 cI cL ad σ1258 τ) rfl (k := 0) (by decide) (Nat.le_of_ble_eq_true rfl) (jp_16_0 cI cL ad σ1258 τ x24) (hts _ kw_13_18) (fun _ h9 => h9) rfl (by decide +kernel) rfl rfl dX7_readOrder_150 (fun σ1272 H locs eσ1272 hP hS => ?_)
                        refine lv_aload_n hx hb dX7_readOrder_153 rfl (lv_at hl 5 rfl) ?_
                        refine lv_iload_n hx hb dX7_readOrder_154 rfl (lv_at hl 2 rfl) ?_
                        refine jput (ty := .int) hx hb hts inlX6 tyX6 tyX6_ok nmX6 hown hK hP hJ hA hS (jc_16 cI cL ad σ1272 τ) rfl (k := 1) (by decide) (Nat.le_of_ble_eq_true rfl) (jp_16_1 cI cL ad σ1272 τ 8) (hts _ kw_13_19) (fun _ h9 => h9) rfl (by decide +kernel) rfl rfl dX7_readOrder_155 (fun σ1273 H locs eσ1273 hP hS => ?_)
                        refine lv_aload_n hx hb dX7_readOrder_158 rfl (lv_at hl 5 rfl) ?_
                        refine lv_iload hx hb dX7_readOrder_159 (lv_at hl 1 rfl) ?_
                        refine jput (ty := .int) hx hb hts inlX6 tyX6 tyX6_ok nmX6 hown hK hP hJ hA hS (jc_16 cI cL ad σ1273 τ) rfl (k := 2) (by decide) (Nat.le_of_ble_eq_true rfl) (jp_16_2 cI cL ad σ1273 τ r1241) (hts _ kw_13_20) (fun _ h9 => h9) rfl (by decide +kernel) rfl rfl dX7_readOrder_161 (fun σ1274 H locs eσ1274 hP hS => ?_)
                        refine lv_aload_n hx hb dX7_readOrder_164 rfl (lv_at hl 4 rfl) ?_
                        refine va_get (D := D) hx hb hts inlX7 hown hK hP 9 (jc_9 cI cL ad σ1274 τ) rfl 4 (by decide) (hts _ kw_3_21) (fun _ h9 => h9) rfl dX7_readOrder_165 ?_
                        refine lv_iconst (v := 0) hx hb dX7_readOrder_168 (by decide) ?_
                        refine lv_aload_n hx hb dX7_readOrder_169 rfl (lv_at hl 5 rfl) ?_
                        refine va_get (D := D) hx hb hts inlX6 hown hK hP 16 (jc_16 cI cL ad σ1274 τ) rfl 3 (by decide) (hts _ kw_13_21) (fun _ h9 => h9) rfl dX7_readOrder_170 ?_
                        refine lv_iconst (v := 0) hx hb dX7_readOrder_173 (by decide) ?_
                        refine lv_iload_n hx hb dX7_readOrder_174 rfl (lv_at hl 3 rfl) ?_
                        refine jcpyI (q0 := 11) (q1 := 17) hx hb (hml.trans hl.1.symm) hown (hts _ kw_13_22) (hts _ kw_13_23) (hts _ kw_14_0) (hts _ kw_14_1) hK hP hJ hA hS (jc_11 cI cL ad σ1274 τ) (jc_17 cI cL ad σ1274 τ) (fun _ => rfl) jz_0 jz_0 rfl (by omega) (by omega) (by omega) (by omega) (by omega) (Nat.le_of_ble_eq_true rfl) (Nat.le_of_ble_eq_true rfl) dX7_readOrder_175 (fun σ1275 H locs eσ1275 hP hS => ?_)
                        have w1276 : ∀ k : Nat, k < 8 → 0 ≤ (σ1274 11 k).toInt ∧ (σ1274 11 k).toInt ≤ 3 := (jrr_fr (jnp 11 eσ1274 (by decide)) (jrr_fr (jnp 11 eσ1273 (by decide)) (jrr_fr (jnp 11 eσ1272 (by decide)) w1266)))
                        have w1277 : ∀ k : Nat, k < 8 → 0 ≤ (σ1274 17 k).toInt ∧ (σ1274 17 k).toInt ≤ 3 := (jrr_fr (jnp 17 eσ1274 (by decide)) (jrr_fr (jnp 17 eσ1273 (by decide)) (jrr_fr (jnp 17 eσ1272 (by decide)) (jrr_fr (f1260 17 (by decide)) (jrr_fr (f1242 17 (by decide)) (jrr_fr (f1195 17 (by decide)) (jrr_fr (f1179 17 (by decide)) (jrr_fr (f31 17 (by decide)) (jrr_fr (f10 17 (by decide)) w7)))))))))
                        have f1278 : (∀ i : Nat, (i < 17 ∨ 17 < i) → σ1275 i = σ1274 i) := by rw [eσ1275]; exact jrow_n
                        have w1279 : ∀ k : Nat, k < 8 → 0 ≤ (σ1275 17 k).toInt ∧ (σ1275 17 k).toInt ≤ 3 := by rw [eσ1275]; exact jrow_rr w1276 w1277 jz_0 rfl (n0 := 8) (by omega) (by omega) (by omega)
                        refine lv_iconst (v := (-1)) hx hb dX7_readOrder_178 (by decide) ?_
                        have I1280 : jI9 σ1275 := jI9_fr ((congrFun (f1278 9 (by decide)) 0).trans ((congrFun (jnp 9 eσ1274 (by decide)) 0).trans ((congrFun (jnp 9 eσ1273 (by decide)) 0).trans (congrFun (jnp 9 eσ1272 (by decide)) 0)))) ((f1278 10 (by decide)).trans ((jnp 10 eσ1274 (by decide)).trans ((jnp 10 eσ1273 (by decide)).trans (jnp 10 eσ1272 (by decide))))) ((f1278 11 (by decide)).trans ((jnp 11 eσ1274 (by decide)).trans ((jnp 11 eσ1273 (by decide)).trans (jnp 11 eσ1272 (by decide))))) I1262
                        have z1281 : (σ1275 16 0).toInt = x24.toInt := (congrArg Int32.toInt (show σ1275 16 0 = x24 from ((congrFun (f1278 16 (by decide)) 0).trans ((jkp 0 eσ1274 (by decide)).trans ((jkp 0 eσ1273 (by decide)).trans (jsp eσ1272))))))
                        have z1282 : (σ1275 16 1).toInt = 8 := ((congrArg Int32.toInt (show σ1275 16 1 = 8 from ((congrFun (f1278 16 (by decide)) 1).trans ((jkp 1 eσ1274 (by decide)).trans (jsp eσ1273))))).trans jz_8)
                        have z1283 : (σ1275 16 2).toInt = r1241.toInt := (congrArg Int32.toInt (show σ1275 16 2 = r1241 from ((congrFun (f1278 16 (by decide)) 2).trans (jsp eσ1274))))
                        have I1284 : jI16 σ1275 := ⟨(by omega), (by omega), (by omega), w1279⟩
                        exact hret (-1) σ1275 τ _ _ _ _ rfl ⟨rfl, (fun i hi => ((f1278 i (imp_46 i hi)).trans ((jnp i eσ1274 (imp_47 i hi)).trans ((jnp i eσ1273 (imp_47 i hi)).trans ((jnp i eσ1272 (imp_47 i hi)).trans ((f1260 i (imp_48 i hi)).trans ((f1242 i (imp_48 i hi)).trans ((f1195 i (imp_48 i hi)).trans ((f1179 i (imp_48 i hi)).trans ((f31 i (imp_49 i hi)).trans (f10 i (imp_48 i hi)))))))))))), (fun i hi => ((congrFun (f1278 9 (by decide)) i).trans ((congrFun (jnp 9 eσ1274 (by decide)) i).trans ((congrFun (jnp 9 eσ1273 (by decide)) i).trans ((congrFun (jnp 9 eσ1272 (by decide)) i).trans ((f1261 i (imp_50 i hi)).trans ((f1243 i (imp_52 i hi)).trans ((f1196 i (imp_51 i hi)).trans ((f1180 i (imp_51 i hi)).trans ((f32 i (imp_51 i hi)).trans (f11 i (imp_52 i hi)))))))))))), (fun i hi => ((congrFun (f1278 16 (by decide)) i).trans ((jkp i eσ1274 (imp_53 i hi)).trans ((jkp i eσ1273 (imp_54 i hi)).trans ((jkp i eσ1272 (imp_55 i hi)).trans ((congrFun (f1260 16 (by decide)) i).trans ((congrFun (f1242 16 (by decide)) i).trans ((congrFun (f1195 16 (by decide)) i).trans ((congrFun (f1179 16 (by decide)) i).trans ((congrFun (f31 16 (by decide)) i).trans (congrFun (f10 16 (by decide)) i))))))))))), I1280, I1284, trivial⟩ hP hS dX7_readOrder_179
                      · obtain ⟨q1286, k1285⟩ := h1269
                        refine lv_istore (lv' := [(5, .int r1259), (4, .int r1241), (3, .int 8), (2, .int x24), (0, .ref (ad 9)), (1, .ref (ad 16))]) hx hb dX7_readOrder_137 hl (by decide) rfl (fun ls hl => ?_)
                        refine lv_iload hx hb dX7_readOrder_139 (lv_at hl 0 rfl) ?_
                        refine lv_iconst (v := (-1)) hx hb dX7_readOrder_141 (by decide) ?_
                        refine lv_icmp_eq (tgt := 148) hx hb dX7_readOrder_142 (by decide) (fun c => absurd (jeq c rfl jz_m1) (by omega)) (fun c1287 => ?_)
                        have kc1287 := jne c1287 rfl jz_m1
                        refine lv_iload hx hb dX7_readOrder_145 (lv_at hl 0 rfl) ?_
                        have I1288 : jI16 σ1258 := jI16_fr ((congrFun (f1260 16 (by decide)) 0).trans ((congrFun (f1242 16 (by decide)) 0).trans ((congrFun (f1195 16 (by decide)) 0).trans ((congrFun (f1179 16 (by decide)) 0).trans ((congrFun (f31 16 (by decide)) 0).trans (congrFun (f10 16 (by decide)) 0)))))) ((congrFun (f1260 16 (by decide)) 1).trans ((congrFun (f1242 16 (by decide)) 1).trans ((congrFun (f1195 16 (by decide)) 1).trans ((congrFun (f1179 16 (by decide)) 1).trans ((congrFun (f31 16 (by decide)) 1).trans (congrFun (f10 16 (by decide)) 1)))))) ((congrFun (f1260 16 (by decide)) 2).trans ((congrFun (f1242 16 (by decide)) 2).trans ((congrFun (f1195 16 (by decide)) 2).trans ((congrFun (f1179 16 (by decide)) 2).trans ((congrFun (f31 16 (by decide)) 2).trans (congrFun (f10 16 (by decide)) 2)))))) ((f1260 17 (by decide)).trans ((f1242 17 (by decide)).trans ((f1195 17 (by decide)).trans ((f1179 17 (by decide)).trans ((f31 17 (by decide)).trans (f10 17 (by decide))))))) hI16
                        exact hret r1259 σ1258 τ _ _ _ _ rfl ⟨rfl, (fun i hi => ((f1260 i (imp_48 i hi)).trans ((f1242 i (imp_48 i hi)).trans ((f1195 i (imp_48 i hi)).trans ((f1179 i (imp_48 i hi)).trans ((f31 i (imp_49 i hi)).trans (f10 i (imp_48 i hi)))))))), (fun i hi => ((f1261 i (imp_50 i hi)).trans ((f1243 i (imp_52 i hi)).trans ((f1196 i (imp_51 i hi)).trans ((f1180 i (imp_51 i hi)).trans ((f32 i (imp_51 i hi)).trans (f11 i (imp_52 i hi)))))))), (fun i hi => ((congrFun (f1260 16 (by decide)) i).trans ((congrFun (f1242 16 (by decide)) i).trans ((congrFun (f1195 16 (by decide)) i).trans ((congrFun (f1179 16 (by decide)) i).trans ((congrFun (f31 16 (by decide)) i).trans (congrFun (f10 16 (by decide)) i))))))), I1262, I1288, trivial⟩ hP hS dX7_readOrder_147
                  · have kc1192 := jne c1192 rfl jz_0
                    refine lv_aload_n hx hb dX7_readOrder_88 rfl (lv_at hl 3 rfl) ?_
                    refine va_get (D := D) hx hb hts inlX7 hown hK hP 9 (jc_9 cI cL ad σ1177 τ) rfl 1 (by decide) (hts _ kw_13_17) (fun _ h9 => h9) rfl dX7_readOrder_89 ?_
                    refine lv_istore (lv' := [(5, .int (σ1177 9 1)), (4, .int 0), (3, .int 8), (2, .int x24), (0, .ref (ad 9)), (1, .ref (ad 16))]) hx hb dX7_readOrder_92 hl (by decide) rfl (fun ls hl => ?_)
                    refine lv_aload_n hx hb dX7_readOrder_94 rfl (lv_at hl 4 rfl) ?_
                    refine lv_iconst (v := 2) hx hb dX7_readOrder_95 (by decide) ?_
                    refine jcallV (As := [.int 2]) (rest := []) ⟨hx, hb, hml, hown, hts⟩ hK hP hA hS hZ (c_X7_number_2 l D cI cL ad zz hJ σ1177 τ I1181 I1182 I1183) cw_RX7_53 (jc_9 cI cL ad σ1177 τ) rfl ⟨Nat.le_of_ble_eq_true rfl, Nat.le_of_ble_eq_true rfl⟩ rfl rfl rfl hl.1 rfl (Nat.le_of_ble_eq_true rfl) dX7_readOrder_96 ⟨Nat.zero_le _, Nat.zero_le _⟩ (fun r1290 σ1289 τ1289 H locs h1289 hP hS => ?_)
                    obtain ⟨rfl, f1291, f1292, I1293, I1294, I1295, h1289⟩ := h1289
                    obtain ⟨i1296, w1297, w1298⟩ : (0 ≤ (σ1289 9 0).toInt ∧ (σ1289 9 0).toInt ≤ 80) ∧ (∀ k : Nat, k < 80 → 0 ≤ (σ1289 10 k).toInt ∧ (σ1289 10 k).toInt ≤ 255) ∧ (∀ k : Nat, k < 8 → 0 ≤ (σ1289 11 k).toInt ∧ (σ1289 11 k).toInt ≤ 3) := id I1293
                    obtain ⟨i1299, i1300⟩ : (0 ≤ (σ1289 9 1).toInt) ∧ ((σ1289 9 1).toInt ≤ (σ1289 9 0).toInt) := id I1294
                    have i1301 : (-1) ≤ (σ1289 9 2).toInt := I1295
                    have z1302 : (σ1289 9 0).toInt = (σ 9 0).toInt := (congrArg Int32.toInt (show σ1289 9 0 = (σ 9 0) from ((f1292 0 (by decide)).trans ((f1180 0 (by decide)).trans ((f32 0 (by decide)).trans (f11 0 (by decide)))))))
                    obtain ⟨k1303, h1289⟩ := h1289
                    have h1304 := h1289
                    obtain ⟨q1306, k1305⟩ := h1304
                    refine lv_istore_n (lv' := [(3, .int r1290), (5, .int (σ1177 9 1)), (4, .int 0), (2, .int x24), (0, .ref (ad 9)), (1, .ref (ad 16))]) hx hb dX7_readOrder_99 rfl hl (by decide) rfl (fun ls hl => ?_)
                    refine lv_iload_n hx hb dX7_readOrder_100 rfl (lv_at hl 0 rfl) ?_
                    refine lv_iconst (v := 1) hx hb dX7_readOrder_101 (by decide) ?_
                    refine lv_icmp_lt (tgt := 111) hx hb dX7_readOrder_102 (by decide) (fun c1307 => ?_) (fun c1307 => ?_)
                    · have kc1307 := jlt c1307 rfl jz_1
                      refine lv_aload_n hx hb dX7_readOrder_111 rfl (lv_at hl 4 rfl) ?_
                      refine lv_iload hx hb dX7_readOrder_112 (lv_at hl 1 rfl) ?_
                      refine jcallVv (As := [.int (σ1177 9 1)]) (rest := []) ⟨hx, hb, hml, hown, hts⟩ hK hP hA hS hZ (c_X7_fail_9 l D cI cL ad zz hJ σ1289 τ (σ1177 9 1) ((σ1177 9 1).toInt) rfl I1295 (by omega)) cw_RX7_43 (jc_9 cI cL ad σ1289 τ) rfl ⟨Nat.le_of_ble_eq_true rfl, Nat.le_of_ble_eq_true rfl⟩ rfl rfl rfl hl.1 rfl (Nat.le_of_ble_eq_true rfl) dX7_readOrder_114 ⟨Nat.zero_le _, Nat.zero_le _⟩ (fun σ1308 τ1308 H locs h1308 hP hS => ?_)
                      obtain ⟨rfl, f1310, f1311, h1308⟩ := h1308
                      obtain ⟨k1312, h1308⟩ := h1308
                      refine lv_aload_n hx hb dX7_readOrder_117 rfl (lv_at hl 4 rfl) ?_
                      refine lv_bipush (v := 114) hx hb dX7_readOrder_118 (by decide) ?_
                      have I1313 : jI9 σ1308 := jI9_fr (f1311 0 (by decide)) (f1310 10 (by decide)) (f1310 11 (by decide)) I1293
                      have I1314 : jI91 σ1308 := jI91_fr (f1311 0 (by decide)) (f1311 1 (by decide)) I1294
                      have I1315 : jI92 σ1308 := (show (-1) ≤ (σ1308 9 2).toInt by omega)
                      refine jcallV (As := [.int 114]) (rest := []) ⟨hx, hb, hml, hown, hts⟩ hK hP hA hS hZ (c_X7_skip_9 l D cI cL ad zz hJ σ1308 τ 114 (114) jz_114 I1313 I1314 I1315 (by omega)) cw_RX7_50 (jc_9 cI cL ad σ1308 τ) rfl ⟨Nat.le_of_ble_eq_true rfl, Nat.le_of_ble_eq_true rfl⟩ rfl rfl rfl hl.1 rfl (Nat.le_of_ble_eq_true rfl) dX7_readOrder_120 ⟨Nat.zero_le _, Nat.zero_le _⟩ (fun r1317 σ1316 τ1316 H locs h1316 hP hS => ?_)
                      obtain ⟨rfl, f1318, f1319, I1320, I1321, I1322, h1316⟩ := h1316
                      obtain ⟨i1323, w1324, w1325⟩ : (0 ≤ (σ1316 9 0).toInt ∧ (σ1316 9 0).toInt ≤ 80) ∧ (∀ k : Nat, k < 80 → 0 ≤ (σ1316 10 k).toInt ∧ (σ1316 10 k).toInt ≤ 255) ∧ (∀ k : Nat, k < 8 → 0 ≤ (σ1316 11 k).toInt ∧ (σ1316 11 k).toInt ≤ 3) := id I1320
                      obtain ⟨i1326, i1327⟩ : (0 ≤ (σ1316 9 1).toInt) ∧ ((σ1316 9 1).toInt ≤ (σ1316 9 0).toInt) := id I1321
                      have i1328 : (-1) ≤ (σ1316 9 2).toInt := I1322
                      have z1329 : (σ1316 9 0).toInt = (σ 9 0).toInt := (congrArg Int32.toInt (show σ1316 9 0 = (σ 9 0) from ((f1319 0 (by decide)).trans ((f1311 0 (by decide)).trans ((f1292 0 (by decide)).trans ((f1180 0 (by decide)).trans ((f32 0 (by decide)).trans (f11 0 (by decide)))))))))
                      have z1330 : (σ1316 9 2).toInt = (σ1308 9 2).toInt := (congrArg Int32.toInt (show σ1316 9 2 = (σ1308 9 2) from (f1319 2 (by decide))))
                      refine lv_if_eq (tgt := 133) hx hb dX7_readOrder_123 (by decide) (fun c1331 => ?_) (fun c1331 => ?_)
                      · have kc1331 := jeq c1331 rfl jz_0
                        refine lv_aload_n hx hb dX7_readOrder_133 rfl (lv_at hl 4 rfl) ?_
                        refine jcallV (As := []) (rest := []) ⟨hx, hb, hml, hown, hts⟩ hK hP hA hS hZ (c_X7_end_9 l D cI cL ad zz hJ σ1316 τ I1320 I1321 I1322) cw_RX7_57 (jc_9 cI cL ad σ1316 τ) rfl ⟨Nat.le_of_ble_eq_true rfl, Nat.le_of_ble_eq_true rfl⟩ rfl rfl rfl hl.1 rfl (Nat.le_of_ble_eq_true rfl) dX7_readOrder_134 ⟨Nat.zero_le _, Nat.zero_le _⟩ (fun r1333 σ1332 τ1332 H locs h1332 hP hS => ?_)
                        obtain ⟨rfl, f1334, f1335, I1336, I1337, h1332⟩ := h1332
                        obtain ⟨i1338, w1339, w1340⟩ : (0 ≤ (σ1332 9 0).toInt ∧ (σ1332 9 0).toInt ≤ 80) ∧ (∀ k : Nat, k < 80 → 0 ≤ (σ1332 10 k).toInt ∧ (σ1332 10 k).toInt ≤ 255) ∧ (∀ k : Nat, k < 8 → 0 ≤ (σ1332 11 k).toInt ∧ (σ1332 11 k).toInt ≤ 3) := id I1336
                        have i1341 : (-1) ≤ (σ1332 9 2).toInt := I1337
                        rcases h1332 with h1342 | h1343
                        · obtain ⟨q1345, k1344⟩ := h1342
                          exact absurd (by omega : False) id
                        · obtain ⟨q1347, k1346⟩ := h1343
                          refine lv_istore (lv' := [(5, .int r1333), (3, .int r1290), (4, .int 0), (2, .int x24), (0, .ref (ad 9)), (1, .ref (ad 16))]) hx hb dX7_readOrder_137 hl (by decide) rfl (fun ls hl => ?_)
                          refine lv_iload hx hb dX7_readOrder_139 (lv_at hl 0 rfl) ?_
                          refine lv_iconst (v := (-1)) hx hb dX7_readOrder_141 (by decide) ?_
                          refine lv_icmp_eq (tgt := 148) hx hb dX7_readOrder_142 (by decide) (fun c => absurd (jeq c rfl jz_m1) (by omega)) (fun c1348 => ?_)
                          have kc1348 := jne c1348 rfl jz_m1
                          refine lv_iload hx hb dX7_readOrder_145 (lv_at hl 0 rfl) ?_
                          have I1349 : jI16 σ1332 := jI16_fr ((congrFun (f1334 16 (by decide)) 0).trans ((congrFun (f1318 16 (by decide)) 0).trans ((congrFun (f1310 16 (by decide)) 0).trans ((congrFun (f1291 16 (by decide)) 0).trans ((congrFun (f1179 16 (by decide)) 0).trans ((congrFun (f31 16 (by decide)) 0).trans (congrFun (f10 16 (by decide)) 0))))))) ((congrFun (f1334 16 (by decide)) 1).trans ((congrFun (f1318 16 (by decide)) 1).trans ((congrFun (f1310 16 (by decide)) 1).trans ((congrFun (f1291 16 (by decide)) 1).trans ((congrFun (f1179 16 (by decide)) 1).trans ((congrFun (f31 16 (by decide)) 1).trans (congrFun (f10 16 (by decide)) 1))))))) ((congrFun (f1334 16 (by decide)) 2).trans ((congrFun (f1318 16 (by decide)) 2).trans ((congrFun (f1310 16 (by decide)) 2).trans ((congrFun (f1291 16 (by decide)) 2).trans ((congrFun (f1179 16 (by decide)) 2).trans ((congrFun (f31 16 (by decide)) 2).trans (congrFun (f10 16 (by decide)) 2))))))) ((f1334 17 (by decide)).trans ((f1318 17 (by decide)).trans ((f1310 17 (by decide)).trans ((f1291 17 (by decide)).trans ((f1179 17 (by decide)).trans ((f31 17 (by decide)).trans (f10 17 (by decide)))))))) hI16
                          exact hret r1333 σ1332 τ _ _ _ _ rfl ⟨rfl, (fun i hi => ((f1334 i (imp_48 i hi)).trans ((f1318 i (imp_48 i hi)).trans ((f1310 i (imp_48 i hi)).trans ((f1291 i (imp_48 i hi)).trans ((f1179 i (imp_48 i hi)).trans ((f31 i (imp_49 i hi)).trans (f10 i (imp_48 i hi))))))))), (fun i hi => ((f1335 i (imp_50 i hi)).trans ((f1319 i (imp_51 i hi)).trans ((f1311 i (imp_56 i hi)).trans ((f1292 i (imp_52 i hi)).trans ((f1180 i (imp_51 i hi)).trans ((f32 i (imp_51 i hi)).trans (f11 i (imp_52 i hi))))))))), (fun i hi => ((congrFun (f1334 16 (by decide)) i).trans ((congrFun (f1318 16 (by decide)) i).trans ((congrFun (f1310 16 (by decide)) i).trans ((congrFun (f1291 16 (by decide)) i).trans ((congrFun (f1179 16 (by decide)) i).trans ((congrFun (f31 16 (by decide)) i).trans (congrFun (f10 16 (by decide)) i)))))))), I1336, I1349, trivial⟩ hP hS dX7_readOrder_147
                      · have kc1331 := jne c1331 rfl jz_0
                        refine lv_aload_n hx hb dX7_readOrder_126 rfl (lv_at hl 4 rfl) ?_
                        refine lv_iconst (v := 3) hx hb dX7_readOrder_127 (by decide) ?_
                        refine jcallV (As := [.int 3]) (rest := []) ⟨hx, hb, hml, hown, hts⟩ hK hP hA hS hZ (c_X7_number_3 l D cI cL ad zz hJ σ1316 τ I1320 I1321 I1322) cw_RX7_53 (jc_9 cI cL ad σ1316 τ) rfl ⟨Nat.le_of_ble_eq_true rfl, Nat.le_of_ble_eq_true rfl⟩ rfl rfl rfl hl.1 rfl (Nat.le_of_ble_eq_true rfl) dX7_readOrder_128 ⟨Nat.zero_le _, Nat.zero_le _⟩ (fun r1351 σ1350 τ1350 H locs h1350 hP hS => ?_)
                        obtain ⟨rfl, f1352, f1353, I1354, I1355, I1356, h1350⟩ := h1350
                        obtain ⟨i1357, w1358, w1359⟩ : (0 ≤ (σ1350 9 0).toInt ∧ (σ1350 9 0).toInt ≤ 80) ∧ (∀ k : Nat, k < 80 → 0 ≤ (σ1350 10 k).toInt ∧ (σ1350 10 k).toInt ≤ 255) ∧ (∀ k : Nat, k < 8 → 0 ≤ (σ1350 11 k).toInt ∧ (σ1350 11 k).toInt ≤ 3) := id I1354
                        obtain ⟨i1360, i1361⟩ : (0 ≤ (σ1350 9 1).toInt) ∧ ((σ1350 9 1).toInt ≤ (σ1350 9 0).toInt) := id I1355
                        have i1362 : (-1) ≤ (σ1350 9 2).toInt := I1356
                        have z1363 : (σ1350 9 0).toInt = (σ 9 0).toInt := (congrArg Int32.toInt (show σ1350 9 0 = (σ 9 0) from ((f1353 0 (by decide)).trans ((f1319 0 (by decide)).trans ((f1311 0 (by decide)).trans ((f1292 0 (by decide)).trans ((f1180 0 (by decide)).trans ((f32 0 (by decide)).trans (f11 0 (by decide))))))))))
                        obtain ⟨k1364, h1350⟩ := h1350
                        have h1365 := h1350
                        obtain ⟨q1367, k1366⟩ := h1365
                        refine lv_istore (lv' := [(4, .int r1351), (3, .int r1290), (5, .int (σ1177 9 1)), (2, .int x24), (0, .ref (ad 9)), (1, .ref (ad 16))]) hx hb dX7_readOrder_131 hl (by decide) rfl (fun ls hl => ?_)
                        refine lv_aload_n hx hb dX7_readOrder_133 rfl (lv_at hl 4 rfl) ?_
                        refine jcallV (As := []) (rest := []) ⟨hx, hb, hml, hown, hts⟩ hK hP hA hS hZ (c_X7_end_9 l D cI cL ad zz hJ σ1350 τ I1354 I1355 I1356) cw_RX7_57 (jc_9 cI cL ad σ1350 τ) rfl ⟨Nat.le_of_ble_eq_true rfl, Nat.le_of_ble_eq_true rfl⟩ rfl rfl rfl hl.1 rfl (Nat.le_of_ble_eq_true rfl) dX7_readOrder_134 ⟨Nat.zero_le _, Nat.zero_le _⟩ (fun r1369 σ1368 τ1368 H locs h1368 hP hS => ?_)
                        obtain ⟨rfl, f1370, f1371, I1372, I1373, h1368⟩ := h1368
                        obtain ⟨i1374, w1375, w1376⟩ : (0 ≤ (σ1368 9 0).toInt ∧ (σ1368 9 0).toInt ≤ 80) ∧ (∀ k : Nat, k < 80 → 0 ≤ (σ1368 10 k).toInt ∧ (σ1368 10 k).toInt ≤ 255) ∧ (∀ k : Nat, k < 8 → 0 ≤ (σ1368 11 k).toInt ∧ (σ1368 11 k).toInt ≤ 3) := id I1372
                        have i1377 : (-1) ≤ (σ1368 9 2).toInt := I1373
                        rcases h1368 with h1378 | h1379
                        · obtain ⟨q1381, k1380⟩ := h1378
                          exact absurd (by omega : False) id
                        · obtain ⟨q1383, k1382⟩ := h1379
                          refine lv_istore (lv' := [(5, .int r1369), (4, .int r1351), (3, .int r1290), (2, .int x24), (0, .ref (ad 9)), (1, .ref (ad 16))]) hx hb dX7_readOrder_137 hl (by decide) rfl (fun ls hl => ?_)
                          refine lv_iload hx hb dX7_readOrder_139 (lv_at hl 0 rfl) ?_
                          refine lv_iconst (v := (-1)) hx hb dX7_readOrder_141 (by decide) ?_
                          refine lv_icmp_eq (tgt := 148) hx hb dX7_readOrder_142 (by decide) (fun c => absurd (jeq c rfl jz_m1) (by omega)) (fun c1384 => ?_)
                          have kc1384 := jne c1384 rfl jz_m1
                          refine lv_iload hx hb dX7_readOrder_145 (lv_at hl 0 rfl) ?_
                          have I1385 : jI16 σ1368 := jI16_fr ((congrFun (f1370 16 (by decide)) 0).trans ((congrFun (f1352 16 (by decide)) 0).trans ((congrFun (f1318 16 (by decide)) 0).trans ((congrFun (f1310 16 (by decide)) 0).trans ((congrFun (f1291 16 (by decide)) 0).trans ((congrFun (f1179 16 (by decide)) 0).trans ((congrFun (f31 16 (by decide)) 0).trans (congrFun (f10 16 (by decide)) 0)))))))) ((congrFun (f1370 16 (by decide)) 1).trans ((congrFun (f1352 16 (by decide)) 1).trans ((congrFun (f1318 16 (by decide)) 1).trans ((congrFun (f1310 16 (by decide)) 1).trans ((congrFun (f1291 16 (by decide)) 1).trans ((congrFun (f1179 16 (by decide)) 1).trans ((congrFun (f31 16 (by decide)) 1).trans (congrFun (f10 16 (by decide)) 1)))))))) ((congrFun (f1370 16 (by decide)) 2).trans ((congrFun (f1352 16 (by decide)) 2).trans ((congrFun (f1318 16 (by decide)) 2).trans ((congrFun (f1310 16 (by decide)) 2).trans ((congrFun (f1291 16 (by decide)) 2).trans ((congrFun (f1179 16 (by decide)) 2).trans ((congrFun (f31 16 (by decide)) 2).trans (congrFun (f10 16 (by decide)) 2)))))))) ((f1370 17 (by decide)).trans ((f1352 17 (by decide)).trans ((f1318 17 (by decide)).trans ((f1310 17 (by decide)).trans ((f1291 17 (by decide)).trans ((f1179 17 (by decide)).trans ((f31 17 (by decide)).trans (f10 17 (by decide))))))))) hI16
                          exact hret r1369 σ1368 τ _ _ _ _ rfl ⟨rfl, (fun i hi => ((f1370 i (imp_48 i hi)).trans ((f1352 i (imp_48 i hi)).trans ((f1318 i (imp_48 i hi)).trans ((f1310 i (imp_48 i hi)).trans ((f1291 i (imp_48 i hi)).trans ((f1179 i (imp_48 i hi)).trans ((f31 i (imp_49 i hi)).trans (f10 i (imp_48 i hi)))))))))), (fun i hi => ((f1371 i (imp_50 i hi)).trans ((f1353 i (imp_52 i hi)).trans ((f1319 i (imp_51 i hi)).trans ((f1311 i (imp_56 i hi)).trans ((f1292 i (imp_52 i hi)).trans ((f1180 i (imp_51 i hi)).trans ((f32 i (imp_51 i hi)).trans (f11 i (imp_52 i hi)))))))))), (fun i hi => ((congrFun (f1370 16 (by decide)) i).trans ((congrFun (f1352 16 (by decide)) i).trans ((congrFun (f1318 16 (by decide)) i).trans ((congrFun (f1310 16 (by decide)) i).trans ((congrFun (f1291 16 (by decide)) i).trans ((congrFun (f1179 16 (by decide)) i).trans ((congrFun (f31 16 (by decide)) i).trans (congrFun (f10 16 (by decide)) i))))))))), I1372, I1385, trivial⟩ hP hS dX7_readOrder_147
                    · have kc1307 := jnlt c1307 rfl jz_1
                      refine lv_iload_n hx hb dX7_readOrder_105 rfl (lv_at hl 0 rfl) ?_
                      refine lv_bipush (v := 12) hx hb dX7_readOrder_106 (by decide) ?_
                      refine lv_icmp_le (tgt := 117) hx hb dX7_readOrder_108 (by decide) (fun c1386 => ?_) (fun c1386 => ?_)
                      · have kc1386 := jle c1386 rfl jz_12
                        refine lv_aload_n hx hb dX7_readOrder_117 rfl (lv_at hl 4 rfl) ?_
                        refine lv_bipush (v := 114) hx hb dX7_readOrder_118 (by decide) ?_
                        refine jcallV (As := [.int 114]) (rest := []) ⟨hx, hb, hml, hown, hts⟩ hK hP hA hS hZ (c_X7_skip_9 l D cI cL ad zz hJ σ1289 τ 114 (114) jz_114 I1293 I1294 I1295 (by omega)) cw_RX7_50 (jc_9 cI cL ad σ1289 τ) rfl ⟨Nat.le_of_ble_eq_true rfl, Nat.le_of_ble_eq_true rfl⟩ rfl rfl rfl hl.1 rfl (Nat.le_of_ble_eq_true rfl) dX7_readOrder_120 ⟨Nat.zero_le _, Nat.zero_le _⟩ (fun r1388 σ1387 τ1387 H locs h1387 hP hS => ?_)
                        obtain ⟨rfl, f1389, f1390, I1391, I1392, I1393, h1387⟩ := h1387
                        obtain ⟨i1394, w1395, w1396⟩ : (0 ≤ (σ1387 9 0).toInt ∧ (σ1387 9 0).toInt ≤ 80) ∧ (∀ k : Nat, k < 80 → 0 ≤ (σ1387 10 k).toInt ∧ (σ1387 10 k).toInt ≤ 255) ∧ (∀ k : Nat, k < 8 → 0 ≤ (σ1387 11 k).toInt ∧ (σ1387 11 k).toInt ≤ 3) := id I1391
                        obtain ⟨i1397, i1398⟩ : (0 ≤ (σ1387 9 1).toInt) ∧ ((σ1387 9 1).toInt ≤ (σ1387 9 0).toInt) := id I1392
                        have i1399 : (-1) ≤ (σ1387 9 2).toInt := I1393
                        have z1400 : (σ1387 9 0).toInt = (σ 9 0).toInt := (congrArg Int32.toInt (show σ1387 9 0 = (σ 9 0) from ((f1390 0 (by decide)).trans ((f1292 0 (by decide)).trans ((f1180 0 (by decide)).trans ((f32 0 (by decide)).trans (f11 0 (by decide))))))))
                        have z1401 : (σ1387 9 2).toInt = (σ1289 9 2).toInt := (congrArg Int32.toInt (show σ1387 9 2 = (σ1289 9 2) from (f1390 2 (by decide))))
                        refine lv_if_eq (tgt := 133) hx hb dX7_readOrder_123 (by decide) (fun c1402 => ?_) (fun c1402 => ?_)
                        · have kc1402 := jeq c1402 rfl jz_0
                          refine lv_aload_n hx hb dX7_readOrder_133 rfl (lv_at hl 4 rfl) ?_
                          refine jcallV (As := []) (rest := []) ⟨hx, hb, hml, hown, hts⟩ hK hP hA hS hZ (c_X7_end_9 l D cI cL ad zz hJ σ1387 τ I1391 I1392 I1393) cw_RX7_57 (jc_9 cI cL ad σ1387 τ) rfl ⟨Nat.le_of_ble_eq_true rfl, Nat.le_of_ble_eq_true rfl⟩ rfl rfl rfl hl.1 rfl (Nat.le_of_ble_eq_true rfl) dX7_readOrder_134 ⟨Nat.zero_le _, Nat.zero_le _⟩ (fun r1404 σ1403 τ1403 H locs h1403 hP hS => ?_)
                          obtain ⟨rfl, f1405, f1406, I1407, I1408, h1403⟩ := h1403
                          obtain ⟨i1409, w1410, w1411⟩ : (0 ≤ (σ1403 9 0).toInt ∧ (σ1403 9 0).toInt ≤ 80) ∧ (∀ k : Nat, k < 80 → 0 ≤ (σ1403 10 k).toInt ∧ (σ1403 10 k).toInt ≤ 255) ∧ (∀ k : Nat, k < 8 → 0 ≤ (σ1403 11 k).toInt ∧ (σ1403 11 k).toInt ≤ 3) := id I1407
                          have i1412 : (-1) ≤ (σ1403 9 2).toInt := I1408
                          rcases h1403 with h1413 | h1414
                          · obtain ⟨q1416, k1415⟩ := h1413
                            have q1416 := q1416.symm
                            subst q1416
                            refine lv_istore (lv' := [(5, .int (-1)), (3, .int r1290), (4, .int 0), (2, .int x24), (0, .ref (ad 9)), (1, .ref (ad 16))]) hx hb dX7_readOrder_137 hl (by decide) rfl (fun ls hl => ?_)
                            refine lv_iload hx hb dX7_readOrder_139 (lv_at hl 0 rfl) ?_
                            refine lv_iconst (v := (-1)) hx hb dX7_readOrder_141 (by decide) ?_
                            refine lv_icmp_eq (tgt := 148) hx hb dX7_readOrder_142 (by decide) (fun _ => ?_) (fun c => absurd (by decide) c)
                            refine lv_aload_n hx hb dX7_readOrder_148 rfl (lv_at hl 5 rfl) ?_
                            refine lv_iload_n hx hb dX7_readOrder_149 rfl (lv_at hl 3 rfl) ?_
                            refine jput (ty := .int) hx hb hts inlX6 tyX6 tyX6_ok nmX6 hown hK hP hJ hA hS (jc_16 cI cL ad σ1403 τ) rfl (k := 0) (by decide) (Nat.le_of_ble_eq_true rfl) (jp_16_0 cI cL ad σ1403 τ x24) (hts _ kw_13_18) (fun _ h9 => h9) rfl (by decide +kernel) rfl rfl dX7_readOrder_150 (fun σ1417 H locs eσ1417 hP hS => ?_)
                            refine lv_aload_n hx hb dX7_readOrder_153 rfl (lv_at hl 5 rfl) ?_
                            refine lv_iload_n hx hb dX7_readOrder_154 rfl (lv_at hl 1 rfl) ?_
                            refine jput (ty := .int) hx hb hts inlX6 tyX6 tyX6_ok nmX6 hown hK hP hJ hA hS (jc_16 cI cL ad σ1417 τ) rfl (k := 1) (by decide) (Nat.le_of_ble_eq_true rfl) (jp_16_1 cI cL ad σ1417 τ r1290) (hts _ kw_13_19) (fun _ h9 => h9) rfl (by decide +kernel) rfl rfl dX7_readOrder_155 (fun σ1418 H locs eσ1418 hP hS => ?_)
                            refine lv_aload_n hx hb dX7_readOrder_158 rfl (lv_at hl 5 rfl) ?_
                            refine lv_iload hx hb dX7_readOrder_159 (lv_at hl 2 rfl) ?_
                            refine jput (ty := .int) hx hb hts inlX6 tyX6 tyX6_ok nmX6 hown hK hP hJ hA hS (jc_16 cI cL ad σ1418 τ) rfl (k := 2) (by decide) (Nat.le_of_ble_eq_true rfl) (jp_16_2 cI cL ad σ1418 τ 0) (hts _ kw_13_20) (fun _ h9 => h9) rfl (by decide +kernel) rfl rfl dX7_readOrder_161 (fun σ1419 H locs eσ1419 hP hS => ?_)
                            refine lv_aload_n hx hb dX7_readOrder_164 rfl (lv_at hl 4 rfl) ?_
                            refine va_get (D := D) hx hb hts inlX7 hown hK hP 9 (jc_9 cI cL ad σ1419 τ) rfl 4 (by decide) (hts _ kw_3_21) (fun _ h9 => h9) rfl dX7_readOrder_165 ?_
                            refine lv_iconst (v := 0) hx hb dX7_readOrder_168 (by decide) ?_
                            refine lv_aload_n hx hb dX7_readOrder_169 rfl (lv_at hl 5 rfl) ?_
                            refine va_get (D := D) hx hb hts inlX6 hown hK hP 16 (jc_16 cI cL ad σ1419 τ) rfl 3 (by decide) (hts _ kw_13_21) (fun _ h9 => h9) rfl dX7_readOrder_170 ?_
                            refine lv_iconst (v := 0) hx hb dX7_readOrder_173 (by decide) ?_
                            refine lv_iload_n hx hb dX7_readOrder_174 rfl (lv_at hl 3 rfl) ?_
                            refine jcpyI (q0 := 11) (q1 := 17) hx hb (hml.trans hl.1.symm) hown (hts _ kw_13_22) (hts _ kw_13_23) (hts _ kw_14_0) (hts _ kw_14_1) hK hP hJ hA hS (jc_11 cI cL ad σ1419 τ) (jc_17 cI cL ad σ1419 τ) (fun _ => rfl) jz_0 jz_0 rfl (by omega) (by omega) (by omega) (by omega) (by omega) (Nat.le_of_ble_eq_true rfl) (Nat.le_of_ble_eq_true rfl) dX7_readOrder_175 (fun σ1420 H locs eσ1420 hP hS => ?_)
                            have w1421 : ∀ k : Nat, k < 8 → 0 ≤ (σ1419 11 k).toInt ∧ (σ1419 11 k).toInt ≤ 3 := (jrr_fr (jnp 11 eσ1419 (by decide)) (jrr_fr (jnp 11 eσ1418 (by decide)) (jrr_fr (jnp 11 eσ1417 (by decide)) w1411)))
                            have w1422 : ∀ k : Nat, k < 8 → 0 ≤ (σ1419 17 k).toInt ∧ (σ1419 17 k).toInt ≤ 3 := (jrr_fr (jnp 17 eσ1419 (by decide)) (jrr_fr (jnp 17 eσ1418 (by decide)) (jrr_fr (jnp 17 eσ1417 (by decide)) (jrr_fr (f1405 17 (by decide)) (jrr_fr (f1389 17 (by decide)) (jrr_fr (f1291 17 (by decide)) (jrr_fr (f1179 17 (by decide)) (jrr_fr (f31 17 (by decide)) (jrr_fr (f10 17 (by decide)) w7)))))))))
                            have f1423 : (∀ i : Nat, (i < 17 ∨ 17 < i) → σ1420 i = σ1419 i) := by rw [eσ1420]; exact jrow_n
                            have w1424 : ∀ k : Nat, k < 8 → 0 ≤ (σ1420 17 k).toInt ∧ (σ1420 17 k).toInt ≤ 3 := by rw [eσ1420]; exact jrow_rr w1421 w1422 jz_0 rfl (n0 := 8) (by omega) (by omega) (by omega)
                            refine lv_iconst (v := (-1)) hx hb dX7_readOrder_178 (by decide) ?_
                            have I1425 : jI9 σ1420 := jI9_fr ((congrFun (f1423 9 (by decide)) 0).trans ((congrFun (jnp 9 eσ1419 (by decide)) 0).trans ((congrFun (jnp 9 eσ1418 (by decide)) 0).trans (congrFun (jnp 9 eσ1417 (by decide)) 0)))) ((f1423 10 (by decide)).trans ((jnp 10 eσ1419 (by decide)).trans ((jnp 10 eσ1418 (by decide)).trans (jnp 10 eσ1417 (by decide))))) ((f1423 11 (by decide)).trans ((jnp 11 eσ1419 (by decide)).trans ((jnp 11 eσ1418 (by decide)).trans (jnp 11 eσ1417 (by decide))))) I1407
                            have z1426 : (σ1420 16 0).toInt = x24.toInt := (congrArg Int32.toInt (show σ1420 16 0 = x24 from ((congrFun (f1423 16 (by decide)) 0).trans ((jkp 0 eσ1419 (by decide)).trans ((jkp 0 eσ1418 (by decide)).trans (jsp eσ1417))))))
                            have z1427 : (σ1420 16 1).toInt = r1290.toInt := (congrArg Int32.toInt (show σ1420 16 1 = r1290 from ((congrFun (f1423 16 (by decide)) 1).trans ((jkp 1 eσ1419 (by decide)).trans (jsp eσ1418)))))
                            have z1428 : (σ1420 16 2).toInt = 0 := ((congrArg Int32.toInt (show σ1420 16 2 = 0 from ((congrFun (f1423 16 (by decide)) 2).trans (jsp eσ1419)))).trans jz_0)
                            have I1429 : jI16 σ1420 := ⟨(by omega), (by omega), (by omega), w1424⟩
                            exact hret (-1) σ1420 τ _ _ _ _ rfl ⟨rfl, (fun i hi => ((f1423 i (imp_46 i hi)).trans ((jnp i eσ1419 (imp_47 i hi)).trans ((jnp i eσ1418 (imp_47 i hi)).trans ((jnp i eσ1417 (imp_47 i hi)).trans ((f1405 i (imp_48 i hi)).trans ((f1389 i (imp_48 i hi)).trans ((f1291 i (imp_48 i hi)).trans ((f1179 i (imp_48 i hi)).trans ((f31 i (imp_49 i hi)).trans (f10 i (imp_48 i hi)))))))))))), (fun i hi => ((congrFun (f1423 9 (by decide)) i).trans ((congrFun (jnp 9 eσ1419 (by decide)) i).trans ((congrFun (jnp 9 eσ1418 (by decide)) i).trans ((congrFun (jnp 9 eσ1417 (by decide)) i).trans ((f1406 i (imp_50 i hi)).trans ((f1390 i (imp_51 i hi)).trans ((f1292 i (imp_52 i hi)).trans ((f1180 i (imp_51 i hi)).trans ((f32 i (imp_51 i hi)).trans (f11 i (imp_52 i hi)))))))))))), (fun i hi => ((congrFun (f1423 16 (by decide)) i).trans ((jkp i eσ1419 (imp_53 i hi)).trans ((jkp i eσ1418 (imp_54 i hi)).trans ((jkp i eσ1417 (imp_55 i hi)).trans ((congrFun (f1405 16 (by decide)) i).trans ((congrFun (f1389 16 (by decide)) i).trans ((congrFun (f1291 16 (by decide)) i).trans ((congrFun (f1179 16 (by decide)) i).trans ((congrFun (f31 16 (by decide)) i).trans (congrFun (f10 16 (by decide)) i))))))))))), I1425, I1429, trivial⟩ hP hS dX7_readOrder_179
                          · obtain ⟨q1431, k1430⟩ := h1414
                            refine lv_istore (lv' := [(5, .int r1404), (3, .int r1290), (4, .int 0), (2, .int x24), (0, .ref (ad 9)), (1, .ref (ad 16))]) hx hb dX7_readOrder_137 hl (by decide) rfl (fun ls hl => ?_)
                            refine lv_iload hx hb dX7_readOrder_139 (lv_at hl 0 rfl) ?_
                            refine lv_iconst (v := (-1)) hx hb dX7_readOrder_141 (by decide) ?_
                            refine lv_icmp_eq (tgt := 148) hx hb dX7_readOrder_142 (by decide) (fun c => absurd (jeq c rfl jz_m1) (by omega)) (fun c1432 => ?_)
                            have kc1432 := jne c1432 rfl jz_m1
                            refine lv_iload hx hb dX7_readOrder_145 (lv_at hl 0 rfl) ?_
                            have I1433 : jI16 σ1403 := jI16_fr ((congrFun (f1405 16 (by decide)) 0).trans ((congrFun (f1389 16 (by decide)) 0).trans ((congrFun (f1291 16 (by decide)) 0).trans ((congrFun (f1179 16 (by decide)) 0).trans ((congrFun (f31 16 (by decide)) 0).trans (congrFun (f10 16 (by decide)) 0)))))) ((congrFun (f1405 16 (by decide)) 1).trans ((congrFun (f1389 16 (by decide)) 1).trans ((congrFun (f1291 16 (by decide)) 1).trans ((congrFun (f1179 16 (by decide)) 1).trans ((congrFun (f31 16 (by decide)) 1).trans (congrFun (f10 16 (by decide)) 1)))))) ((congrFun (f1405 16 (by decide)) 2).trans ((congrFun (f1389 16 (by decide)) 2).trans ((congrFun (f1291 16 (by decide)) 2).trans ((congrFun (f1179 16 (by decide)) 2).trans ((congrFun (f31 16 (by decide)) 2).trans (congrFun (f10 16 (by decide)) 2)))))) ((f1405 17 (by decide)).trans ((f1389 17 (by decide)).trans ((f1291 17 (by decide)).trans ((f1179 17 (by decide)).trans ((f31 17 (by decide)).trans (f10 17 (by decide))))))) hI16
                            exact hret r1404 σ1403 τ _ _ _ _ rfl ⟨rfl, (fun i hi => ((f1405 i (imp_48 i hi)).trans ((f1389 i (imp_48 i hi)).trans ((f1291 i (imp_48 i hi)).trans ((f1179 i (imp_48 i hi)).trans ((f31 i (imp_49 i hi)).trans (f10 i (imp_48 i hi)))))))), (fun i hi => ((f1406 i (imp_50 i hi)).trans ((f1390 i (imp_51 i hi)).trans ((f1292 i (imp_52 i hi)).trans ((f1180 i (imp_51 i hi)).trans ((f32 i (imp_51 i hi)).trans (f11 i (imp_52 i hi)))))))), (fun i hi => ((congrFun (f1405 16 (by decide)) i).trans ((congrFun (f1389 16 (by decide)) i).trans ((congrFun (f1291 16 (by decide)) i).trans ((congrFun (f1179 16 (by decide)) i).trans ((congrFun (f31 16 (by decide)) i).trans (congrFun (f10 16 (by decide)) i))))))), I1407, I1433, trivial⟩ hP hS dX7_readOrder_147
                        · have kc1402 := jne c1402 rfl jz_0
                          refine lv_aload_n hx hb dX7_readOrder_126 rfl (lv_at hl 4 rfl) ?_
                          refine lv_iconst (v := 3) hx hb dX7_readOrder_127 (by decide) ?_
                          refine jcallV (As := [.int 3]) (rest := []) ⟨hx, hb, hml, hown, hts⟩ hK hP hA hS hZ (c_X7_number_3 l D cI cL ad zz hJ σ1387 τ I1391 I1392 I1393) cw_RX7_53 (jc_9 cI cL ad σ1387 τ) rfl ⟨Nat.le_of_ble_eq_true rfl, Nat.le_of_ble_eq_true rfl⟩ rfl rfl rfl hl.1 rfl (Nat.le_of_ble_eq_true rfl) dX7_readOrder_128 ⟨Nat.zero_le _, Nat.zero_le _⟩ (fun r1435 σ1434 τ1434 H locs h1434 hP hS => ?_)
                          obtain ⟨rfl, f1436, f1437, I1438, I1439, I1440, h1434⟩ := h1434
                          obtain ⟨i1441, w1442, w1443⟩ : (0 ≤ (σ1434 9 0).toInt ∧ (σ1434 9 0).toInt ≤ 80) ∧ (∀ k : Nat, k < 80 → 0 ≤ (σ1434 10 k).toInt ∧ (σ1434 10 k).toInt ≤ 255) ∧ (∀ k : Nat, k < 8 → 0 ≤ (σ1434 11 k).toInt ∧ (σ1434 11 k).toInt ≤ 3) := id I1438
                          obtain ⟨i1444, i1445⟩ : (0 ≤ (σ1434 9 1).toInt) ∧ ((σ1434 9 1).toInt ≤ (σ1434 9 0).toInt) := id I1439
                          have i1446 : (-1) ≤ (σ1434 9 2).toInt := I1440
                          have z1447 : (σ1434 9 0).toInt = (σ 9 0).toInt := (congrArg Int32.toInt (show σ1434 9 0 = (σ 9 0) from ((f1437 0 (by decide)).trans ((f1390 0 (by decide)).trans ((f1292 0 (by decide)).trans ((f1180 0 (by decide)).trans ((f32 0 (by decide)).trans (f11 0 (by decide)))))))))
                          obtain ⟨k1448, h1434⟩ := h1434
                          have h1449 := h1434
                          obtain ⟨q1451, k1450⟩ := h1449
                          refine lv_istore (lv' := [(4, .int r1435), (3, .int r1290), (5, .int (σ1177 9 1)), (2, .int x24), (0, .ref (ad 9)), (1, .ref (ad 16))]) hx hb dX7_readOrder_131 hl (by decide) rfl (fun ls hl => ?_)
                          refine lv_aload_n hx hb dX7_readOrder_133 rfl (lv_at hl 4 rfl) ?_
                          refine jcallV (As := []) (rest := []) ⟨hx, hb, hml, hown, hts⟩ hK hP hA hS hZ (c_X7_end_9 l D cI cL ad zz hJ σ1434 τ I1438 I1439 I1440) cw_RX7_57 (jc_9 cI cL ad σ1434 τ) rfl ⟨Nat.le_of_ble_eq_true rfl, Nat.le_of_ble_eq_true rfl⟩ rfl rfl rfl hl.1 rfl (Nat.le_of_ble_eq_true rfl) dX7_readOrder_134 ⟨Nat.zero_le _, Nat.zero_le _⟩ (fun r1453 σ1452 τ1452 H locs h1452 hP hS => ?_)
                          obtain ⟨rfl, f1454, f1455, I1456, I1457, h1452⟩ := h1452
                          obtain ⟨i1458, w1459, w1460⟩ : (0 ≤ (σ1452 9 0).toInt ∧ (σ1452 9 0).toInt ≤ 80) ∧ (∀ k : Nat, k < 80 → 0 ≤ (σ1452 10 k).toInt ∧ (σ1452 10 k).toInt ≤ 255) ∧ (∀ k : Nat, k < 8 → 0 ≤ (σ1452 11 k).toInt ∧ (σ1452 11 k).toInt ≤ 3) := id I1456
                          have i1461 : (-1) ≤ (σ1452 9 2).toInt := I1457
                          rcases h1452 with h1462 | h1463
                          · obtain ⟨q1465, k1464⟩ := h1462
                            have q1465 := q1465.symm
                            subst q1465
                            refine lv_istore (lv' := [(5, .int (-1)), (4, .int r1435), (3, .int r1290), (2, .int x24), (0, .ref (ad 9)), (1, .ref (ad 16))]) hx hb dX7_readOrder_137 hl (by decide) rfl (fun ls hl => ?_)
                            refine lv_iload hx hb dX7_readOrder_139 (lv_at hl 0 rfl) ?_
                            refine lv_iconst (v := (-1)) hx hb dX7_readOrder_141 (by decide) ?_
                            refine lv_icmp_eq (tgt := 148) hx hb dX7_readOrder_142 (by decide) (fun _ => ?_) (fun c => absurd (by decide) c)
                            refine lv_aload_n hx hb dX7_readOrder_148 rfl (lv_at hl 5 rfl) ?_
                            refine lv_iload_n hx hb dX7_readOrder_149 rfl (lv_at hl 3 rfl) ?_
                            refine jput (ty := .int) hx hb hts inlX6 tyX6 tyX6_ok nmX6 hown hK hP hJ hA hS (jc_16 cI cL ad σ1452 τ) rfl (k := 0) (by decide) (Nat.le_of_ble_eq_true rfl) (jp_16_0 cI cL ad σ1452 τ x24) (hts _ kw_13_18) (fun _ h9 => h9) rfl (by decide +kernel) rfl rfl dX7_readOrder_150 (fun σ1466 H locs eσ1466 hP hS => ?_)
                            refine lv_aload_n hx hb dX7_readOrder_153 rfl (lv_at hl 5 rfl) ?_
                            refine lv_iload_n hx hb dX7_readOrder_154 rfl (lv_at hl 2 rfl) ?_
                            refine jput (ty := .int) hx hb hts inlX6 tyX6 tyX6_ok nmX6 hown hK hP hJ hA hS (jc_16 cI cL ad σ1466 τ) rfl (k := 1) (by decide) (Nat.le_of_ble_eq_true rfl) (jp_16_1 cI cL ad σ1466 τ r1290) (hts _ kw_13_19) (fun _ h9 => h9) rfl (by decide +kernel) rfl rfl dX7_readOrder_155 (fun σ1467 H locs eσ1467 hP hS => ?_)
                            refine lv_aload_n hx hb dX7_readOrder_158 rfl (lv_at hl 5 rfl) ?_
                            refine lv_iload hx hb dX7_readOrder_159 (lv_at hl 1 rfl) ?_
                            refine jput (ty := .int) hx hb hts inlX6 tyX6 tyX6_ok nmX6 hown hK hP hJ hA hS (jc_16 cI cL ad σ1467 τ) rfl (k := 2) (by decide) (Nat.le_of_ble_eq_true rfl) (jp_16_2 cI cL ad σ1467 τ r1435) (hts _ kw_13_20) (fun _ h9 => h9) rfl (by decide +kernel) rfl rfl dX7_readOrder_161 (fun σ1468 H locs eσ1468 hP hS => ?_)
                            refine lv_aload_n hx hb dX7_readOrder_164 rfl (lv_at hl 4 rfl) ?_
                            refine va_get (D := D) hx hb hts inlX7 hown hK hP 9 (jc_9 cI cL ad σ1468 τ) rfl 4 (by decide) (hts _ kw_3_21) (fun _ h9 => h9) rfl dX7_readOrder_165 ?_
                            refine lv_iconst (v := 0) hx hb dX7_readOrder_168 (by decide) ?_
                            refine lv_aload_n hx hb dX7_readOrder_169 rfl (lv_at hl 5 rfl) ?_
                            refine va_get (D := D) hx hb hts inlX6 hown hK hP 16 (jc_16 cI cL ad σ1468 τ) rfl 3 (by decide) (hts _ kw_13_21) (fun _ h9 => h9) rfl dX7_readOrder_170 ?_
                            refine lv_iconst (v := 0) hx hb dX7_readOrder_173 (by decide) ?_
                            refine lv_iload_n hx hb dX7_readOrder_174 rfl (lv_at hl 3 rfl) ?_
                            refine jcpyI (q0 := 11) (q1 := 17) hx hb (hml.trans hl.1.symm) hown (hts _ kw_13_22) (hts _ kw_13_23) (hts _ kw_14_0) (hts _ kw_14_1) hK hP hJ hA hS (jc_11 cI cL ad σ1468 τ) (jc_17 cI cL ad σ1468 τ) (fun _ => rfl) jz_0 jz_0 rfl (by omega) (by omega) (by omega) (by omega) (by omega) (Nat.le_of_ble_eq_true rfl) (Nat.le_of_ble_eq_true rfl) dX7_readOrder_175 (fun σ1469 H locs eσ1469 hP hS => ?_)
                            have w1470 : ∀ k : Nat, k < 8 → 0 ≤ (σ1468 11 k).toInt ∧ (σ1468 11 k).toInt ≤ 3 := (jrr_fr (jnp 11 eσ1468 (by decide)) (jrr_fr (jnp 11 eσ1467 (by decide)) (jrr_fr (jnp 11 eσ1466 (by decide)) w1460)))
                            have w1471 : ∀ k : Nat, k < 8 → 0 ≤ (σ1468 17 k).toInt ∧ (σ1468 17 k).toInt ≤ 3 := (jrr_fr (jnp 17 eσ1468 (by decide)) (jrr_fr (jnp 17 eσ1467 (by decide)) (jrr_fr (jnp 17 eσ1466 (by decide)) (jrr_fr (f1454 17 (by decide)) (jrr_fr (f1436 17 (by decide)) (jrr_fr (f1389 17 (by decide)) (jrr_fr (f1291 17 (by decide)) (jrr_fr (f1179 17 (by decide)) (jrr_fr (f31 17 (by decide)) (jrr_fr (f10 17 (by decide)) w7))))))))))
                            have f1472 : (∀ i : Nat, (i < 17 ∨ 17 < i) → σ1469 i = σ1468 i) := by rw [eσ1469]; exact jrow_n
                            have w1473 : ∀ k : Nat, k < 8 → 0 ≤ (σ1469 17 k).toInt ∧ (σ1469 17 k).toInt ≤ 3 := by rw [eσ1469]; exact jrow_rr w1470 w1471 jz_0 rfl (n0 := 8) (by omega) (by omega) (by omega)
                            refine lv_iconst (v := (-1)) hx hb dX7_readOrder_178 (by decide) ?_
                            have I1474 : jI9 σ1469 := jI9_fr ((congrFun (f1472 9 (by decide)) 0).trans ((congrFun (jnp 9 eσ1468 (by decide)) 0).trans ((congrFun (jnp 9 eσ1467 (by decide)) 0).trans (congrFun (jnp 9 eσ1466 (by decide)) 0)))) ((f1472 10 (by decide)).trans ((jnp 10 eσ1468 (by decide)).trans ((jnp 10 eσ1467 (by decide)).trans (jnp 10 eσ1466 (by decide))))) ((f1472 11 (by decide)).trans ((jnp 11 eσ1468 (by decide)).trans ((jnp 11 eσ1467 (by decide)).trans (jnp 11 eσ1466 (by decide))))) I1456
                            have z1475 : (σ1469 16 0).toInt = x24.toInt := (congrArg Int32.toInt (show σ1469 16 0 = x24 from ((congrFun (f1472 16 (by decide)) 0).trans ((jkp 0 eσ1468 (by decide)).trans ((jkp 0 eσ1467 (by decide)).trans (jsp eσ1466))))))
                            have z1476 : (σ1469 16 1).toInt = r1290.toInt := (congrArg Int32.toInt (show σ1469 16 1 = r1290 from ((congrFun (f1472 16 (by decide)) 1).trans ((jkp 1 eσ1468 (by decide)).trans (jsp eσ1467)))))
                            have z1477 : (σ1469 16 2).toInt = r1435.toInt := (congrArg Int32.toInt (show σ1469 16 2 = r1435 from ((congrFun (f1472 16 (by decide)) 2).trans (jsp eσ1468))))
                            have I1478 : jI16 σ1469 := ⟨(by omega), (by omega), (by omega), w1473⟩
                            exact hret (-1) σ1469 τ _ _ _ _ rfl ⟨rfl, (fun i hi => ((f1472 i (imp_46 i hi)).trans ((jnp i eσ1468 (imp_47 i hi)).trans ((jnp i eσ1467 (imp_47 i hi)).trans ((jnp i eσ1466 (imp_47 i hi)).trans ((f1454 i (imp_48 i hi)).trans ((f1436 i (imp_48 i hi)).trans ((f1389 i (imp_48 i hi)).trans ((f1291 i (imp_48 i hi)).trans ((f1179 i (imp_48 i hi)).trans ((f31 i (imp_49 i hi)).trans (f10 i (imp_48 i hi))))))))))))), (fun i hi => ((congrFun (f1472 9 (by decide)) i).trans ((congrFun (jnp 9 eσ1468 (by decide)) i).trans ((congrFun (jnp 9 eσ1467 (by decide)) i).trans ((congrFun (jnp 9 eσ1466 (by decide)) i).trans ((f1455 i (imp_50 i hi)).trans ((f1437 i (imp_52 i hi)).trans ((f1390 i (imp_51 i hi)).trans ((f1292 i (imp_52 i hi)).trans ((f1180 i (imp_51 i hi)).trans ((f32 i (imp_51 i hi)).trans (f11 i (imp_52 i hi))))))))))))), (fun i hi => ((congrFun (f1472 16 (by decide)) i).trans ((jkp i eσ1468 (imp_53 i hi)).trans ((jkp i eσ1467 (imp_54 i hi)).trans ((jkp i eσ1466 (imp_55 i hi)).trans ((congrFun (f1454 16 (by decide)) i).trans ((congrFun (f1436 16 (by decide)) i).trans ((congrFun (f1389 16 (by decide)) i).trans ((congrFun (f1291 16 (by decide)) i).trans ((congrFun (f1179 16 (by decide)) i).trans ((congrFun (f31 16 (by decide)) i).trans (congrFun (f10 16 (by decide)) i)))))))))))), I1474, I1478, trivial⟩ hP hS dX7_readOrder_179
                          · obtain ⟨q1480, k1479⟩ := h1463
                            refine lv_istore (lv' := [(5, .int r1453), (4, .int r1435), (3, .int r1290), (2, .int x24), (0, .ref (ad 9)), (1, .ref (ad 16))]) hx hb dX7_readOrder_137 hl (by decide) rfl (fun ls hl => ?_)
                            refine lv_iload hx hb dX7_readOrder_139 (lv_at hl 0 rfl) ?_
                            refine lv_iconst (v := (-1)) hx hb dX7_readOrder_141 (by decide) ?_
                            refine lv_icmp_eq (tgt := 148) hx hb dX7_readOrder_142 (by decide) (fun c => absurd (jeq c rfl jz_m1) (by omega)) (fun c1481 => ?_)
                            have kc1481 := jne c1481 rfl jz_m1
                            refine lv_iload hx hb dX7_readOrder_145 (lv_at hl 0 rfl) ?_
                            have I1482 : jI16 σ1452 := jI16_fr ((congrFun (f1454 16 (by decide)) 0).trans ((congrFun (f1436 16 (by decide)) 0).trans ((congrFun (f1389 16 (by decide)) 0).trans ((congrFun (f1291 16 (by decide)) 0).trans ((congrFun (f1179 16 (by decide)) 0).trans ((congrFun (f31 16 (by decide)) 0).trans (congrFun (f10 16 (by decide)) 0))))))) ((congrFun (f1454 16 (by decide)) 1).trans ((congrFun (f1436 16 (by decide)) 1).trans ((congrFun (f1389 16 (by decide)) 1).trans ((congrFun (f1291 16 (by decide)) 1).trans ((congrFun (f1179 16 (by decide)) 1).trans ((congrFun (f31 16 (by decide)) 1).trans (congrFun (f10 16 (by decide)) 1))))))) ((congrFun (f1454 16 (by decide)) 2).trans ((congrFun (f1436 16 (by decide)) 2).trans ((congrFun (f1389 16 (by decide)) 2).trans ((congrFun (f1291 16 (by decide)) 2).trans ((congrFun (f1179 16 (by decide)) 2).trans ((congrFun (f31 16 (by decide)) 2).trans (congrFun (f10 16 (by decide)) 2))))))) ((f1454 17 (by decide)).trans ((f1436 17 (by decide)).trans ((f1389 17 (by decide)).trans ((f1291 17 (by decide)).trans ((f1179 17 (by decide)).trans ((f31 17 (by decide)).trans (f10 17 (by decide)))))))) hI16
                            exact hret r1453 σ1452 τ _ _ _ _ rfl ⟨rfl, (fun i hi => ((f1454 i (imp_48 i hi)).trans ((f1436 i (imp_48 i hi)).trans ((f1389 i (imp_48 i hi)).trans ((f1291 i (imp_48 i hi)).trans ((f1179 i (imp_48 i hi)).trans ((f31 i (imp_49 i hi)).trans (f10 i (imp_48 i hi))))))))), (fun i hi => ((f1455 i (imp_50 i hi)).trans ((f1437 i (imp_52 i hi)).trans ((f1390 i (imp_51 i hi)).trans ((f1292 i (imp_52 i hi)).trans ((f1180 i (imp_51 i hi)).trans ((f32 i (imp_51 i hi)).trans (f11 i (imp_52 i hi))))))))), (fun i hi => ((congrFun (f1454 16 (by decide)) i).trans ((congrFun (f1436 16 (by decide)) i).trans ((congrFun (f1389 16 (by decide)) i).trans ((congrFun (f1291 16 (by decide)) i).trans ((congrFun (f1179 16 (by decide)) i).trans ((congrFun (f31 16 (by decide)) i).trans (congrFun (f10 16 (by decide)) i)))))))), I1456, I1482, trivial⟩ hP hS dX7_readOrder_147
                      · have kc1386 := jnle c1386 rfl jz_12
                        refine lv_aload_n hx hb dX7_readOrder_111 rfl (lv_at hl 4 rfl) ?_
                        refine lv_iload hx hb dX7_readOrder_112 (lv_at hl 1 rfl) ?_
                        refine jcallVv (As := [.int (σ1177 9 1)]) (rest := []) ⟨hx, hb, hml, hown, hts⟩ hK hP hA hS hZ (c_X7_fail_9 l D cI cL ad zz hJ σ1289 τ (σ1177 9 1) ((σ1177 9 1).toInt) rfl I1295 (by omega)) cw_RX7_43 (jc_9 cI cL ad σ1289 τ) rfl ⟨Nat.le_of_ble_eq_true rfl, Nat.le_of_ble_eq_true rfl⟩ rfl rfl rfl hl.1 rfl (Nat.le_of_ble_eq_true rfl) dX7_readOrder_114 ⟨Nat.zero_le _, Nat.zero_le _⟩ (fun σ1483 τ1483 H locs h1483 hP hS => ?_)
                        obtain ⟨rfl, f1485, f1486, h1483⟩ := h1483
                        obtain ⟨k1487, h1483⟩ := h1483
                        refine lv_aload_n hx hb dX7_readOrder_117 rfl (lv_at hl 4 rfl) ?_
                        refine lv_bipush (v := 114) hx hb dX7_readOrder_118 (by decide) ?_
                        have I1488 : jI9 σ1483 := jI9_fr (f1486 0 (by decide)) (f1485 10 (by decide)) (f1485 11 (by decide)) I1293
                        have I1489 : jI91 σ1483 := jI91_fr (f1486 0 (by decide)) (f1486 1 (by decide)) I1294
                        have I1490 : jI92 σ1483 := (show (-1) ≤ (σ1483 9 2).toInt by omega)
                        refine jcallV (As := [.int 114]) (rest := []) ⟨hx, hb, hml, hown, hts⟩ hK hP hA hS hZ (c_X7_skip_9 l D cI cL ad zz hJ σ1483 τ 114 (114) jz_114 I1488 I1489 I1490 (by omega)) cw_RX7_50 (jc_9 cI cL ad σ1483 τ) rfl ⟨Nat.le_of_ble_eq_true rfl, Nat.le_of_ble_eq_true rfl⟩ rfl rfl rfl hl.1 rfl (Nat.le_of_ble_eq_true rfl) dX7_readOrder_120 ⟨Nat.zero_le _, Nat.zero_le _⟩ (fun r1492 σ1491 τ1491 H locs h1491 hP hS => ?_)
                        obtain ⟨rfl, f1493, f1494, I1495, I1496, I1497, h1491⟩ := h1491
                        obtain ⟨i1498, w1499, w1500⟩ : (0 ≤ (σ1491 9 0).toInt ∧ (σ1491 9 0).toInt ≤ 80) ∧ (∀ k : Nat, k < 80 → 0 ≤ (σ1491 10 k).toInt ∧ (σ1491 10 k).toInt ≤ 255) ∧ (∀ k : Nat, k < 8 → 0 ≤ (σ1491 11 k).toInt ∧ (σ1491 11 k).toInt ≤ 3) := id I1495
                        obtain ⟨i1501, i1502⟩ : (0 ≤ (σ1491 9 1).toInt) ∧ ((σ1491 9 1).toInt ≤ (σ1491 9 0).toInt) := id I1496
                        have i1503 : (-1) ≤ (σ1491 9 2).toInt := I1497
                        have z1504 : (σ1491 9 0).toInt = (σ 9 0).toInt := (congrArg Int32.toInt (show σ1491 9 0 = (σ 9 0) from ((f1494 0 (by decide)).trans ((f1486 0 (by decide)).trans ((f1292 0 (by decide)).trans ((f1180 0 (by decide)).trans ((f32 0 (by decide)).trans (f11 0 (by decide)))))))))
                        have z1505 : (σ1491 9 2).toInt = (σ1483 9 2).toInt := (congrArg Int32.toInt (show σ1491 9 2 = (σ1483 9 2) from (f1494 2 (by decide))))
                        refine lv_if_eq (tgt := 133) hx hb dX7_readOrder_123 (by decide) (fun c1506 => ?_) (fun c1506 => ?_)
                        · have kc1506 := jeq c1506 rfl jz_0
                          refine lv_aload_n hx hb dX7_readOrder_133 rfl (lv_at hl 4 rfl) ?_
                          refine jcallV (As := []) (rest := []) ⟨hx, hb, hml, hown, hts⟩ hK hP hA hS hZ (c_X7_end_9 l D cI cL ad zz hJ σ1491 τ I1495 I1496 I1497) cw_RX7_57 (jc_9 cI cL ad σ1491 τ) rfl ⟨Nat.le_of_ble_eq_true rfl, Nat.le_of_ble_eq_true rfl⟩ rfl rfl rfl hl.1 rfl (Nat.le_of_ble_eq_true rfl) dX7_readOrder_134 ⟨Nat.zero_le _, Nat.zero_le _⟩ (fun r1508 σ1507 τ1507 H locs h1507 hP hS => ?_)
                          obtain ⟨rfl, f1509, f1510, I1511, I1512, h1507⟩ := h1507
                          obtain ⟨i1513, w1514, w1515⟩ : (0 ≤ (σ1507 9 0).toInt ∧ (σ1507 9 0).toInt ≤ 80) ∧ (∀ k : Nat, k < 80 → 0 ≤ (σ1507 10 k).toInt ∧ (σ1507 10 k).toInt ≤ 255) ∧ (∀ k : Nat, k < 8 → 0 ≤ (σ1507 11 k).toInt ∧ (σ1507 11 k).toInt ≤ 3) := id I1511
                          have i1516 : (-1) ≤ (σ1507 9 2).toInt := I1512
                          rcases h1507 with h1517 | h1518
                          · obtain ⟨q1520, k1519⟩ := h1517
                            exact absurd (by omega : False) id
                          · obtain ⟨q1522, k1521⟩ := h1518
                            refine lv_istore (lv' := [(5, .int r1508), (3, .int r1290), (4, .int 0), (2, .int x24), (0, .ref (ad 9)), (1, .ref (ad 16))]) hx hb dX7_readOrder_137 hl (by decide) rfl (fun ls hl => ?_)
                            refine lv_iload hx hb dX7_readOrder_139 (lv_at hl 0 rfl) ?_
                            refine lv_iconst (v := (-1)) hx hb dX7_readOrder_141 (by decide) ?_
                            refine lv_icmp_eq (tgt := 148) hx hb dX7_readOrder_142 (by decide) (fun c => absurd (jeq c rfl jz_m1) (by omega)) (fun c1523 => ?_)
                            have kc1523 := jne c1523 rfl jz_m1
                            refine lv_iload hx hb dX7_readOrder_145 (lv_at hl 0 rfl) ?_
                            have I1524 : jI16 σ1507 := jI16_fr ((congrFun (f1509 16 (by decide)) 0).trans ((congrFun (f1493 16 (by decide)) 0).trans ((congrFun (f1485 16 (by decide)) 0).trans ((congrFun (f1291 16 (by decide)) 0).trans ((congrFun (f1179 16 (by decide)) 0).trans ((congrFun (f31 16 (by decide)) 0).trans (congrFun (f10 16 (by decide)) 0))))))) ((congrFun (f1509 16 (by decide)) 1).trans ((congrFun (f1493 16 (by decide)) 1).trans ((congrFun (f1485 16 (by decide)) 1).trans ((congrFun (f1291 16 (by decide)) 1).trans ((congrFun (f1179 16 (by decide)) 1).trans ((congrFun (f31 16 (by decide)) 1).trans (congrFun (f10 16 (by decide)) 1))))))) ((congrFun (f1509 16 (by decide)) 2).trans ((congrFun (f1493 16 (by decide)) 2).trans ((congrFun (f1485 16 (by decide)) 2).trans ((congrFun (f1291 16 (by decide)) 2).trans ((congrFun (f1179 16 (by decide)) 2).trans ((congrFun (f31 16 (by decide)) 2).trans (congrFun (f10 16 (by decide)) 2))))))) ((f1509 17 (by decide)).trans ((f1493 17 (by decide)).trans ((f1485 17 (by decide)).trans ((f1291 17 (by decide)).trans ((f1179 17 (by decide)).trans ((f31 17 (by decide)).trans (f10 17 (by decide)))))))) hI16
                            exact hret r1508 σ1507 τ _ _ _ _ rfl ⟨rfl, (fun i hi => ((f1509 i (imp_48 i hi)).trans ((f1493 i (imp_48 i hi)).trans ((f1485 i (imp_48 i hi)).trans ((f1291 i (imp_48 i hi)).trans ((f1179 i (imp_48 i hi)).trans ((f31 i (imp_49 i hi)).trans (f10 i (imp_48 i hi))))))))), (fun i hi => ((f1510 i (imp_50 i hi)).trans ((f1494 i (imp_51 i hi)).trans ((f1486 i (imp_56 i hi)).trans ((f1292 i (imp_52 i hi)).trans ((f1180 i (imp_51 i hi)).trans ((f32 i (imp_51 i hi)).trans (f11 i (imp_52 i hi))))))))), (fun i hi => ((congrFun (f1509 16 (by decide)) i).trans ((congrFun (f1493 16 (by decide)) i).trans ((congrFun (f1485 16 (by decide)) i).trans ((congrFun (f1291 16 (by decide)) i).trans ((congrFun (f1179 16 (by decide)) i).trans ((congrFun (f31 16 (by decide)) i).trans (congrFun (f10 16 (by decide)) i)))))))), I1511, I1524, trivial⟩ hP hS dX7_readOrder_147
                        · have kc1506 := jne c1506 rfl jz_0
                          refine lv_aload_n hx hb dX7_readOrder_126 rfl (lv_at hl 4 rfl) ?_
                          refine lv_iconst (v := 3) hx hb dX7_readOrder_127 (by decide) ?_
                          refine jcallV (As := [.int 3]) (rest := []) ⟨hx, hb, hml, hown, hts⟩ hK hP hA hS hZ (c_X7_number_3 l D cI cL ad zz hJ σ1491 τ I1495 I1496 I1497) cw_RX7_53 (jc_9 cI cL ad σ1491 τ) rfl ⟨Nat.le_of_ble_eq_true rfl, Nat.le_of_ble_eq_true rfl⟩ rfl rfl rfl hl.1 rfl (Nat.le_of_ble_eq_true rfl) dX7_readOrder_128 ⟨Nat.zero_le _, Nat.zero_le _⟩ (fun r1526 σ1525 τ1525 H locs h1525 hP hS => ?_)
                          obtain ⟨rfl, f1527, f1528, I1529, I1530, I1531, h1525⟩ := h1525
                          obtain ⟨i1532, w1533, w1534⟩ : (0 ≤ (σ1525 9 0).toInt ∧ (σ1525 9 0).toInt ≤ 80) ∧ (∀ k : Nat, k < 80 → 0 ≤ (σ1525 10 k).toInt ∧ (σ1525 10 k).toInt ≤ 255) ∧ (∀ k : Nat, k < 8 → 0 ≤ (σ1525 11 k).toInt ∧ (σ1525 11 k).toInt ≤ 3) := id I1529
                          obtain ⟨i1535, i1536⟩ : (0 ≤ (σ1525 9 1).toInt) ∧ ((σ1525 9 1).toInt ≤ (σ1525 9 0).toInt) := id I1530
                          have i1537 : (-1) ≤ (σ1525 9 2).toInt := I1531
                          have z1538 : (σ1525 9 0).toInt = (σ 9 0).toInt := (congrArg Int32.toInt (show σ1525 9 0 = (σ 9 0) from ((f1528 0 (by decide)).trans ((f1494 0 (by decide)).trans ((f1486 0 (by decide)).trans ((f1292 0 (by decide)).trans ((f1180 0 (by decide)).trans ((f32 0 (by decide)).trans (f11 0 (by decide))))))))))
                          obtain ⟨k1539, h1525⟩ := h1525
                          have h1540 := h1525
                          obtain ⟨q1542, k1541⟩ := h1540
                          refine lv_istore (lv' := [(4, .int r1526), (3, .int r1290), (5, .int (σ1177 9 1)), (2, .int x24), (0, .ref (ad 9)), (1, .ref (ad 16))]) hx hb dX7_readOrder_131 hl (by decide) rfl (fun ls hl => ?_)
                          refine lv_aload_n hx hb dX7_readOrder_133 rfl (lv_at hl 4 rfl) ?_
                          refine jcallV (As := []) (rest := []) ⟨hx, hb, hml, hown, hts⟩ hK hP hA hS hZ (c_X7_end_9 l D cI cL ad zz hJ σ1525 τ I1529 I1530 I1531) cw_RX7_57 (jc_9 cI cL ad σ1525 τ) rfl ⟨Nat.le_of_ble_eq_true rfl, Nat.le_of_ble_eq_true rfl⟩ rfl rfl rfl hl.1 rfl (Nat.le_of_ble_eq_true rfl) dX7_readOrder_134 ⟨Nat.zero_le _, Nat.zero_le _⟩ (fun r1544 σ1543 τ1543 H locs h1543 hP hS => ?_)
                          obtain ⟨rfl, f1545, f1546, I1547, I1548, h1543⟩ := h1543
                          obtain ⟨i1549, w1550, w1551⟩ : (0 ≤ (σ1543 9 0).toInt ∧ (σ1543 9 0).toInt ≤ 80) ∧ (∀ k : Nat, k < 80 → 0 ≤ (σ1543 10 k).toInt ∧ (σ1543 10 k).toInt ≤ 255) ∧ (∀ k : Nat, k < 8 → 0 ≤ (σ1543 11 k).toInt ∧ (σ1543 11 k).toInt ≤ 3) := id I1547
                          have i1552 : (-1) ≤ (σ1543 9 2).toInt := I1548
                          rcases h1543 with h1553 | h1554
                          · obtain ⟨q1556, k1555⟩ := h1553
                            exact absurd (by omega : False) id
                          · obtain ⟨q1558, k1557⟩ := h1554
                            refine lv_istore (lv' := [(5, .int r1544), (4, .int r1526), (3, .int r1290), (2, .int x24), (0, .ref (ad 9)), (1, .ref (ad 16))]) hx hb dX7_readOrder_137 hl (by decide) rfl (fun ls hl => ?_)
                            refine lv_iload hx hb dX7_readOrder_139 (lv_at hl 0 rfl) ?_
                            refine lv_iconst (v := (-1)) hx hb dX7_readOrder_141 (by decide) ?_
                            refine lv_icmp_eq (tgt := 148) hx hb dX7_readOrder_142 (by decide) (fun c => absurd (jeq c rfl jz_m1) (by omega)) (fun c1559 => ?_)
                            have kc1559 := jne c1559 rfl jz_m1
                            refine lv_iload hx hb dX7_readOrder_145 (lv_at hl 0 rfl) ?_
                            have I1560 : jI16 σ1543 := jI16_fr ((congrFun (f1545 16 (by decide)) 0).trans ((congrFun (f1527 16 (by decide)) 0).trans ((congrFun (f1493 16 (by decide)) 0).trans ((congrFun (f1485 16 (by decide)) 0).trans ((congrFun (f1291 16 (by decide)) 0).trans ((congrFun (f1179 16 (by decide)) 0).trans ((congrFun (f31 16 (by decide)) 0).trans (congrFun (f10 16 (by decide)) 0)))))))) ((congrFun (f1545 16 (by decide)) 1).trans ((congrFun (f1527 16 (by decide)) 1).trans ((congrFun (f1493 16 (by decide)) 1).trans ((congrFun (f1485 16 (by decide)) 1).trans ((congrFun (f1291 16 (by decide)) 1).trans ((congrFun (f1179 16 (by decide)) 1).trans ((congrFun (f31 16 (by decide)) 1).trans (congrFun (f10 16 (by decide)) 1)))))))) ((congrFun (f1545 16 (by decide)) 2).trans ((congrFun (f1527 16 (by decide)) 2).trans ((congrFun (f1493 16 (by decide)) 2).trans ((congrFun (f1485 16 (by decide)) 2).trans ((congrFun (f1291 16 (by decide)) 2).trans ((congrFun (f1179 16 (by decide)) 2).trans ((congrFun (f31 16 (by decide)) 2).trans (congrFun (f10 16 (by decide)) 2)))))))) ((f1545 17 (by decide)).trans ((f1527 17 (by decide)).trans ((f1493 17 (by decide)).trans ((f1485 17 (by decide)).trans ((f1291 17 (by decide)).trans ((f1179 17 (by decide)).trans ((f31 17 (by decide)).trans (f10 17 (by decide))))))))) hI16
                            exact hret r1544 σ1543 τ _ _ _ _ rfl ⟨rfl, (fun i hi => ((f1545 i (imp_48 i hi)).trans ((f1527 i (imp_48 i hi)).trans ((f1493 i (imp_48 i hi)).trans ((f1485 i (imp_48 i hi)).trans ((f1291 i (imp_48 i hi)).trans ((f1179 i (imp_48 i hi)).trans ((f31 i (imp_49 i hi)).trans (f10 i (imp_48 i hi)))))))))), (fun i hi => ((f1546 i (imp_50 i hi)).trans ((f1528 i (imp_52 i hi)).trans ((f1494 i (imp_51 i hi)).trans ((f1486 i (imp_56 i hi)).trans ((f1292 i (imp_52 i hi)).trans ((f1180 i (imp_51 i hi)).trans ((f32 i (imp_51 i hi)).trans (f11 i (imp_52 i hi)))))))))), (fun i hi => ((congrFun (f1545 16 (by decide)) i).trans ((congrFun (f1527 16 (by decide)) i).trans ((congrFun (f1493 16 (by decide)) i).trans ((congrFun (f1485 16 (by decide)) i).trans ((congrFun (f1291 16 (by decide)) i).trans ((congrFun (f1179 16 (by decide)) i).trans ((congrFun (f31 16 (by decide)) i).trans (congrFun (f10 16 (by decide)) i))))))))), I1547, I1560, trivial⟩ hP hS dX7_readOrder_147
                · have kc1174 := jeq c1174 rfl jz_0
                  refine lv_aload_n hx hb dX7_readOrder_71 rfl (lv_at hl 3 rfl) ?_
                  refine lv_aload_n hx hb dX7_readOrder_72 rfl (lv_at hl 3 rfl) ?_
                  refine va_get (D := D) hx hb hts inlX7 hown hK hP 9 (jc_9 cI cL ad σ25 τ) rfl 1 (by decide) (hts _ kw_13_17) (fun _ h9 => h9) rfl dX7_readOrder_73 ?_
                  have I1561 : jI92 σ25 := jI92_fr (f32 2 (by decide)) I14
                  refine jcallVv (As := [.int (σ25 9 1)]) (rest := []) ⟨hx, hb, hml, hown, hts⟩ hK hP hA hS hZ (c_X7_fail_9 l D cI cL ad zz hJ σ25 τ (σ25 9 1) ((σ25 9 1).toInt) rfl I1561 (by omega)) cw_RX7_43 (jc_9 cI cL ad σ25 τ) rfl ⟨Nat.le_of_ble_eq_true rfl, Nat.le_of_ble_eq_true rfl⟩ rfl rfl rfl hl.1 rfl (Nat.le_of_ble_eq_true rfl) dX7_readOrder_76 ⟨Nat.zero_le _, Nat.zero_le _⟩ (fun σ1562 τ1562 H locs h1562 hP hS => ?_)
                  obtain ⟨rfl, f1564, f1565, h1562⟩ := h1562
                  obtain ⟨k1566, h1562⟩ := h1562
                  refine lv_aload_n hx hb dX7_readOrder_79 rfl (lv_at hl 3 rfl) ?_
                  refine lv_bipush (v := 58) hx hb dX7_readOrder_80 (by decide) ?_
                  have I1567 : jI9 σ1562 := jI9_fr (f1565 0 (by decide)) (f1564 10 (by decide)) (f1564 11 (by decide)) p33
                  have z1568 : (σ1562 9 1).toInt = (σ25 9 1).toInt := (congrArg Int32.toInt (show σ1562 9 1 = (σ25 9 1) from (f1565 1 (by decide))))
                  have z1569 : (σ1562 9 0).toInt = (σ 9 0).toInt := (congrArg Int32.toInt (show σ1562 9 0 = (σ 9 0) from ((f1565 0 (by decide)).trans ((f32 0 (by decide)).trans (f11 0 (by decide))))))
                  have I1570 : jI91 σ1562 := ⟨(by omega), (by omega)⟩
                  have I1571 : jI92 σ1562 := (show (-1) ≤ (σ1562 9 2).toInt by omega)
                  refine jcallV (As := [.int 58]) (rest := []) ⟨hx, hb, hml, hown, hts⟩ hK hP hA hS hZ (c_X7_skip_9 l D cI cL ad zz hJ σ1562 τ 58 (58) jz_58 I1567 I1570 I1571 (by omega)) cw_RX7_50 (jc_9 cI cL ad σ1562 τ) rfl ⟨Nat.le_of_ble_eq_true rfl, Nat.le_of_ble_eq_true rfl⟩ rfl rfl rfl hl.1 rfl (Nat.le_of_ble_eq_true rfl) dX7_readOrder_82 ⟨Nat.zero_le _, Nat.zero_le _⟩ (fun r1573 σ1572 τ1572 H locs h1572 hP hS => ?_)
                  obtain ⟨rfl, f1574, f1575, I1576, I1577, I1578, h1572⟩ := h1572
                  obtain ⟨i1579, w1580, w1581⟩ : (0 ≤ (σ1572 9 0).toInt ∧ (σ1572 9 0).toInt ≤ 80) ∧ (∀ k : Nat, k < 80 → 0 ≤ (σ1572 10 k).toInt ∧ (σ1572 10 k).toInt ≤ 255) ∧ (∀ k : Nat, k < 8 → 0 ≤ (σ1572 11 k).toInt ∧ (σ1572 11 k).toInt ≤ 3) := id I1576
                  obtain ⟨i1582, i1583⟩ : (0 ≤ (σ1572 9 1).toInt) ∧ ((σ1572 9 1).toInt ≤ (σ1572 9 0).toInt) := id I1577
                  have i1584 : (-1) ≤ (σ1572 9 2).toInt := I1578
                  have z1585 : (σ1572 9 0).toInt = (σ 9 0).toInt := (congrArg Int32.toInt (show σ1572 9 0 = (σ 9 0) from ((f1575 0 (by decide)).trans ((f1565 0 (by decide)).trans ((f32 0 (by decide)).trans (f11 0 (by decide)))))))
                  have z1586 : (σ1572 9 2).toInt = (σ1562 9 2).toInt := (congrArg Int32.toInt (show σ1572 9 2 = (σ1562 9 2) from (f1575 2 (by decide))))
                  refine lv_if_eq (tgt := 117) hx hb dX7_readOrder_85 (by decide) (fun c1587 => ?_) (fun c1587 => ?_)
                  · have kc1587 := jeq c1587 rfl jz_0
                    refine lv_aload_n hx hb dX7_readOrder_117 rfl (lv_at hl 3 rfl) ?_
                    refine lv_bipush (v := 114) hx hb dX7_readOrder_118 (by decide) ?_
                    refine jcallV (As := [.int 114]) (rest := []) ⟨hx, hb, hml, hown, hts⟩ hK hP hA hS hZ (c_X7_skip_9 l D cI cL ad zz hJ σ1572 τ 114 (114) jz_114 I1576 I1577 I1578 (by omega)) cw_RX7_50 (jc_9 cI cL ad σ1572 τ) rfl ⟨Nat.le_of_ble_eq_true rfl, Nat.le_of_ble_eq_true rfl⟩ rfl rfl rfl hl.1 rfl (Nat.le_of_ble_eq_true rfl) dX7_readOrder_120 ⟨Nat.zero_le _, Nat.zero_le _⟩ (fun r1589 σ1588 τ1588 H locs h1588 hP hS => ?_)
                    obtain ⟨rfl, f1590, f1591, I1592, I1593, I1594, h1588⟩ := h1588
                    obtain ⟨i1595, w1596, w1597⟩ : (0 ≤ (σ1588 9 0).toInt ∧ (σ1588 9 0).toInt ≤ 80) ∧ (∀ k : Nat, k < 80 → 0 ≤ (σ1588 10 k).toInt ∧ (σ1588 10 k).toInt ≤ 255) ∧ (∀ k : Nat, k < 8 → 0 ≤ (σ1588 11 k).toInt ∧ (σ1588 11 k).toInt ≤ 3) := id I1592
                    obtain ⟨i1598, i1599⟩ : (0 ≤ (σ1588 9 1).toInt) ∧ ((σ1588 9 1).toInt ≤ (σ1588 9 0).toInt) := id I1593
                    have i1600 : (-1) ≤ (σ1588 9 2).toInt := I1594
                    have z1601 : (σ1588 9 0).toInt = (σ 9 0).toInt := (congrArg Int32.toInt (show σ1588 9 0 = (σ 9 0) from ((f1591 0 (by decide)).trans ((f1575 0 (by decide)).trans ((f1565 0 (by decide)).trans ((f32 0 (by decide)).trans (f11 0 (by decide))))))))
                    have z1602 : (σ1588 9 2).toInt = (σ1562 9 2).toInt := (congrArg Int32.toInt (show σ1588 9 2 = (σ1562 9 2) from ((f1591 2 (by decide)).trans (f1575 2 (by decide)))))
                    refine lv_if_eq (tgt := 133) hx hb dX7_readOrder_123 (by decide) (fun c1603 => ?_) (fun c1603 => ?_)
                    · have kc1603 := jeq c1603 rfl jz_0
                      refine lv_aload_n hx hb dX7_readOrder_133 rfl (lv_at hl 3 rfl) ?_
                      refine jcallV (As := []) (rest := []) ⟨hx, hb, hml, hown, hts⟩ hK hP hA hS hZ (c_X7_end_9 l D cI cL ad zz hJ σ1588 τ I1592 I1593 I1594) cw_RX7_57 (jc_9 cI cL ad σ1588 τ) rfl ⟨Nat.le_of_ble_eq_true rfl, Nat.le_of_ble_eq_true rfl⟩ rfl rfl rfl hl.1 rfl (Nat.le_of_ble_eq_true rfl) dX7_readOrder_134 ⟨Nat.zero_le _, Nat.zero_le _⟩ (fun r1605 σ1604 τ1604 H locs h1604 hP hS => ?_)
                      obtain ⟨rfl, f1606, f1607, I1608, I1609, h1604⟩ := h1604
                      obtain ⟨i1610, w1611, w1612⟩ : (0 ≤ (σ1604 9 0).toInt ∧ (σ1604 9 0).toInt ≤ 80) ∧ (∀ k : Nat, k < 80 → 0 ≤ (σ1604 10 k).toInt ∧ (σ1604 10 k).toInt ≤ 255) ∧ (∀ k : Nat, k < 8 → 0 ≤ (σ1604 11 k).toInt ∧ (σ1604 11 k).toInt ≤ 3) := id I1608
                      have i1613 : (-1) ≤ (σ1604 9 2).toInt := I1609
                      rcases h1604 with h1614 | h1615
                      · obtain ⟨q1617, k1616⟩ := h1614
                        exact absurd (by omega : False) id
                      · obtain ⟨q1619, k1618⟩ := h1615
                        refine lv_istore (lv' := [(5, .int r1605), (4, .int 0), (3, .int 8), (2, .int x24), (0, .ref (ad 9)), (1, .ref (ad 16))]) hx hb dX7_readOrder_137 hl (by decide) rfl (fun ls hl => ?_)
                        refine lv_iload hx hb dX7_readOrder_139 (lv_at hl 0 rfl) ?_
                        refine lv_iconst (v := (-1)) hx hb dX7_readOrder_141 (by decide) ?_
                        refine lv_icmp_eq (tgt := 148) hx hb dX7_readOrder_142 (by decide) (fun c => absurd (jeq c rfl jz_m1) (by omega)) (fun c1620 => ?_)
                        have kc1620 := jne c1620 rfl jz_m1
                        refine lv_iload hx hb dX7_readOrder_145 (lv_at hl 0 rfl) ?_
                        have I1621 : jI16 σ1604 := jI16_fr ((congrFun (f1606 16 (by decide)) 0).trans ((congrFun (f1590 16 (by decide)) 0).trans ((congrFun (f1574 16 (by decide)) 0).trans ((congrFun (f1564 16 (by decide)) 0).trans ((congrFun (f31 16 (by decide)) 0).trans (congrFun (f10 16 (by decide)) 0)))))) ((congrFun (f1606 16 (by decide)) 1).trans ((congrFun (f1590 16 (by decide)) 1).trans ((congrFun (f1574 16 (by decide)) 1).trans ((congrFun (f1564 16 (by decide)) 1).trans ((congrFun (f31 16 (by decide)) 1).trans (congrFun (f10 16 (by decide)) 1)))))) ((congrFun (f1606 16 (by decide)) 2).trans ((congrFun (f1590 16 (by decide)) 2).trans ((congrFun (f1574 16 (by decide)) 2).trans ((congrFun (f1564 16 (by decide)) 2).trans ((congrFun (f31 16 (by decide)) 2).trans (congrFun (f10 16 (by decide)) 2)))))) ((f1606 17 (by decide)).trans ((f1590 17 (by decide)).trans ((f1574 17 (by decide)).trans ((f1564 17 (by decide)).trans ((f31 17 (by decide)).trans (f10 17 (by decide))))))) hI16
                        exact hret r1605 σ1604 τ _ _ _ _ rfl ⟨rfl, (fun i hi => ((f1606 i (imp_48 i hi)).trans ((f1590 i (imp_48 i hi)).trans ((f1574 i (imp_48 i hi)).trans ((f1564 i (imp_48 i hi)).trans ((f31 i (imp_49 i hi)).trans (f10 i (imp_48 i hi)))))))), (fun i hi => ((f1607 i (imp_50 i hi)).trans ((f1591 i (imp_51 i hi)).trans ((f1575 i (imp_51 i hi)).trans ((f1565 i (imp_56 i hi)).trans ((f32 i (imp_51 i hi)).trans (f11 i (imp_52 i hi)))))))), (fun i hi => ((congrFun (f1606 16 (by decide)) i).trans ((congrFun (f1590 16 (by decide)) i).trans ((congrFun (f1574 16 (by decide)) i).trans ((congrFun (f1564 16 (by decide)) i).trans ((congrFun (f31 16 (by decide)) i).trans (congrFun (f10 16 (by decide)) i))))))), I1608, I1621, trivial⟩ hP hS dX7_readOrder_147
                    · have kc1603 := jne c1603 rfl jz_0
                      refine lv_aload_n hx hb dX7_readOrder_126 rfl (lv_at hl 3 rfl) ?_
                      refine lv_iconst (v := 3) hx hb dX7_readOrder_127 (by decide) ?_
                      refine jcallV (As := [.int 3]) (rest := []) ⟨hx, hb, hml, hown, hts⟩ hK hP hA hS hZ (c_X7_number_3 l D cI cL ad zz hJ σ1588 τ I1592 I1593 I1594) cw_RX7_53 (jc_9 cI cL ad σ1588 τ) rfl ⟨Nat.le_of_ble_eq_true rfl, Nat.le_of_ble_eq_true rfl⟩ rfl rfl rfl hl.1 rfl (Nat.le_of_ble_eq_true rfl) dX7_readOrder_128 ⟨Nat.zero_le _, Nat.zero_le _⟩ (fun r1623 σ1622 τ1622 H locs h1622 hP hS => ?_)
                      obtain ⟨rfl, f1624, f1625, I1626, I1627, I1628, h1622⟩ := h1622
                      obtain ⟨i1629, w1630, w1631⟩ : (0 ≤ (σ1622 9 0).toInt ∧ (σ1622 9 0).toInt ≤ 80) ∧ (∀ k : Nat, k < 80 → 0 ≤ (σ1622 10 k).toInt ∧ (σ1622 10 k).toInt ≤ 255) ∧ (∀ k : Nat, k < 8 → 0 ≤ (σ1622 11 k).toInt ∧ (σ1622 11 k).toInt ≤ 3) := id I1626
                      obtain ⟨i1632, i1633⟩ : (0 ≤ (σ1622 9 1).toInt) ∧ ((σ1622 9 1).toInt ≤ (σ1622 9 0).toInt) := id I1627
                      have i1634 : (-1) ≤ (σ1622 9 2).toInt := I1628
                      have z1635 : (σ1622 9 0).toInt = (σ 9 0).toInt := (congrArg Int32.toInt (show σ1622 9 0 = (σ 9 0) from ((f1625 0 (by decide)).trans ((f1591 0 (by decide)).trans ((f1575 0 (by decide)).trans ((f1565 0 (by decide)).trans ((f32 0 (by decide)).trans (f11 0 (by decide)))))))))
                      obtain ⟨k1636, h1622⟩ := h1622
                      have h1637 := h1622
                      obtain ⟨q1639, k1638⟩ := h1637
                      refine lv_istore (lv' := [(4, .int r1623), (3, .int 8), (2, .int x24), (0, .ref (ad 9)), (1, .ref (ad 16))]) hx hb dX7_readOrder_131 hl (by decide) rfl (fun ls hl => ?_)
                      refine lv_aload_n hx hb dX7_readOrder_133 rfl (lv_at hl 3 rfl) ?_
                      refine jcallV (As := []) (rest := []) ⟨hx, hb, hml, hown, hts⟩ hK hP hA hS hZ (c_X7_end_9 l D cI cL ad zz hJ σ1622 τ I1626 I1627 I1628) cw_RX7_57 (jc_9 cI cL ad σ1622 τ) rfl ⟨Nat.le_of_ble_eq_true rfl, Nat.le_of_ble_eq_true rfl⟩ rfl rfl rfl hl.1 rfl (Nat.le_of_ble_eq_true rfl) dX7_readOrder_134 ⟨Nat.zero_le _, Nat.zero_le _⟩ (fun r1641 σ1640 τ1640 H locs h1640 hP hS => ?_)
                      obtain ⟨rfl, f1642, f1643, I1644, I1645, h1640⟩ := h1640
                      obtain ⟨i1646, w1647, w1648⟩ : (0 ≤ (σ1640 9 0).toInt ∧ (σ1640 9 0).toInt ≤ 80) ∧ (∀ k : Nat, k < 80 → 0 ≤ (σ1640 10 k).toInt ∧ (σ1640 10 k).toInt ≤ 255) ∧ (∀ k : Nat, k < 8 → 0 ≤ (σ1640 11 k).toInt ∧ (σ1640 11 k).toInt ≤ 3) := id I1644
                      have i1649 : (-1) ≤ (σ1640 9 2).toInt := I1645
                      rcases h1640 with h1650 | h1651
                      · obtain ⟨q1653, k1652⟩ := h1650
                        exact absurd (by omega : False) id
                      · obtain ⟨q1655, k1654⟩ := h1651
                        refine lv_istore (lv' := [(5, .int r1641), (4, .int r1623), (3, .int 8), (2, .int x24), (0, .ref (ad 9)), (1, .ref (ad 16))]) hx hb dX7_readOrder_137 hl (by decide) rfl (fun ls hl => ?_)
                        refine lv_iload hx hb dX7_readOrder_139 (lv_at hl 0 rfl) ?_
                        refine lv_iconst (v := (-1)) hx hb dX7_readOrder_141 (by decide) ?_
                        refine lv_icmp_eq (tgt := 148) hx hb dX7_readOrder_142 (by decide) (fun c => absurd (jeq c rfl jz_m1) (by omega)) (fun c1656 => ?_)
                        have kc1656 := jne c1656 rfl jz_m1
                        refine lv_iload hx hb dX7_readOrder_145 (lv_at hl 0 rfl) ?_
                        have I1657 : jI16 σ1640 := jI16_fr ((congrFun (f1642 16 (by decide)) 0).trans ((congrFun (f1624 16 (by decide)) 0).trans ((congrFun (f1590 16 (by decide)) 0).trans ((congrFun (f1574 16 (by decide)) 0).trans ((congrFun (f1564 16 (by decide)) 0).trans ((congrFun (f31 16 (by decide)) 0).trans (congrFun (f10 16 (by decide)) 0))))))) ((congrFun (f1642 16 (by decide)) 1).trans ((congrFun (f1624 16 (by decide)) 1).trans ((congrFun (f1590 16 (by decide)) 1).trans ((congrFun (f1574 16 (by decide)) 1).trans ((congrFun (f1564 16 (by decide)) 1).trans ((congrFun (f31 16 (by decide)) 1).trans (congrFun (f10 16 (by decide)) 1))))))) ((congrFun (f1642 16 (by decide)) 2).trans ((congrFun (f1624 16 (by decide)) 2).trans ((congrFun (f1590 16 (by decide)) 2).trans ((congrFun (f1574 16 (by decide)) 2).trans ((congrFun (f1564 16 (by decide)) 2).trans ((congrFun (f31 16 (by decide)) 2).trans (congrFun (f10 16 (by decide)) 2))))))) ((f1642 17 (by decide)).trans ((f1624 17 (by decide)).trans ((f1590 17 (by decide)).trans ((f1574 17 (by decide)).trans ((f1564 17 (by decide)).trans ((f31 17 (by decide)).trans (f10 17 (by decide)))))))) hI16
                        exact hret r1641 σ1640 τ _ _ _ _ rfl ⟨rfl, (fun i hi => ((f1642 i (imp_48 i hi)).trans ((f1624 i (imp_48 i hi)).trans ((f1590 i (imp_48 i hi)).trans ((f1574 i (imp_48 i hi)).trans ((f1564 i (imp_48 i hi)).trans ((f31 i (imp_49 i hi)).trans (f10 i (imp_48 i hi))))))))), (fun i hi => ((f1643 i (imp_50 i hi)).trans ((f1625 i (imp_52 i hi)).trans ((f1591 i (imp_51 i hi)).trans ((f1575 i (imp_51 i hi)).trans ((f1565 i (imp_56 i hi)).trans ((f32 i (imp_51 i hi)).trans (f11 i (imp_52 i hi))))))))), (fun i hi => ((congrFun (f1642 16 (by decide)) i).trans ((congrFun (f1624 16 (by decide)) i).trans ((congrFun (f1590 16 (by decide)) i).trans ((congrFun (f1574 16 (by decide)) i).trans ((congrFun (f1564 16 (by decide)) i).trans ((congrFun (f31 16 (by decide)) i).trans (congrFun (f10 16 (by decide)) i)))))))), I1644, I1657, trivial⟩ hP hS dX7_readOrder_147
                  · have kc1587 := jne c1587 rfl jz_0
                    refine lv_aload_n hx hb dX7_readOrder_88 rfl (lv_at hl 3 rfl) ?_
                    refine va_get (D := D) hx hb hts inlX7 hown hK hP 9 (jc_9 cI cL ad σ1572 τ) rfl 1 (by decide) (hts _ kw_13_17) (fun _ h9 => h9) rfl dX7_readOrder_89 ?_
                    refine lv_istore (lv' := [(5, .int (σ1572 9 1)), (4, .int 0), (3, .int 8), (2, .int x24), (0, .ref (ad 9)), (1, .ref (ad 16))]) hx hb dX7_readOrder_92 hl (by decide) rfl (fun ls hl => ?_)
                    refine lv_aload_n hx hb dX7_readOrder_94 rfl (lv_at hl 4 rfl) ?_
                    refine lv_iconst (v := 2) hx hb dX7_readOrder_95 (by decide) ?_
                    refine jcallV (As := [.int 2]) (rest := []) ⟨hx, hb, hml, hown, hts⟩ hK hP hA hS hZ (c_X7_number_2 l D cI cL ad zz hJ σ1572 τ I1576 I1577 I1578) cw_RX7_53 (jc_9 cI cL ad σ1572 τ) rfl ⟨Nat.le_of_ble_eq_true rfl, Nat.le_of_ble_eq_true rfl⟩ rfl rfl rfl hl.1 rfl (Nat.le_of_ble_eq_true rfl) dX7_readOrder_96 ⟨Nat.zero_le _, Nat.zero_le _⟩ (fun r1659 σ1658 τ1658 H locs h1658 hP hS => ?_)
                    obtain ⟨rfl, f1660, f1661, I1662, I1663, I1664, h1658⟩ := h1658
                    obtain ⟨i1665, w1666, w1667⟩ : (0 ≤ (σ1658 9 0).toInt ∧ (σ1658 9 0).toInt ≤ 80) ∧ (∀ k : Nat, k < 80 → 0 ≤ (σ1658 10 k).toInt ∧ (σ1658 10 k).toInt ≤ 255) ∧ (∀ k : Nat, k < 8 → 0 ≤ (σ1658 11 k).toInt ∧ (σ1658 11 k).toInt ≤ 3) := id I1662
                    obtain ⟨i1668, i1669⟩ : (0 ≤ (σ1658 9 1).toInt) ∧ ((σ1658 9 1).toInt ≤ (σ1658 9 0).toInt) := id I1663
                    have i1670 : (-1) ≤ (σ1658 9 2).toInt := I1664
                    have z1671 : (σ1658 9 0).toInt = (σ 9 0).toInt := (congrArg Int32.toInt (show σ1658 9 0 = (σ 9 0) from ((f1661 0 (by decide)).trans ((f1575 0 (by decide)).trans ((f1565 0 (by decide)).trans ((f32 0 (by decide)).trans (f11 0 (by decide))))))))
                    obtain ⟨k1672, h1658⟩ := h1658
                    have h1673 := h1658
                    obtain ⟨q1675, k1674⟩ := h1673
                    refine lv_istore_n (lv' := [(3, .int r1659), (5, .int (σ1572 9 1)), (4, .int 0), (2, .int x24), (0, .ref (ad 9)), (1, .ref (ad 16))]) hx hb dX7_readOrder_99 rfl hl (by decide) rfl (fun ls hl => ?_)
                    refine lv_iload_n hx hb dX7_readOrder_100 rfl (lv_at hl 0 rfl) ?_
                    refine lv_iconst (v := 1) hx hb dX7_readOrder_101 (by decide) ?_
                    refine lv_icmp_lt (tgt := 111) hx hb dX7_readOrder_102 (by decide) (fun c1676 => ?_) (fun c1676 => ?_)
                    · have kc1676 := jlt c1676 rfl jz_1
                      refine lv_aload_n hx hb dX7_readOrder_111 rfl (lv_at hl 4 rfl) ?_
                      refine lv_iload hx hb dX7_readOrder_112 (lv_at hl 1 rfl) ?_
                      refine jcallVv (As := [.int (σ1572 9 1)]) (rest := []) ⟨hx, hb, hml, hown, hts⟩ hK hP hA hS hZ (c_X7_fail_9 l D cI cL ad zz hJ σ1658 τ (σ1572 9 1) ((σ1572 9 1).toInt) rfl I1664 (by omega)) cw_RX7_43 (jc_9 cI cL ad σ1658 τ) rfl ⟨Nat.le_of_ble_eq_true rfl, Nat.le_of_ble_eq_true rfl⟩ rfl rfl rfl hl.1 rfl (Nat.le_of_ble_eq_true rfl) dX7_readOrder_114 ⟨Nat.zero_le _, Nat.zero_le _⟩ (fun σ1677 τ1677 H locs h1677 hP hS => ?_)
                      obtain ⟨rfl, f1679, f1680, h1677⟩ := h1677
                      obtain ⟨k1681, h1677⟩ := h1677
                      refine lv_aload_n hx hb dX7_readOrder_117 rfl (lv_at hl 4 rfl) ?_
                      refine lv_bipush (v := 114) hx hb dX7_readOrder_118 (by decide) ?_
                      have I1682 : jI9 σ1677 := jI9_fr (f1680 0 (by decide)) (f1679 10 (by decide)) (f1679 11 (by decide)) I1662
                      have I1683 : jI91 σ1677 := jI91_fr (f1680 0 (by decide)) (f1680 1 (by decide)) I1663
                      have I1684 : jI92 σ1677 := (show (-1) ≤ (σ1677 9 2).toInt by omega)
                      refine jcallV (As := [.int 114]) (rest := []) ⟨hx, hb, hml, hown, hts⟩ hK hP hA hS hZ (c_X7_skip_9 l D cI cL ad zz hJ σ1677 τ 114 (114) jz_114 I1682 I1683 I1684 (by omega)) cw_RX7_50 (jc_9 cI cL ad σ1677 τ) rfl ⟨Nat.le_of_ble_eq_true rfl, Nat.le_of_ble_eq_true rfl⟩ rfl rfl rfl hl.1 rfl (Nat.le_of_ble_eq_true rfl) dX7_readOrder_120 ⟨Nat.zero_le _, Nat.zero_le _⟩ (fun r1686 σ1685 τ1685 H locs h1685 hP hS => ?_)
                      obtain ⟨rfl, f1687, f1688, I1689, I1690, I1691, h1685⟩ := h1685
                      obtain ⟨i1692, w1693, w1694⟩ : (0 ≤ (σ1685 9 0).toInt ∧ (σ1685 9 0).toInt ≤ 80) ∧ (∀ k : Nat, k < 80 → 0 ≤ (σ1685 10 k).toInt ∧ (σ1685 10 k).toInt ≤ 255) ∧ (∀ k : Nat, k < 8 → 0 ≤ (σ1685 11 k).toInt ∧ (σ1685 11 k).toInt ≤ 3) := id I1689
                      obtain ⟨i1695, i1696⟩ : (0 ≤ (σ1685 9 1).toInt) ∧ ((σ1685 9 1).toInt ≤ (σ1685 9 0).toInt) := id I1690
                      have i1697 : (-1) ≤ (σ1685 9 2).toInt := I1691
                      have z1698 : (σ1685 9 0).toInt = (σ 9 0).toInt := (congrArg Int32.toInt (show σ1685 9 0 = (σ 9 0) from ((f1688 0 (by decide)).trans ((f1680 0 (by decide)).trans ((f1661 0 (by decide)).trans ((f1575 0 (by decide)).trans ((f1565 0 (by decide)).trans ((f32 0 (by decide)).trans (f11 0 (by decide))))))))))
                      have z1699 : (σ1685 9 2).toInt = (σ1677 9 2).toInt := (congrArg Int32.toInt (show σ1685 9 2 = (σ1677 9 2) from (f1688 2 (by decide))))
                      refine lv_if_eq (tgt := 133) hx hb dX7_readOrder_123 (by decide) (fun c1700 => ?_) (fun c1700 => ?_)
                      · have kc1700 := jeq c1700 rfl jz_0
                        refine lv_aload_n hx hb dX7_readOrder_133 rfl (lv_at hl 4 rfl) ?_
                        refine jcallV (As := []) (rest := []) ⟨hx, hb, hml, hown, hts⟩ hK hP hA hS hZ (c_X7_end_9 l D cI cL ad zz hJ σ1685 τ I1689 I1690 I1691) cw_RX7_57 (jc_9 cI cL ad σ1685 τ) rfl ⟨Nat.le_of_ble_eq_true rfl, Nat.le_of_ble_eq_true rfl⟩ rfl rfl rfl hl.1 rfl (Nat.le_of_ble_eq_true rfl) dX7_readOrder_134 ⟨Nat.zero_le _, Nat.zero_le _⟩ (fun r1702 σ1701 τ1701 H locs h1701 hP hS => ?_)
                        obtain ⟨rfl, f1703, f1704, I1705, I1706, h1701⟩ := h1701
                        obtain ⟨i1707, w1708, w1709⟩ : (0 ≤ (σ1701 9 0).toInt ∧ (σ1701 9 0).toInt ≤ 80) ∧ (∀ k : Nat, k < 80 → 0 ≤ (σ1701 10 k).toInt ∧ (σ1701 10 k).toInt ≤ 255) ∧ (∀ k : Nat, k < 8 → 0 ≤ (σ1701 11 k).toInt ∧ (σ1701 11 k).toInt ≤ 3) := id I1705
                        have i1710 : (-1) ≤ (σ1701 9 2).toInt := I1706
                        rcases h1701 with h1711 | h1712
                        · obtain ⟨q1714, k1713⟩ := h1711
                          exact absurd (by omega : False) id
                        · obtain ⟨q1716, k1715⟩ := h1712
                          refine lv_istore (lv' := [(5, .int r1702), (3, .int r1659), (4, .int 0), (2, .int x24), (0, .ref (ad 9)), (1, .ref (ad 16))]) hx hb dX7_readOrder_137 hl (by decide) rfl (fun ls hl => ?_)
                          refine lv_iload hx hb dX7_readOrder_139 (lv_at hl 0 rfl) ?_
                          refine lv_iconst (v := (-1)) hx hb dX7_readOrder_141 (by decide) ?_
                          refine lv_icmp_eq (tgt := 148) hx hb dX7_readOrder_142 (by decide) (fun c => absurd (jeq c rfl jz_m1) (by omega)) (fun c1717 => ?_)
                          have kc1717 := jne c1717 rfl jz_m1
                          refine lv_iload hx hb dX7_readOrder_145 (lv_at hl 0 rfl) ?_
                          have I1718 : jI16 σ1701 := jI16_fr ((congrFun (f1703 16 (by decide)) 0).trans ((congrFun (f1687 16 (by decide)) 0).trans ((congrFun (f1679 16 (by decide)) 0).trans ((congrFun (f1660 16 (by decide)) 0).trans ((congrFun (f1574 16 (by decide)) 0).trans ((congrFun (f1564 16 (by decide)) 0).trans ((congrFun (f31 16 (by decide)) 0).trans (congrFun (f10 16 (by decide)) 0)))))))) ((congrFun (f1703 16 (by decide)) 1).trans ((congrFun (f1687 16 (by decide)) 1).trans ((congrFun (f1679 16 (by decide)) 1).trans ((congrFun (f1660 16 (by decide)) 1).trans ((congrFun (f1574 16 (by decide)) 1).trans ((congrFun (f1564 16 (by decide)) 1).trans ((congrFun (f31 16 (by decide)) 1).trans (congrFun (f10 16 (by decide)) 1)))))))) ((congrFun (f1703 16 (by decide)) 2).trans ((congrFun (f1687 16 (by decide)) 2).trans ((congrFun (f1679 16 (by decide)) 2).trans ((congrFun (f1660 16 (by decide)) 2).trans ((congrFun (f1574 16 (by decide)) 2).trans ((congrFun (f1564 16 (by decide)) 2).trans ((congrFun (f31 16 (by decide)) 2).trans (congrFun (f10 16 (by decide)) 2)))))))) ((f1703 17 (by decide)).trans ((f1687 17 (by decide)).trans ((f1679 17 (by decide)).trans ((f1660 17 (by decide)).trans ((f1574 17 (by decide)).trans ((f1564 17 (by decide)).trans ((f31 17 (by decide)).trans (f10 17 (by decide))))))))) hI16
                          exact hret r1702 σ1701 τ _ _ _ _ rfl ⟨rfl, (fun i hi => ((f1703 i (imp_48 i hi)).trans ((f1687 i (imp_48 i hi)).trans ((f1679 i (imp_48 i hi)).trans ((f1660 i (imp_48 i hi)).trans ((f1574 i (imp_48 i hi)).trans ((f1564 i (imp_48 i hi)).trans ((f31 i (imp_49 i hi)).trans (f10 i (imp_48 i hi)))))))))), (fun i hi => ((f1704 i (imp_50 i hi)).trans ((f1688 i (imp_51 i hi)).trans ((f1680 i (imp_56 i hi)).trans ((f1661 i (imp_52 i hi)).trans ((f1575 i (imp_51 i hi)).trans ((f1565 i (imp_56 i hi)).trans ((f32 i (imp_51 i hi)).trans (f11 i (imp_52 i hi)))))))))), (fun i hi => ((congrFun (f1703 16 (by decide)) i).trans ((congrFun (f1687 16 (by decide)) i).trans ((congrFun (f1679 16 (by decide)) i).trans ((congrFun (f1660 16 (by decide)) i).trans ((congrFun (f1574 16 (by decide)) i).trans ((congrFun (f1564 16 (by decide)) i).trans ((congrFun (f31 16 (by decide)) i).trans (congrFun (f10 16 (by decide)) i))))))))), I1705, I1718, trivial⟩ hP hS dX7_readOrder_147
                      · have kc1700 := jne c1700 rfl jz_0
                        refine lv_aload_n hx hb dX7_readOrder_126 rfl (lv_at hl 4 rfl) ?_
                        refine lv_iconst (v := 3) hx hb dX7_readOrder_127 (by decide) ?_
                        refine jcallV (As := [.int 3]) (rest := []) ⟨hx, hb, hml, hown, hts⟩ hK hP hA hS hZ (c_X7_number_3 l D cI cL ad zz hJ σ1685 τ I1689 I1690 I1691) cw_RX7_53 (jc_9 cI cL ad σ1685 τ) rfl ⟨Nat.le_of_ble_eq_true rfl, Nat.le_of_ble_eq_true rfl⟩ rfl rfl rfl hl.1 rfl (Nat.le_of_ble_eq_true rfl) dX7_readOrder_128 ⟨Nat.zero_le _, Nat.zero_le _⟩ (fun r1720 σ1719 τ1719 H locs h1719 hP hS => ?_)
                        obtain ⟨rfl, f1721, f1722, I1723, I1724, I1725, h1719⟩ := h1719
                        obtain ⟨i1726, w1727, w1728⟩ : (0 ≤ (σ1719 9 0).toInt ∧ (σ1719 9 0).toInt ≤ 80) ∧ (∀ k : Nat, k < 80 → 0 ≤ (σ1719 10 k).toInt ∧ (σ1719 10 k).toInt ≤ 255) ∧ (∀ k : Nat, k < 8 → 0 ≤ (σ1719 11 k).toInt ∧ (σ1719 11 k).toInt ≤ 3) := id I1723
                        obtain ⟨i1729, i1730⟩ : (0 ≤ (σ1719 9 1).toInt) ∧ ((σ1719 9 1).toInt ≤ (σ1719 9 0).toInt) := id I1724
                        have i1731 : (-1) ≤ (σ1719 9 2).toInt := I1725
                        have z1732 : (σ1719 9 0).toInt = (σ 9 0).toInt := (congrArg Int32.toInt (show σ1719 9 0 = (σ 9 0) from ((f1722 0 (by decide)).trans ((f1688 0 (by decide)).trans ((f1680 0 (by decide)).trans ((f1661 0 (by decide)).trans ((f1575 0 (by decide)).trans ((f1565 0 (by decide)).trans ((f32 0 (by decide)).trans (f11 0 (by decide)))))))))))
                        obtain ⟨k1733, h1719⟩ := h1719
                        have h1734 := h1719
                        obtain ⟨q1736, k1735⟩ := h1734
                        refine lv_istore (lv' := [(4, .int r1720), (3, .int r1659), (5, .int (σ1572 9 1)), (2, .int x24), (0, .ref (ad 9)), (1, .ref (ad 16))]) hx hb dX7_readOrder_131 hl (by decide) rfl (fun ls hl => ?_)
                        refine lv_aload_n hx hb dX7_readOrder_133 rfl (lv_at hl 4 rfl) ?_
                        refine jcallV (As := []) (rest := []) ⟨hx, hb, hml, hown, hts⟩ hK hP hA hS hZ (c_X7_end_9 l D cI cL ad zz hJ σ1719 τ I1723 I1724 I1725) cw_RX7_57 (jc_9 cI cL ad σ1719 τ) rfl ⟨Nat.le_of_ble_eq_true rfl, Nat.le_of_ble_eq_true rfl⟩ rfl rfl rfl hl.1 rfl (Nat.le_of_ble_eq_true rfl) dX7_readOrder_134 ⟨Nat.zero_le _, Nat.zero_le _⟩ (fun r1738 σ1737 τ1737 H locs h1737 hP hS => ?_)
                        obtain ⟨rfl, f1739, f1740, I1741, I1742, h1737⟩ := h1737
                        obtain ⟨i1743, w1744, w1745⟩ : (0 ≤ (σ1737 9 0).toInt ∧ (σ1737 9 0).toInt ≤ 80) ∧ (∀ k : Nat, k < 80 → 0 ≤ (σ1737 10 k).toInt ∧ (σ1737 10 k).toInt ≤ 255) ∧ (∀ k : Nat, k < 8 → 0 ≤ (σ1737 11 k).toInt ∧ (σ1737 11 k).toInt ≤ 3) := id I1741
                        have i1746 : (-1) ≤ (σ1737 9 2).toInt := I1742
                        rcases h1737 with h1747 | h1748
                        · obtain ⟨q1750, k1749⟩ := h1747
                          exact absurd (by omega : False) id
                        · obtain ⟨q1752, k1751⟩ := h1748
                          refine lv_istore (lv' := [(5, .int r1738), (4, .int r1720), (3, .int r1659), (2, .int x24), (0, .ref (ad 9)), (1, .ref (ad 16))]) hx hb dX7_readOrder_137 hl (by decide) rfl (fun ls hl => ?_)
                          refine lv_iload hx hb dX7_readOrder_139 (lv_at hl 0 rfl) ?_
                          refine lv_iconst (v := (-1)) hx hb dX7_readOrder_141 (by decide) ?_
                          refine lv_icmp_eq (tgt := 148) hx hb dX7_readOrder_142 (by decide) (fun c => absurd (jeq c rfl jz_m1) (by omega)) (fun c1753 => ?_)
                          have kc1753 := jne c1753 rfl jz_m1
                          refine lv_iload hx hb dX7_readOrder_145 (lv_at hl 0 rfl) ?_
                          have I1754 : jI16 σ1737 := jI16_fr ((congrFun (f1739 16 (by decide)) 0).trans ((congrFun (f1721 16 (by decide)) 0).trans ((congrFun (f1687 16 (by decide)) 0).trans ((congrFun (f1679 16 (by decide)) 0).trans ((congrFun (f1660 16 (by decide)) 0).trans ((congrFun (f1574 16 (by decide)) 0).trans ((congrFun (f1564 16 (by decide)) 0).trans ((congrFun (f31 16 (by decide)) 0).trans (congrFun (f10 16 (by decide)) 0))))))))) ((congrFun (f1739 16 (by decide)) 1).trans ((congrFun (f1721 16 (by decide)) 1).trans ((congrFun (f1687 16 (by decide)) 1).trans ((congrFun (f1679 16 (by decide)) 1).trans ((congrFun (f1660 16 (by decide)) 1).trans ((congrFun (f1574 16 (by decide)) 1).trans ((congrFun (f1564 16 (by decide)) 1).trans ((congrFun (f31 16 (by decide)) 1).trans (congrFun (f10 16 (by decide)) 1))))))))) ((congrFun (f1739 16 (by decide)) 2).trans ((congrFun (f1721 16 (by decide)) 2).trans ((congrFun (f1687 16 (by decide)) 2).trans ((congrFun (f1679 16 (by decide)) 2).trans ((congrFun (f1660 16 (by decide)) 2).trans ((congrFun (f1574 16 (by decide)) 2).trans ((congrFun (f1564 16 (by decide)) 2).trans ((congrFun (f31 16 (by decide)) 2).trans (congrFun (f10 16 (by decide)) 2))))))))) ((f1739 17 (by decide)).trans ((f1721 17 (by decide)).trans ((f1687 17 (by decide)).trans ((f1679 17 (by decide)).trans ((f1660 17 (by decide)).trans ((f1574 17 (by decide)).trans ((f1564 17 (by decide)).trans ((f31 17 (by decide)).trans (f10 17 (by decide)))))))))) hI16
                          exact hret r1738 σ1737 τ _ _ _ _ rfl ⟨rfl, (fun i hi => ((f1739 i (imp_48 i hi)).trans ((f1721 i (imp_48 i hi)).trans ((f1687 i (imp_48 i hi)).trans ((f1679 i (imp_48 i hi)).trans ((f1660 i (imp_48 i hi)).trans ((f1574 i (imp_48 i hi)).trans ((f1564 i (imp_48 i hi)).trans ((f31 i (imp_49 i hi)).trans (f10 i (imp_48 i hi))))))))))), (fun i hi => ((f1740 i (imp_50 i hi)).trans ((f1722 i (imp_52 i hi)).trans ((f1688 i (imp_51 i hi)).trans ((f1680 i (imp_56 i hi)).trans ((f1661 i (imp_52 i hi)).trans ((f1575 i (imp_51 i hi)).trans ((f1565 i (imp_56 i hi)).trans ((f32 i (imp_51 i hi)).trans (f11 i (imp_52 i hi))))))))))), (fun i hi => ((congrFun (f1739 16 (by decide)) i).trans ((congrFun (f1721 16 (by decide)) i).trans ((congrFun (f1687 16 (by decide)) i).trans ((congrFun (f1679 16 (by decide)) i).trans ((congrFun (f1660 16 (by decide)) i).trans ((congrFun (f1574 16 (by decide)) i).trans ((congrFun (f1564 16 (by decide)) i).trans ((congrFun (f31 16 (by decide)) i).trans (congrFun (f10 16 (by decide)) i)))))))))), I1741, I1754, trivial⟩ hP hS dX7_readOrder_147
                    · have kc1676 := jnlt c1676 rfl jz_1
                      refine lv_iload_n hx hb dX7_readOrder_105 rfl (lv_at hl 0 rfl) ?_
                      refine lv_bipush (v := 12) hx hb dX7_readOrder_106 (by decide) ?_
                      refine lv_icmp_le (tgt := 117) hx hb dX7_readOrder_108 (by decide) (fun c1755 => ?_) (fun c1755 => ?_)
                      · have kc1755 := jle c1755 rfl jz_12
                        refine lv_aload_n hx hb dX7_readOrder_117 rfl (lv_at hl 4 rfl) ?_
                        refine lv_bipush (v := 114) hx hb dX7_readOrder_118 (by decide) ?_
                        refine jcallV (As := [.int 114]) (rest := []) ⟨hx, hb, hml, hown, hts⟩ hK hP hA hS hZ (c_X7_skip_9 l D cI cL ad zz hJ σ1658 τ 114 (114) jz_114 I1662 I1663 I1664 (by omega)) cw_RX7_50 (jc_9 cI cL ad σ1658 τ) rfl ⟨Nat.le_of_ble_eq_true rfl, Nat.le_of_ble_eq_true rfl⟩ rfl rfl rfl hl.1 rfl (Nat.le_of_ble_eq_true rfl) dX7_readOrder_120 ⟨Nat.zero_le _, Nat.zero_le _⟩ (fun r1757 σ1756 τ1756 H locs h1756 hP hS => ?_)
                        obtain ⟨rfl, f1758, f1759, I1760, I1761, I1762, h1756⟩ := h1756
                        obtain ⟨i1763, w1764, w1765⟩ : (0 ≤ (σ1756 9 0).toInt ∧ (σ1756 9 0).toInt ≤ 80) ∧ (∀ k : Nat, k < 80 → 0 ≤ (σ1756 10 k).toInt ∧ (σ1756 10 k).toInt ≤ 255) ∧ (∀ k : Nat, k < 8 → 0 ≤ (σ1756 11 k).toInt ∧ (σ1756 11 k).toInt ≤ 3) := id I1760
                        obtain ⟨i1766, i1767⟩ : (0 ≤ (σ1756 9 1).toInt) ∧ ((σ1756 9 1).toInt ≤ (σ1756 9 0).toInt) := id I1761
                        have i1768 : (-1) ≤ (σ1756 9 2).toInt := I1762
                        have z1769 : (σ1756 9 0).toInt = (σ 9 0).toInt := (congrArg Int32.toInt (show σ1756 9 0 = (σ 9 0) from ((f1759 0 (by decide)).trans ((f1661 0 (by decide)).trans ((f1575 0 (by decide)).trans ((f1565 0 (by decide)).trans ((f32 0 (by decide)).trans (f11 0 (by decide)))))))))
                        have z1770 : (σ1756 9 2).toInt = (σ1658 9 2).toInt := (congrArg Int32.toInt (show σ1756 9 2 = (σ1658 9 2) from (f1759 2 (by decide))))
                        refine lv_if_eq (tgt := 133) hx hb dX7_readOrder_123 (by decide) (fun c1771 => ?_) (fun c1771 => ?_)
                        · have kc1771 := jeq c1771 rfl jz_0
                          refine lv_aload_n hx hb dX7_readOrder_133 rfl (lv_at hl 4 rfl) ?_
                          refine jcallV (As := []) (rest := []) ⟨hx, hb, hml, hown, hts⟩ hK hP hA hS hZ (c_X7_end_9 l D cI cL ad zz hJ σ1756 τ I1760 I1761 I1762) cw_RX7_57 (jc_9 cI cL ad σ1756 τ) rfl ⟨Nat.le_of_ble_eq_true rfl, Nat.le_of_ble_eq_true rfl⟩ rfl rfl rfl hl.1 rfl (Nat.le_of_ble_eq_true rfl) dX7_readOrder_134 ⟨Nat.zero_le _, Nat.zero_le _⟩ (fun r1773 σ1772 τ1772 H locs h1772 hP hS => ?_)
                          obtain ⟨rfl, f1774, f1775, I1776, I1777, h1772⟩ := h1772
                          obtain ⟨i1778, w1779, w1780⟩ : (0 ≤ (σ1772 9 0).toInt ∧ (σ1772 9 0).toInt ≤ 80) ∧ (∀ k : Nat, k < 80 → 0 ≤ (σ1772 10 k).toInt ∧ (σ1772 10 k).toInt ≤ 255) ∧ (∀ k : Nat, k < 8 → 0 ≤ (σ1772 11 k).toInt ∧ (σ1772 11 k).toInt ≤ 3) := id I1776
                          have i1781 : (-1) ≤ (σ1772 9 2).toInt := I1777
                          rcases h1772 with h1782 | h1783
                          · obtain ⟨q1785, k1784⟩ := h1782
                            exact absurd (by omega : False) id
                          · obtain ⟨q1787, k1786⟩ := h1783
                            refine lv_istore (lv' := [(5, .int r1773), (3, .int r1659), (4, .int 0), (2, .int x24), (0, .ref (ad 9)), (1, .ref (ad 16))]) hx hb dX7_readOrder_137 hl (by decide) rfl (fun ls hl => ?_)
                            refine lv_iload hx hb dX7_readOrder_139 (lv_at hl 0 rfl) ?_
                            refine lv_iconst (v := (-1)) hx hb dX7_readOrder_141 (by decide) ?_
                            refine lv_icmp_eq (tgt := 148) hx hb dX7_readOrder_142 (by decide) (fun c => absurd (jeq c rfl jz_m1) (by omega)) (fun c1788 => ?_)
                            have kc1788 := jne c1788 rfl jz_m1
                            refine lv_iload hx hb dX7_readOrder_145 (lv_at hl 0 rfl) ?_
                            have I1789 : jI16 σ1772 := jI16_fr ((congrFun (f1774 16 (by decide)) 0).trans ((congrFun (f1758 16 (by decide)) 0).trans ((congrFun (f1660 16 (by decide)) 0).trans ((congrFun (f1574 16 (by decide)) 0).trans ((congrFun (f1564 16 (by decide)) 0).trans ((congrFun (f31 16 (by decide)) 0).trans (congrFun (f10 16 (by decide)) 0))))))) ((congrFun (f1774 16 (by decide)) 1).trans ((congrFun (f1758 16 (by decide)) 1).trans ((congrFun (f1660 16 (by decide)) 1).trans ((congrFun (f1574 16 (by decide)) 1).trans ((congrFun (f1564 16 (by decide)) 1).trans ((congrFun (f31 16 (by decide)) 1).trans (congrFun (f10 16 (by decide)) 1))))))) ((congrFun (f1774 16 (by decide)) 2).trans ((congrFun (f1758 16 (by decide)) 2).trans ((congrFun (f1660 16 (by decide)) 2).trans ((congrFun (f1574 16 (by decide)) 2).trans ((congrFun (f1564 16 (by decide)) 2).trans ((congrFun (f31 16 (by decide)) 2).trans (congrFun (f10 16 (by decide)) 2))))))) ((f1774 17 (by decide)).trans ((f1758 17 (by decide)).trans ((f1660 17 (by decide)).trans ((f1574 17 (by decide)).trans ((f1564 17 (by decide)).trans ((f31 17 (by decide)).trans (f10 17 (by decide)))))))) hI16
                            exact hret r1773 σ1772 τ _ _ _ _ rfl ⟨rfl, (fun i hi => ((f1774 i (imp_48 i hi)).trans ((f1758 i (imp_48 i hi)).trans ((f1660 i (imp_48 i hi)).trans ((f1574 i (imp_48 i hi)).trans ((f1564 i (imp_48 i hi)).trans ((f31 i (imp_49 i hi)).trans (f10 i (imp_48 i hi))))))))), (fun i hi => ((f1775 i (imp_50 i hi)).trans ((f1759 i (imp_51 i hi)).trans ((f1661 i (imp_52 i hi)).trans ((f1575 i (imp_51 i hi)).trans ((f1565 i (imp_56 i hi)).trans ((f32 i (imp_51 i hi)).trans (f11 i (imp_52 i hi))))))))), (fun i hi => ((congrFun (f1774 16 (by decide)) i).trans ((congrFun (f1758 16 (by decide)) i).trans ((congrFun (f1660 16 (by decide)) i).trans ((congrFun (f1574 16 (by decide)) i).trans ((congrFun (f1564 16 (by decide)) i).trans ((congrFun (f31 16 (by decide)) i).trans (congrFun (f10 16 (by decide)) i)))))))), I1776, I1789, trivial⟩ hP hS dX7_readOrder_147
                        · have kc1771 := jne c1771 rfl jz_0
                          refine lv_aload_n hx hb dX7_readOrder_126 rfl (lv_at hl 4 rfl) ?_
                          refine lv_iconst (v := 3) hx hb dX7_readOrder_127 (by decide) ?_
                          refine jcallV (As := [.int 3]) (rest := []) ⟨hx, hb, hml, hown, hts⟩ hK hP hA hS hZ (c_X7_number_3 l D cI cL ad zz hJ σ1756 τ I1760 I1761 I1762) cw_RX7_53 (jc_9 cI cL ad σ1756 τ) rfl ⟨Nat.le_of_ble_eq_true rfl, Nat.le_of_ble_eq_true rfl⟩ rfl rfl rfl hl.1 rfl (Nat.le_of_ble_eq_true rfl) dX7_readOrder_128 ⟨Nat.zero_le _, Nat.zero_le _⟩ (fun r1791 σ1790 τ1790 H locs h1790 hP hS => ?_)
                          obtain ⟨rfl, f1792, f1793, I1794, I1795, I1796, h1790⟩ := h1790
                          obtain ⟨i1797, w1798, w1799⟩ : (0 ≤ (σ1790 9 0).toInt ∧ (σ1790 9 0).toInt ≤ 80) ∧ (∀ k : Nat, k < 80 → 0 ≤ (σ1790 10 k).toInt ∧ (σ1790 10 k).toInt ≤ 255) ∧ (∀ k : Nat, k < 8 → 0 ≤ (σ1790 11 k).toInt ∧ (σ1790 11 k).toInt ≤ 3) := id I1794
                          obtain ⟨i1800, i1801⟩ : (0 ≤ (σ1790 9 1).toInt) ∧ ((σ1790 9 1).toInt ≤ (σ1790 9 0).toInt) := id I1795
                          have i1802 : (-1) ≤ (σ1790 9 2).toInt := I1796
                          have z1803 : (σ1790 9 0).toInt = (σ 9 0).toInt := (congrArg Int32.toInt (show σ1790 9 0 = (σ 9 0) from ((f1793 0 (by decide)).trans ((f1759 0 (by decide)).trans ((f1661 0 (by decide)).trans ((f1575 0 (by decide)).trans ((f1565 0 (by decide)).trans ((f32 0 (by decide)).trans (f11 0 (by decide))))))))))
                          obtain ⟨k1804, h1790⟩ := h1790
                          have h1805 := h1790
                          obtain ⟨q1807, k1806⟩ := h1805
                          refine lv_istore (lv' := [(4, .int r1791), (3, .int r1659), (5, .int (σ1572 9 1)), (2, .int x24), (0, .ref (ad 9)), (1, .ref (ad 16))]) hx hb dX7_readOrder_131 hl (by decide) rfl (fun ls hl => ?_)
                          refine lv_aload_n hx hb dX7_readOrder_133 rfl (lv_at hl 4 rfl) ?_
                          refine jcallV (As := []) (rest := []) ⟨hx, hb, hml, hown, hts⟩ hK hP hA hS hZ (c_X7_end_9 l D cI cL ad zz hJ σ1790 τ I1794 I1795 I1796) cw_RX7_57 (jc_9 cI cL ad σ1790 τ) rfl ⟨Nat.le_of_ble_eq_true rfl, Nat.le_of_ble_eq_true rfl⟩ rfl rfl rfl hl.1 rfl (Nat.le_of_ble_eq_true rfl) dX7_readOrder_134 ⟨Nat.zero_le _, Nat.zero_le _⟩ (fun r1809 σ1808 τ1808 H locs h1808 hP hS => ?_)
                          obtain ⟨rfl, f1810, f1811, I1812, I1813, h1808⟩ := h1808
                          obtain ⟨i1814, w1815, w1816⟩ : (0 ≤ (σ1808 9 0).toInt ∧ (σ1808 9 0).toInt ≤ 80) ∧ (∀ k : Nat, k < 80 → 0 ≤ (σ1808 10 k).toInt ∧ (σ1808 10 k).toInt ≤ 255) ∧ (∀ k : Nat, k < 8 → 0 ≤ (σ1808 11 k).toInt ∧ (σ1808 11 k).toInt ≤ 3) := id I1812
                          have i1817 : (-1) ≤ (σ1808 9 2).toInt := I1813
                          rcases h1808 with h1818 | h1819
                          · obtain ⟨q1821, k1820⟩ := h1818
                            exact absurd (by omega : False) id
                          · obtain ⟨q1823, k1822⟩ := h1819
                            refine lv_istore (lv' := [(5, .int r1809), (4, .int r1791), (3, .int r1659), (2, .int x24), (0, .ref (ad 9)), (1, .ref (ad 16))]) hx hb dX7_readOrder_137 hl (by decide) rfl (fun ls hl => ?_)
                            refine lv_iload hx hb dX7_readOrder_139 (lv_at hl 0 rfl) ?_
                            refine lv_iconst (v := (-1)) hx hb dX7_readOrder_141 (by decide) ?_
                            refine lv_icmp_eq (tgt := 148) hx hb dX7_readOrder_142 (by decide) (fun c => absurd (jeq c rfl jz_m1) (by omega)) (fun c1824 => ?_)
                            have kc1824 := jne c1824 rfl jz_m1
                            refine lv_iload hx hb dX7_readOrder_145 (lv_at hl 0 rfl) ?_
                            have I1825 : jI16 σ1808 := jI16_fr ((congrFun (f1810 16 (by decide)) 0).trans ((congrFun (f1792 16 (by decide)) 0).trans ((congrFun (f1758 16 (by decide)) 0).trans ((congrFun (f1660 16 (by decide)) 0).trans ((congrFun (f1574 16 (by decide)) 0).trans ((congrFun (f1564 16 (by decide)) 0).trans ((congrFun (f31 16 (by decide)) 0).trans (congrFun (f10 16 (by decide)) 0)))))))) ((congrFun (f1810 16 (by decide)) 1).trans ((congrFun (f1792 16 (by decide)) 1).trans ((congrFun (f1758 16 (by decide)) 1).trans ((congrFun (f1660 16 (by decide)) 1).trans ((congrFun (f1574 16 (by decide)) 1).trans ((congrFun (f1564 16 (by decide)) 1).trans ((congrFun (f31 16 (by decide)) 1).trans (congrFun (f10 16 (by decide)) 1)))))))) ((congrFun (f1810 16 (by decide)) 2).trans ((congrFun (f1792 16 (by decide)) 2).trans ((congrFun (f1758 16 (by decide)) 2).trans ((congrFun (f1660 16 (by decide)) 2).trans ((congrFun (f1574 16 (by decide)) 2).trans ((congrFun (f1564 16 (by decide)) 2).trans ((congrFun (f31 16 (by decide)) 2).trans (congrFun (f10 16 (by decide)) 2)))))))) ((f1810 17 (by decide)).trans ((f1792 17 (by decide)).trans ((f1758 17 (by decide)).trans ((f1660 17 (by decide)).trans ((f1574 17 (by decide)).trans ((f1564 17 (by decide)).trans ((f31 17 (by decide)).trans (f10 17 (by decide))))))))) hI16
                            exact hret r1809 σ1808 τ _ _ _ _ rfl ⟨rfl, (fun i hi => ((f1810 i (imp_48 i hi)).trans ((f1792 i (imp_48 i hi)).trans ((f1758 i (imp_48 i hi)).trans ((f1660 i (imp_48 i hi)).trans ((f1574 i (imp_48 i hi)).trans ((f1564 i (imp_48 i hi)).trans ((f31 i (imp_49 i hi)).trans (f10 i (imp_48 i hi)))))))))), (fun i hi => ((f1811 i (imp_50 i hi)).trans ((f1793 i (imp_52 i hi)).trans ((f1759 i (imp_51 i hi)).trans ((f1661 i (imp_52 i hi)).trans ((f1575 i (imp_51 i hi)).trans ((f1565 i (imp_56 i hi)).trans ((f32 i (imp_51 i hi)).trans (f11 i (imp_52 i hi)))))))))), (fun i hi => ((congrFun (f1810 16 (by decide)) i).trans ((congrFun (f1792 16 (by decide)) i).trans ((congrFun (f1758 16 (by decide)) i).trans ((congrFun (f1660 16 (by decide)) i).trans ((congrFun (f1574 16 (by decide)) i).trans ((congrFun (f1564 16 (by decide)) i).trans ((congrFun (f31 16 (by decide)) i).trans (congrFun (f10 16 (by decide)) i))))))))), I1812, I1825, trivial⟩ hP hS dX7_readOrder_147
                      · have kc1755 := jnle c1755 rfl jz_12
                        refine lv_aload_n hx hb dX7_readOrder_111 rfl (lv_at hl 4 rfl) ?_
                        refine lv_iload hx hb dX7_readOrder_112 (lv_at hl 1 rfl) ?_
                        refine jcallVv (As := [.int (σ1572 9 1)]) (rest := []) ⟨hx, hb, hml, hown, hts⟩ hK hP hA hS hZ (c_X7_fail_9 l D cI cL ad zz hJ σ1658 τ (σ1572 9 1) ((σ1572 9 1).toInt) rfl I1664 (by omega)) cw_RX7_43 (jc_9 cI cL ad σ1658 τ) rfl ⟨Nat.le_of_ble_eq_true rfl, Nat.le_of_ble_eq_true rfl⟩ rfl rfl rfl hl.1 rfl (Nat.le_of_ble_eq_true rfl) dX7_readOrder_114 ⟨Nat.zero_le _, Nat.zero_le _⟩ (fun σ1826 τ1826 H locs h1826 hP hS => ?_)
                        obtain ⟨rfl, f1828, f1829, h1826⟩ := h1826
                        obtain ⟨k1830, h1826⟩ := h1826
                        refine lv_aload_n hx hb dX7_readOrder_117 rfl (lv_at hl 4 rfl) ?_
                        refine lv_bipush (v := 114) hx hb dX7_readOrder_118 (by decide) ?_
                        have I1831 : jI9 σ1826 := jI9_fr (f1829 0 (by decide)) (f1828 10 (by decide)) (f1828 11 (by decide)) I1662
                        have I1832 : jI91 σ1826 := jI91_fr (f1829 0 (by decide)) (f1829 1 (by decide)) I1663
                        have I1833 : jI92 σ1826 := (show (-1) ≤ (σ1826 9 2).toInt by omega)
                        refine jcallV (As := [.int 114]) (rest := []) ⟨hx, hb, hml, hown, hts⟩ hK hP hA hS hZ (c_X7_skip_9 l D cI cL ad zz hJ σ1826 τ 114 (114) jz_114 I1831 I1832 I1833 (by omega)) cw_RX7_50 (jc_9 cI cL ad σ1826 τ) rfl ⟨Nat.le_of_ble_eq_true rfl, Nat.le_of_ble_eq_true rfl⟩ rfl rfl rfl hl.1 rfl (Nat.le_of_ble_eq_true rfl) dX7_readOrder_120 ⟨Nat.zero_le _, Nat.zero_le _⟩ (fun r1835 σ1834 τ1834 H locs h1834 hP hS => ?_)
                        obtain ⟨rfl, f1836, f1837, I1838, I1839, I1840, h1834⟩ := h1834
                        obtain ⟨i1841, w1842, w1843⟩ : (0 ≤ (σ1834 9 0).toInt ∧ (σ1834 9 0).toInt ≤ 80) ∧ (∀ k : Nat, k < 80 → 0 ≤ (σ1834 10 k).toInt ∧ (σ1834 10 k).toInt ≤ 255) ∧ (∀ k : Nat, k < 8 → 0 ≤ (σ1834 11 k).toInt ∧ (σ1834 11 k).toInt ≤ 3) := id I1838
                        obtain ⟨i1844, i1845⟩ : (0 ≤ (σ1834 9 1).toInt) ∧ ((σ1834 9 1).toInt ≤ (σ1834 9 0).toInt) := id I1839
                        have i1846 : (-1) ≤ (σ1834 9 2).toInt := I1840
                        have z1847 : (σ1834 9 0).toInt = (σ 9 0).toInt := (congrArg Int32.toInt (show σ1834 9 0 = (σ 9 0) from ((f1837 0 (by decide)).trans ((f1829 0 (by decide)).trans ((f1661 0 (by decide)).trans ((f1575 0 (by decide)).trans ((f1565 0 (by decide)).trans ((f32 0 (by decide)).trans (f11 0 (by decide))))))))))
                        have z1848 : (σ1834 9 2).toInt = (σ1826 9 2).toInt := (congrArg Int32.toInt (show σ1834 9 2 = (σ1826 9 2) from (f1837 2 (by decide))))
                        refine lv_if_eq (tgt := 133) hx hb dX7_readOrder_123 (by decide) (fun c1849 => ?_) (fun c1849 => ?_)
                        · have kc1849 := jeq c1849 rfl jz_0
                          refine lv_aload_n hx hb dX7_readOrder_133 rfl (lv_at hl 4 rfl) ?_
                          refine jcallV (As := []) (rest := []) ⟨hx, hb, hml, hown, hts⟩ hK hP hA hS hZ (c_X7_end_9 l D cI cL ad zz hJ σ1834 τ I1838 I1839 I1840) cw_RX7_57 (jc_9 cI cL ad σ1834 τ) rfl ⟨Nat.le_of_ble_eq_true rfl, Nat.le_of_ble_eq_true rfl⟩ rfl rfl rfl hl.1 rfl (Nat.le_of_ble_eq_true rfl) dX7_readOrder_134 ⟨Nat.zero_le _, Nat.zero_le _⟩ (fun r1851 σ1850 τ1850 H locs h1850 hP hS => ?_)
                          obtain ⟨rfl, f1852, f1853, I1854, I1855, h1850⟩ := h1850
                          obtain ⟨i1856, w1857, w1858⟩ : (0 ≤ (σ1850 9 0).toInt ∧ (σ1850 9 0).toInt ≤ 80) ∧ (∀ k : Nat, k < 80 → 0 ≤ (σ1850 10 k).toInt ∧ (σ1850 10 k).toInt ≤ 255) ∧ (∀ k : Nat, k < 8 → 0 ≤ (σ1850 11 k).toInt ∧ (σ1850 11 k).toInt ≤ 3) := id I1854
                          have i1859 : (-1) ≤ (σ1850 9 2).toInt := I1855
                          rcases h1850 with h1860 | h1861
                          · obtain ⟨q1863, k1862⟩ := h1860
                            exact absurd (by omega : False) id
                          · obtain ⟨q1865, k1864⟩ := h1861
                            refine lv_istore (lv' := [(5, .int r1851), (3, .int r1659), (4, .int 0), (2, .int x24), (0, .ref (ad 9)), (1, .ref (ad 16))]) hx hb dX7_readOrder_137 hl (by decide) rfl (fun ls hl => ?_)
                            refine lv_iload hx hb dX7_readOrder_139 (lv_at hl 0 rfl) ?_
                            refine lv_iconst (v := (-1)) hx hb dX7_readOrder_141 (by decide) ?_
                            refine lv_icmp_eq (tgt := 148) hx hb dX7_readOrder_142 (by decide) (fun c => absurd (jeq c rfl jz_m1) (by omega)) (fun c1866 => ?_)
                            have kc1866 := jne c1866 rfl jz_m1
                            refine lv_iload hx hb dX7_readOrder_145 (lv_at hl 0 rfl) ?_
                            have I1867 : jI16 σ1850 := jI16_fr ((congrFun (f1852 16 (by decide)) 0).trans ((congrFun (f1836 16 (by decide)) 0).trans ((congrFun (f1828 16 (by decide)) 0).trans ((congrFun (f1660 16 (by decide)) 0).trans ((congrFun (f1574 16 (by decide)) 0).trans ((congrFun (f1564 16 (by decide)) 0).trans ((congrFun (f31 16 (by decide)) 0).trans (congrFun (f10 16 (by decide)) 0)))))))) ((congrFun (f1852 16 (by decide)) 1).trans ((congrFun (f1836 16 (by decide)) 1).trans ((congrFun (f1828 16 (by decide)) 1).trans ((congrFun (f1660 16 (by decide)) 1).trans ((congrFun (f1574 16 (by decide)) 1).trans ((congrFun (f1564 16 (by decide)) 1).trans ((congrFun (f31 16 (by decide)) 1).trans (congrFun (f10 16 (by decide)) 1)))))))) ((congrFun (f1852 16 (by decide)) 2).trans ((congrFun (f1836 16 (by decide)) 2).trans ((congrFun (f1828 16 (by decide)) 2).trans ((congrFun (f1660 16 (by decide)) 2).trans ((congrFun (f1574 16 (by decide)) 2).trans ((congrFun (f1564 16 (by decide)) 2).trans ((congrFun (f31 16 (by decide)) 2).trans (congrFun (f10 16 (by decide)) 2)))))))) ((f1852 17 (by decide)).trans ((f1836 17 (by decide)).trans ((f1828 17 (by decide)).trans ((f1660 17 (by decide)).trans ((f1574 17 (by decide)).trans ((f1564 17 (by decide)).trans ((f31 17 (by decide)).trans (f10 17 (by decide))))))))) hI16
                            exact hret r1851 σ1850 τ _ _ _ _ rfl ⟨rfl, (fun i hi => ((f1852 i (imp_48 i hi)).trans ((f1836 i (imp_48 i hi)).trans ((f1828 i (imp_48 i hi)).trans ((f1660 i (imp_48 i hi)).trans ((f1574 i (imp_48 i hi)).trans ((f1564 i (imp_48 i hi)).trans ((f31 i (imp_49 i hi)).trans (f10 i (imp_48 i hi)))))))))), (fun i hi => ((f1853 i (imp_50 i hi)).trans ((f1837 i (imp_51 i hi)).trans ((f1829 i (imp_56 i hi)).trans ((f1661 i (imp_52 i hi)).trans ((f1575 i (imp_51 i hi)).trans ((f1565 i (imp_56 i hi)).trans ((f32 i (imp_51 i hi)).trans (f11 i (imp_52 i hi)))))))))), (fun i hi => ((congrFun (f1852 16 (by decide)) i).trans ((congrFun (f1836 16 (by decide)) i).trans ((congrFun (f1828 16 (by decide)) i).trans ((congrFun (f1660 16 (by decide)) i).trans ((congrFun (f1574 16 (by decide)) i).trans ((congrFun (f1564 16 (by decide)) i).trans ((congrFun (f31 16 (by decide)) i).trans (congrFun (f10 16 (by decide)) i))))))))), I1854, I1867, trivial⟩ hP hS dX7_readOrder_147
                        · have kc1849 := jne c1849 rfl jz_0
                          refine lv_aload_n hx hb dX7_readOrder_126 rfl (lv_at hl 4 rfl) ?_
                          refine lv_iconst (v := 3) hx hb dX7_readOrder_127 (by decide) ?_
                          refine jcallV (As := [.int 3]) (rest := []) ⟨hx, hb, hml, hown, hts⟩ hK hP hA hS hZ (c_X7_number_3 l D cI cL ad zz hJ σ1834 τ I1838 I1839 I1840) cw_RX7_53 (jc_9 cI cL ad σ1834 τ) rfl ⟨Nat.le_of_ble_eq_true rfl, Nat.le_of_ble_eq_true rfl⟩ rfl rfl rfl hl.1 rfl (Nat.le_of_ble_eq_true rfl) dX7_readOrder_128 ⟨Nat.zero_le _, Nat.zero_le _⟩ (fun r1869 σ1868 τ1868 H locs h1868 hP hS => ?_)
                          obtain ⟨rfl, f1870, f1871, I1872, I1873, I1874, h1868⟩ := h1868
                          obtain ⟨i1875, w1876, w1877⟩ : (0 ≤ (σ1868 9 0).toInt ∧ (σ1868 9 0).toInt ≤ 80) ∧ (∀ k : Nat, k < 80 → 0 ≤ (σ1868 10 k).toInt ∧ (σ1868 10 k).toInt ≤ 255) ∧ (∀ k : Nat, k < 8 → 0 ≤ (σ1868 11 k).toInt ∧ (σ1868 11 k).toInt ≤ 3) := id I1872
                          obtain ⟨i1878, i1879⟩ : (0 ≤ (σ1868 9 1).toInt) ∧ ((σ1868 9 1).toInt ≤ (σ1868 9 0).toInt) := id I1873
                          have i1880 : (-1) ≤ (σ1868 9 2).toInt := I1874
                          have z1881 : (σ1868 9 0).toInt = (σ 9 0).toInt := (congrArg Int32.toInt (show σ1868 9 0 = (σ 9 0) from ((f1871 0 (by decide)).trans ((f1837 0 (by decide)).trans ((f1829 0 (by decide)).trans ((f1661 0 (by decide)).trans ((f1575 0 (by decide)).trans ((f1565 0 (by decide)).trans ((f32 0 (by decide)).trans (f11 0 (by decide)))))))))))
                          obtain ⟨k1882, h1868⟩ := h1868
                          have h1883 := h1868
                          obtain ⟨q1885, k1884⟩ := h1883
                          refine lv_istore (lv' := [(4, .int r1869), (3, .int r1659), (5, .int (σ1572 9 1)), (2, .int x24), (0, .ref (ad 9)), (1, .ref (ad 16))]) hx hb dX7_readOrder_131 hl (by decide) rfl (fun ls hl => ?_)
                          refine lv_aload_n hx hb dX7_readOrder_133 rfl (lv_at hl 4 rfl) ?_
                          refine jcallV (As := []) (rest := []) ⟨hx, hb, hml, hown, hts⟩ hK hP hA hS hZ (c_X7_end_9 l D cI cL ad zz hJ σ1868 τ I1872 I1873 I1874) cw_RX7_57 (jc_9 cI cL ad σ1868 τ) rfl ⟨Nat.le_of_ble_eq_true rfl, Nat.le_of_ble_eq_true rfl⟩ rfl rfl rfl hl.1 rfl (Nat.le_of_ble_eq_true rfl) dX7_readOrder_134 ⟨Nat.zero_le _, Nat.zero_le _⟩ (fun r1887 σ1886 τ1886 H locs h1886 hP hS => ?_)
                          obtain ⟨rfl, f1888, f1889, I1890, I1891, h1886⟩ := h1886
                          obtain ⟨i1892, w1893, w1894⟩ : (0 ≤ (σ1886 9 0).toInt ∧ (σ1886 9 0).toInt ≤ 80) ∧ (∀ k : Nat, k < 80 → 0 ≤ (σ1886 10 k).toInt ∧ (σ1886 10 k).toInt ≤ 255) ∧ (∀ k : Nat, k < 8 → 0 ≤ (σ1886 11 k).toInt ∧ (σ1886 11 k).toInt ≤ 3) := id I1890
                          have i1895 : (-1) ≤ (σ1886 9 2).toInt := I1891
                          rcases h1886 with h1896 | h1897
                          · obtain ⟨q1899, k1898⟩ := h1896
                            exact absurd (by omega : False) id
                          · obtain ⟨q1901, k1900⟩ := h1897
                            refine lv_istore (lv' := [(5, .int r1887), (4, .int r1869), (3, .int r1659), (2, .int x24), (0, .ref (ad 9)), (1, .ref (ad 16))]) hx hb dX7_readOrder_137 hl (by decide) rfl (fun ls hl => ?_)
                            refine lv_iload hx hb dX7_readOrder_139 (lv_at hl 0 rfl) ?_
                            refine lv_iconst (v := (-1)) hx hb dX7_readOrder_141 (by decide) ?_
                            refine lv_icmp_eq (tgt := 148) hx hb dX7_readOrder_142 (by decide) (fun c => absurd (jeq c rfl jz_m1) (by omega)) (fun c1902 => ?_)
                            have kc1902 := jne c1902 rfl jz_m1
                            refine lv_iload hx hb dX7_readOrder_145 (lv_at hl 0 rfl) ?_
                            have I1903 : jI16 σ1886 := jI16_fr ((congrFun (f1888 16 (by decide)) 0).trans ((congrFun (f1870 16 (by decide)) 0).trans ((congrFun (f1836 16 (by decide)) 0).trans ((congrFun (f1828 16 (by decide)) 0).trans ((congrFun (f1660 16 (by decide)) 0).trans ((congrFun (f1574 16 (by decide)) 0).trans ((congrFun (f1564 16 (by decide)) 0).trans ((congrFun (f31 16 (by decide)) 0).trans (congrFun (f10 16 (by decide)) 0))))))))) ((congrFun (f1888 16 (by decide)) 1).trans ((congrFun (f1870 16 (by decide)) 1).trans ((congrFun (f1836 16 (by decide)) 1).trans ((congrFun (f1828 16 (by decide)) 1).trans ((congrFun (f1660 16 (by decide)) 1).trans ((congrFun (f1574 16 (by decide)) 1).trans ((congrFun (f1564 16 (by decide)) 1).trans ((congrFun (f31 16 (by decide)) 1).trans (congrFun (f10 16 (by decide)) 1))))))))) ((congrFun (f1888 16 (by decide)) 2).trans ((congrFun (f1870 16 (by decide)) 2).trans ((congrFun (f1836 16 (by decide)) 2).trans ((congrFun (f1828 16 (by decide)) 2).trans ((congrFun (f1660 16 (by decide)) 2).trans ((congrFun (f1574 16 (by decide)) 2).trans ((congrFun (f1564 16 (by decide)) 2).trans ((congrFun (f31 16 (by decide)) 2).trans (congrFun (f10 16 (by decide)) 2))))))))) ((f1888 17 (by decide)).trans ((f1870 17 (by decide)).trans ((f1836 17 (by decide)).trans ((f1828 17 (by decide)).trans ((f1660 17 (by decide)).trans ((f1574 17 (by decide)).trans ((f1564 17 (by decide)).trans ((f31 17 (by decide)).trans (f10 17 (by decide)))))))))) hI16
                            exact hret r1887 σ1886 τ _ _ _ _ rfl ⟨rfl, (fun i hi => ((f1888 i (imp_48 i hi)).trans ((f1870 i (imp_48 i hi)).trans ((f1836 i (imp_48 i hi)).trans ((f1828 i (imp_48 i hi)).trans ((f1660 i (imp_48 i hi)).trans ((f1574 i (imp_48 i hi)).trans ((f1564 i (imp_48 i hi)).trans ((f31 i (imp_49 i hi)).trans (f10 i (imp_48 i hi))))))))))), (fun i hi => ((f1889 i (imp_50 i hi)).trans ((f1871 i (imp_52 i hi)).trans ((f1837 i (imp_51 i hi)).trans ((f1829 i (imp_56 i hi)).trans ((f1661 i (imp_52 i hi)).trans ((f1575 i (imp_51 i hi)).trans ((f1565 i (imp_56 i hi)).trans ((f32 i (imp_51 i hi)).trans (f11 i (imp_52 i hi))))))))))), (fun i hi => ((congrFun (f1888 16 (by decide)) i).trans ((congrFun (f1870 16 (by decide)) i).trans ((congrFun (f1836 16 (by decide)) i).trans ((congrFun (f1828 16 (by decide)) i).trans ((congrFun (f1660 16 (by decide)) i).trans ((congrFun (f1574 16 (by decide)) i).trans ((congrFun (f1564 16 (by decide)) i).trans ((congrFun (f31 16 (by decide)) i).trans (congrFun (f10 16 (by decide)) i)))))))))), I1890, I1903, trivial⟩ hP hS dX7_readOrder_147
              · have kc1173 := jnlt c1173 jz_51 rfl
                refine lv_aload_n hx hb dX7_readOrder_36 rfl (lv_at hl 3 rfl) ?_
                refine va_get (D := D) hx hb hts inlX7 hown hK hP 9 (jc_9 cI cL ad σ25 τ) rfl 4 (by decide) (hts _ kw_3_21) (fun _ h9 => h9) rfl dX7_readOrder_37 ?_
                refine lv_iload_n hx hb dX7_readOrder_40 rfl (lv_at hl 2 rfl) ?_
                obtain ⟨x1904, ex1904⟩ : ∃ y : Int32, y = x24 + 1 := ⟨_, rfl⟩
                have tx1904 : x1904.toInt = x24.toInt + 1 := (jadd ex1904 rfl jz_1 (by omega) (by omega)).trans (by omega)
                refine lv_iinc (v := x1904) (lv' := [(2, .int x1904), (4, .int 0), (3, .int 8), (0, .ref (ad 9)), (1, .ref (ad 16))]) hx hb dX7_readOrder_41 hl (k := 2) rfl (by rw [ex1904]; rfl) (by decide) rfl (fun ls hl => ?_)
                refine lv_aload_n hx hb dX7_readOrder_44 rfl (lv_at hl 3 rfl) ?_
                refine va_get (D := D) hx hb hts inlX7 hown hK hP 9 (jc_9 cI cL ad σ25 τ) rfl 3 (by decide) (hts _ kw_3_20) (fun _ h9 => h9) rfl dX7_readOrder_45 ?_
                refine lv_aload_n hx hb dX7_readOrder_48 rfl (lv_at hl 3 rfl) ?_
                refine lv_dup hx hb dX7_readOrder_49 rfl ?_
                refine va_get (D := D) hx hb hts inlX7 hown hK hP 9 (jc_9 cI cL ad σ25 τ) rfl 1 (by decide) (hts _ kw_13_17) (fun _ h9 => h9) rfl dX7_readOrder_50 ?_
                refine lv_dup_x1 hx hb dX7_readOrder_53 rfl rfl ?_
                refine lv_iconst (v := 1) hx hb dX7_readOrder_54 (by decide) ?_
                have g1905 := jrg (rfl : (σ25 9 1).toInt = (σ25 9 1).toInt)
                refine lv_iadd hx hb dX7_readOrder_55 ?_
                refine lv_topi (fun x1906 ex1906 => ?_)
                have tx1906 : x1906.toInt = (σ25 9 1).toInt + 1 := (jadd ex1906 rfl jz_1 (by omega) (by omega)).trans (by omega)
                refine jput (ty := .int) hx hb hts inlX7 tyX7 tyX7_ok nmX7 hown hK hP hJ hA hS (jc_9 cI cL ad σ25 τ) rfl (k := 1) (by decide) (Nat.le_of_ble_eq_true rfl) (jp_9_1 cI cL ad σ25 τ x1906) (hts _ kw_13_17) (fun _ h9 => h9) rfl (by decide +kernel) rfl rfl dX7_readOrder_56 (fun σ1907 H locs eσ1907 hP hS => ?_)
                refine jald hx hb hK hP (jc_10 cI cL ad σ1907 τ) (jin rfl (by omega) (by omega)) dX7_readOrder_59 ?_
                refine jtopr (y := (σ 10 (σ25 9 1).toNatClampNeg)) (by rw [jnp 10 eσ1907 (by decide), f31 10 (by decide), f10 10 (by decide)]) ?_
                refine lv_bipush (v := 48) hx hb dX7_readOrder_60 (by decide) ?_
                have g1908 := jrg (rfl : (σ 10 (σ25 9 1).toNatClampNeg).toInt = (σ 10 (σ25 9 1).toNatClampNeg).toInt)
                refine lv_isub hx hb dX7_readOrder_62 ?_
                refine lv_topi (fun x1909 ex1909 => ?_)
                have tx1909 : x1909.toInt = (σ 10 (σ25 9 1).toNatClampNeg).toInt - 48 := (jsub ex1909 rfl jz_48 (by omega) (by omega)).trans (by omega)
                refine jast hx hb hK hP hJ hA hS (jc_11 cI cL ad σ1907 τ) (ja_11 cI cL ad σ1907 τ _ _) (jin rfl (by omega) (by omega)) dX7_readOrder_63 (fun σ1910 H locs eσ1910 hP hS => ?_)
                refine lv_goto (tgt := 12) hx hb dX7_readOrder_64 (by decide) ?_
                have z1911 : (σ1910 9 1).toInt = (σ25 9 1).toInt + 1 := ((congrArg Int32.toInt (show σ1910 9 1 = x1906 from ((congrFun (jnp 9 eσ1910 (by decide)) 1).trans (jsp eσ1907)))).trans tx1906)
                have z1912 : (σ1910 9 0).toInt = (σ 9 0).toInt := (congrArg Int32.toInt (show σ1910 9 0 = (σ 9 0) from ((congrFun (jnp 9 eσ1910 (by decide)) 0).trans ((jkp 0 eσ1907 (by decide)).trans ((f32 0 (by decide)).trans (f11 0 (by decide)))))))
                have w1913 : ∀ k : Nat, k < 80 → 0 ≤ (σ1910 10 k).toInt ∧ (σ1910 10 k).toInt ≤ 255 := (jrr_fr (jnp 10 eσ1910 (by decide)) (jrr_fr (jnp 10 eσ1907 (by decide)) w35))
                have w1914 : ∀ k : Nat, k < 8 → 0 ≤ (σ1910 11 k).toInt ∧ (σ1910 11 k).toInt ≤ 3 := (by rw [eσ1910]; exact jrr_up (jrr_fr (jnp 11 eσ1907 (by decide)) w36) (by have h9 := tx1909; omega) (by have h9 := tx1909; omega))
                have I1915 : jI9 σ1910 := ⟨(by omega), w1913, w1914⟩
                exact ihlp22 x1904 σ1910 _ _ ls (by have h90 := tx1904; omega) (by have h90 := tx1904; omega) (by have h90 := tx1904; omega) (by have h90 := tx1904; omega) (by have h90 := tx1904; omega) (fun i hi => ((jnp i eσ1910 (imp_57 i hi)).trans ((jnp i eσ1907 (imp_58 i hi)).trans (f31 i hi)))) (fun i hi => ((congrFun (jnp 9 eσ1910 (by decide)) i).trans ((jkp i eσ1907 (imp_44 i hi)).trans (f32 i hi))))  I1915 hP hS (lv_sub hl [1, 2, 0, 3, 4] rfl)
            · obtain ⟨q1917, k1916⟩ := h1168
              exact absurd (by omega : False) id
        · obtain ⟨q1919, k1918⟩ := h429
          have q1919 := q1919.symm
          subst q1919
          refine lv_bipush (v := 48) hx hb dX7_readOrder_22 (by decide) ?_
          refine lv_icmp_lt (tgt := 67) hx hb dX7_readOrder_24 (by decide) (fun _ => ?_) (fun c => absurd (by decide) c)
          refine lv_iload_n hx hb dX7_readOrder_67 rfl (lv_at hl 2 rfl) ?_
          refine lv_if_ne (tgt := 79) hx hb dX7_readOrder_68 (by decide) (fun c1920 => ?_) (fun c1920 => ?_)
          · have kc1920 := jne c1920 rfl jz_0
            refine lv_aload_n hx hb dX7_readOrder_79 rfl (lv_at hl 3 rfl) ?_
            refine lv_bipush (v := 58) hx hb dX7_readOrder_80 (by decide) ?_
            have I1921 : jI91 σ25 := ⟨(by omega), (by omega)⟩
            have I1922 : jI92 σ25 := jI92_fr (f32 2 (by decide)) I14
            refine jcallV (As := [.int 58]) (rest := []) ⟨hx, hb, hml, hown, hts⟩ hK hP hA hS hZ (c_X7_skip_9 l D cI cL ad zz hJ σ25 τ 58 (58) jz_58 p33 I1921 I1922 (by omega)) cw_RX7_50 (jc_9 cI cL ad σ25 τ) rfl ⟨Nat.le_of_ble_eq_true rfl, Nat.le_of_ble_eq_true rfl⟩ rfl rfl rfl hl.1 rfl (Nat.le_of_ble_eq_true rfl) dX7_readOrder_82 ⟨Nat.zero_le _, Nat.zero_le _⟩ (fun r1924 σ1923 τ1923 H locs h1923 hP hS => ?_)
            obtain ⟨rfl, f1925, f1926, I1927, I1928, I1929, h1923⟩ := h1923
            obtain ⟨i1930, w1931, w1932⟩ : (0 ≤ (σ1923 9 0).toInt ∧ (σ1923 9 0).toInt ≤ 80) ∧ (∀ k : Nat, k < 80 → 0 ≤ (σ1923 10 k).toInt ∧ (σ1923 10 k).toInt ≤ 255) ∧ (∀ k : Nat, k < 8 → 0 ≤ (σ1923 11 k).toInt ∧ (σ1923 11 k).toInt ≤ 3) := id I1927
            obtain ⟨i1933, i1934⟩ : (0 ≤ (σ1923 9 1).toInt) ∧ ((σ1923 9 1).toInt ≤ (σ1923 9 0).toInt) := id I1928
            have i1935 : (-1) ≤ (σ1923 9 2).toInt := I1929
            have z1936 : (σ1923 9 0).toInt = (σ 9 0).toInt := (congrArg Int32.toInt (show σ1923 9 0 = (σ 9 0) from ((f1926 0 (by decide)).trans ((f32 0 (by decide)).trans (f11 0 (by decide))))))
            have z1937 : (σ1923 9 2).toInt = (σ8 9 2).toInt := (congrArg Int32.toInt (show σ1923 9 2 = (σ8 9 2) from ((f1926 2 (by decide)).trans (f32 2 (by decide)))))
            refine lv_if_eq (tgt := 117) hx hb dX7_readOrder_85 (by decide) (fun c1938 => ?_) (fun c1938 => ?_)
            · have kc1938 := jeq c1938 rfl jz_0
              refine lv_aload_n hx hb dX7_readOrder_117 rfl (lv_at hl 3 rfl) ?_
              refine lv_bipush (v := 114) hx hb dX7_readOrder_118 (by decide) ?_
              refine jcallV (As := [.int 114]) (rest := []) ⟨hx, hb, hml, hown, hts⟩ hK hP hA hS hZ (c_X7_skip_9 l D cI cL ad zz hJ σ1923 τ 114 (114) jz_114 I1927 I1928 I1929 (by omega)) cw_RX7_50 (jc_9 cI cL ad σ1923 τ) rfl ⟨Nat.le_of_ble_eq_true rfl, Nat.le_of_ble_eq_true rfl⟩ rfl rfl rfl hl.1 rfl (Nat.le_of_ble_eq_true rfl) dX7_readOrder_120 ⟨Nat.zero_le _, Nat.zero_le _⟩ (fun r1940 σ1939 τ1939 H locs h1939 hP hS => ?_)
              obtain ⟨rfl, f1941, f1942, I1943, I1944, I1945, h1939⟩ := h1939
              obtain ⟨i1946, w1947, w1948⟩ : (0 ≤ (σ1939 9 0).toInt ∧ (σ1939 9 0).toInt ≤ 80) ∧ (∀ k : Nat, k < 80 → 0 ≤ (σ1939 10 k).toInt ∧ (σ1939 10 k).toInt ≤ 255) ∧ (∀ k : Nat, k < 8 → 0 ≤ (σ1939 11 k).toInt ∧ (σ1939 11 k).toInt ≤ 3) := id I1943
              obtain ⟨i1949, i1950⟩ : (0 ≤ (σ1939 9 1).toInt) ∧ ((σ1939 9 1).toInt ≤ (σ1939 9 0).toInt) := id I1944
              have i1951 : (-1) ≤ (σ1939 9 2).toInt := I1945
              have z1952 : (σ1939 9 0).toInt = (σ 9 0).toInt := (congrArg Int32.toInt (show σ1939 9 0 = (σ 9 0) from ((f1942 0 (by decide)).trans ((f1926 0 (by decide)).trans ((f32 0 (by decide)).trans (f11 0 (by decide)))))))
              have z1953 : (σ1939 9 2).toInt = (σ8 9 2).toInt := (congrArg Int32.toInt (show σ1939 9 2 = (σ8 9 2) from ((f1942 2 (by decide)).trans ((f1926 2 (by decide)).trans (f32 2 (by decide))))))
              refine lv_if_eq (tgt := 133) hx hb dX7_readOrder_123 (by decide) (fun c1954 => ?_) (fun c1954 => ?_)
              · have kc1954 := jeq c1954 rfl jz_0
                refine lv_aload_n hx hb dX7_readOrder_133 rfl (lv_at hl 3 rfl) ?_
                refine jcallV (As := []) (rest := []) ⟨hx, hb, hml, hown, hts⟩ hK hP hA hS hZ (c_X7_end_9 l D cI cL ad zz hJ σ1939 τ I1943 I1944 I1945) cw_RX7_57 (jc_9 cI cL ad σ1939 τ) rfl ⟨Nat.le_of_ble_eq_true rfl, Nat.le_of_ble_eq_true rfl⟩ rfl rfl rfl hl.1 rfl (Nat.le_of_ble_eq_true rfl) dX7_readOrder_134 ⟨Nat.zero_le _, Nat.zero_le _⟩ (fun r1956 σ1955 τ1955 H locs h1955 hP hS => ?_)
                obtain ⟨rfl, f1957, f1958, I1959, I1960, h1955⟩ := h1955
                obtain ⟨i1961, w1962, w1963⟩ : (0 ≤ (σ1955 9 0).toInt ∧ (σ1955 9 0).toInt ≤ 80) ∧ (∀ k : Nat, k < 80 → 0 ≤ (σ1955 10 k).toInt ∧ (σ1955 10 k).toInt ≤ 255) ∧ (∀ k : Nat, k < 8 → 0 ≤ (σ1955 11 k).toInt ∧ (σ1955 11 k).toInt ≤ 3) := id I1959
                have i1964 : (-1) ≤ (σ1955 9 2).toInt := I1960
                rcases h1955 with h1965 | h1966
                · obtain ⟨q1968, k1967⟩ := h1965
                  have q1968 := q1968.symm
                  subst q1968
                  refine lv_istore (lv' := [(5, .int (-1)), (4, .int 0), (3, .int 8), (2, .int x24), (0, .ref (ad 9)), (1, .ref (ad 16))]) hx hb dX7_readOrder_137 hl (by decide) rfl (fun ls hl => ?_)
                  refine lv_iload hx hb dX7_readOrder_139 (lv_at hl 0 rfl) ?_
                  refine lv_iconst (v := (-1)) hx hb dX7_readOrder_141 (by decide) ?_
                  refine lv_icmp_eq (tgt := 148) hx hb dX7_readOrder_142 (by decide) (fun _ => ?_) (fun c => absurd (by decide) c)
                  refine lv_aload_n hx hb dX7_readOrder_148 rfl (lv_at hl 5 rfl) ?_
                  refine lv_iload_n hx hb dX7_readOrder_149 rfl (lv_at hl 3 rfl) ?_
                  refine jput (ty := .int) hx hb hts inlX6 tyX6 tyX6_ok nmX6 hown hK hP hJ hA hS (jc_16 cI cL ad σ1955 τ) rfl (k := 0) (by decide) (Nat.le_of_ble_eq_true rfl) (jp_16_0 cI cL ad σ1955 τ x24) (hts _ kw_13_18) (fun _ h9 => h9) rfl (by decide +kernel) rfl rfl dX7_readOrder_150 (fun σ1969 H locs eσ1969 hP hS => ?_)
                  refine lv_aload_n hx hb dX7_readOrder_153 rfl (lv_at hl 5 rfl) ?_
                  refine lv_iload_n hx hb dX7_readOrder_154 rfl (lv_at hl 2 rfl) ?_
                  refine jput (ty := .int) hx hb hts inlX6 tyX6 tyX6_ok nmX6 hown hK hP hJ hA hS (jc_16 cI cL ad σ1969 τ) rfl (k := 1) (by decide) (Nat.le_of_ble_eq_true rfl) (jp_16_1 cI cL ad σ1969 τ 8) (hts _ kw_13_19) (fun _ h9 => h9) rfl (by decide +kernel) rfl rfl dX7_readOrder_155 (fun σ1970 H locs eσ1970 hP hS => ?_)
                  refine lv_aload_n hx hb dX7_readOrder_158 rfl (lv_at hl 5 rfl) ?_
                  refine lv_iload hx hb dX7_readOrder_159 (lv_at hl 1 rfl) ?_
                  refine jput (ty := .int) hx hb hts inlX6 tyX6 tyX6_ok nmX6 hown hK hP hJ hA hS (jc_16 cI cL ad σ1970 τ) rfl (k := 2) (by decide) (Nat.le_of_ble_eq_true rfl) (jp_16_2 cI cL ad σ1970 τ 0) (hts _ kw_13_20) (fun _ h9 => h9) rfl (by decide +kernel) rfl rfl dX7_readOrder_161 (fun σ1971 H locs eσ1971 hP hS => ?_)
                  refine lv_aload_n hx hb dX7_readOrder_164 rfl (lv_at hl 4 rfl) ?_
                  refine va_get (D := D) hx hb hts inlX7 hown hK hP 9 (jc_9 cI cL ad σ1971 τ) rfl 4 (by decide) (hts _ kw_3_21) (fun _ h9 => h9) rfl dX7_readOrder_165 ?_
                  refine lv_iconst (v := 0) hx hb dX7_readOrder_168 (by decide) ?_
                  refine lv_aload_n hx hb dX7_readOrder_169 rfl (lv_at hl 5 rfl) ?_
                  refine va_get (D := D) hx hb hts inlX6 hown hK hP 16 (jc_16 cI cL ad σ1971 τ) rfl 3 (by decide) (hts _ kw_13_21) (fun _ h9 => h9) rfl dX7_readOrder_170 ?_
                  refine lv_iconst (v := 0) hx hb dX7_readOrder_173 (by decide) ?_
                  refine lv_iload_n hx hb dX7_readOrder_174 rfl (lv_at hl 3 rfl) ?_
                  refine jcpyI (q0 := 11) (q1 := 17) hx hb (hml.trans hl.1.symm) hown (hts _ kw_13_22) (hts _ kw_13_23) (hts _ kw_14_0) (hts _ kw_14_1) hK hP hJ hA hS (jc_11 cI cL ad σ1971 τ) (jc_17 cI cL ad σ1971 τ) (fun _ => rfl) jz_0 jz_0 rfl (by omega) (by omega) (by omega) (by omega) (by omega) (Nat.le_of_ble_eq_true rfl) (Nat.le_of_ble_eq_true rfl) dX7_readOrder_175 (fun σ1972 H locs eσ1972 hP hS => ?_)
                  have w1973 : ∀ k : Nat, k < 8 → 0 ≤ (σ1971 11 k).toInt ∧ (σ1971 11 k).toInt ≤ 3 := (jrr_fr (jnp 11 eσ1971 (by decide)) (jrr_fr (jnp 11 eσ1970 (by decide)) (jrr_fr (jnp 11 eσ1969 (by decide)) w1963)))
                  have w1974 : ∀ k : Nat, k < 8 → 0 ≤ (σ1971 17 k).toInt ∧ (σ1971 17 k).toInt ≤ 3 := (jrr_fr (jnp 17 eσ1971 (by decide)) (jrr_fr (jnp 17 eσ1970 (by decide)) (jrr_fr (jnp 17 eσ1969 (by decide)) (jrr_fr (f1957 17 (by decide)) (jrr_fr (f1941 17 (by decide)) (jrr_fr (f1925 17 (by decide)) (jrr_fr (f31 17 (by decide)) (jrr_fr (f10 17 (by decide)) w7))))))))
                  have f1975 : (∀ i : Nat, (i < 17 ∨ 17 < i) → σ1972 i = σ1971 i) := by rw [eσ1972]; exact jrow_n
                  have w1976 : ∀ k : Nat, k < 8 → 0 ≤ (σ1972 17 k).toInt ∧ (σ1972 17 k).toInt ≤ 3 := by rw [eσ1972]; exact jrow_rr w1973 w1974 jz_0 rfl (n0 := 8) (by omega) (by omega) (by omega)
                  refine lv_iconst (v := (-1)) hx hb dX7_readOrder_178 (by decide) ?_
                  have I1977 : jI9 σ1972 := jI9_fr ((congrFun (f1975 9 (by decide)) 0).trans ((congrFun (jnp 9 eσ1971 (by decide)) 0).trans ((congrFun (jnp 9 eσ1970 (by decide)) 0).trans (congrFun (jnp 9 eσ1969 (by decide)) 0)))) ((f1975 10 (by decide)).trans ((jnp 10 eσ1971 (by decide)).trans ((jnp 10 eσ1970 (by decide)).trans (jnp 10 eσ1969 (by decide))))) ((f1975 11 (by decide)).trans ((jnp 11 eσ1971 (by decide)).trans ((jnp 11 eσ1970 (by decide)).trans (jnp 11 eσ1969 (by decide))))) I1959
                  have z1978 : (σ1972 16 0).toInt = x24.toInt := (congrArg Int32.toInt (show σ1972 16 0 = x24 from ((congrFun (f1975 16 (by decide)) 0).trans ((jkp 0 eσ1971 (by decide)).trans ((jkp 0 eσ1970 (by decide)).trans (jsp eσ1969))))))
                  have z1979 : (σ1972 16 1).toInt = 8 := ((congrArg Int32.toInt (show σ1972 16 1 = 8 from ((congrFun (f1975 16 (by decide)) 1).trans ((jkp 1 eσ1971 (by decide)).trans (jsp eσ1970))))).trans jz_8)
                  have z1980 : (σ1972 16 2).toInt = 0 := ((congrArg Int32.toInt (show σ1972 16 2 = 0 from ((congrFun (f1975 16 (by decide)) 2).trans (jsp eσ1971)))).trans jz_0)
                  have I1981 : jI16 σ1972 := ⟨(by omega), (by omega), (by omega), w1976⟩
                  exact hret (-1) σ1972 τ _ _ _ _ rfl ⟨rfl, (fun i hi => ((f1975 i (imp_46 i hi)).trans ((jnp i eσ1971 (imp_47 i hi)).trans ((jnp i eσ1970 (imp_47 i hi)).trans ((jnp i eσ1969 (imp_47 i hi)).trans ((f1957 i (imp_48 i hi)).trans ((f1941 i (imp_48 i hi)).trans ((f1925 i (imp_48 i hi)).trans ((f31 i (imp_49 i hi)).trans (f10 i (imp_48 i hi))))))))))), (fun i hi => ((congrFun (f1975 9 (by decide)) i).trans ((congrFun (jnp 9 eσ1971 (by decide)) i).trans ((congrFun (jnp 9 eσ1970 (by decide)) i).trans ((congrFun (jnp 9 eσ1969 (by decide)) i).trans ((f1958 i (imp_50 i hi)).trans ((f1942 i (imp_51 i hi)).trans ((f1926 i (imp_51 i hi)).trans ((f32 i (imp_51 i hi)).trans (f11 i (imp_52 i hi))))))))))), (fun i hi => ((congrFun (f1975 16 (by decide)) i).trans ((jkp i eσ1971 (imp_53 i hi)).trans ((jkp i eσ1970 (imp_54 i hi)).trans ((jkp i eσ1969 (imp_55 i hi)).trans ((congrFun (f1957 16 (by decide)) i).trans ((congrFun (f1941 16 (by decide)) i).trans ((congrFun (f1925 16 (by decide)) i).trans ((congrFun (f31 16 (by decide)) i).trans (congrFun (f10 16 (by decide)) i)))))))))), I1977, I1981, trivial⟩ hP hS dX7_readOrder_179
                · obtain ⟨q1983, k1982⟩ := h1966
                  refine lv_istore (lv' := [(5, .int r1956), (4, .int 0), (3, .int 8), (2, .int x24), (0, .ref (ad 9)), (1, .ref (ad 16))]) hx hb dX7_readOrder_137 hl (by decide) rfl (fun ls hl => ?_)
                  refine lv_iload hx hb dX7_readOrder_139 (lv_at hl 0 rfl) ?_
                  refine lv_iconst (v := (-1)) hx hb dX7_readOrder_141 (by decide) ?_
                  refine lv_icmp_eq (tgt := 148) hx hb dX7_readOrder_142 (by decide) (fun c => absurd (jeq c rfl jz_m1) (by omega)) (fun c1984 => ?_)
                  have kc1984 := jne c1984 rfl jz_m1
                  refine lv_iload hx hb dX7_readOrder_145 (lv_at hl 0 rfl) ?_
                  have I1985 : jI16 σ1955 := jI16_fr ((congrFun (f1957 16 (by decide)) 0).trans ((congrFun (f1941 16 (by decide)) 0).trans ((congrFun (f1925 16 (by decide)) 0).trans ((congrFun (f31 16 (by decide)) 0).trans (congrFun (f10 16 (by decide)) 0))))) ((congrFun (f1957 16 (by decide)) 1).trans ((congrFun (f1941 16 (by decide)) 1).trans ((congrFun (f1925 16 (by decide)) 1).trans ((congrFun (f31 16 (by decide)) 1).trans (congrFun (f10 16 (by decide)) 1))))) ((congrFun (f1957 16 (by decide)) 2).trans ((congrFun (f1941 16 (by decide)) 2).trans ((congrFun (f1925 16 (by decide)) 2).trans ((congrFun (f31 16 (by decide)) 2).trans (congrFun (f10 16 (by decide)) 2))))) ((f1957 17 (by decide)).trans ((f1941 17 (by decide)).trans ((f1925 17 (by decide)).trans ((f31 17 (by decide)).trans (f10 17 (by decide)))))) hI16
                  exact hret r1956 σ1955 τ _ _ _ _ rfl ⟨rfl, (fun i hi => ((f1957 i (imp_48 i hi)).trans ((f1941 i (imp_48 i hi)).trans ((f1925 i (imp_48 i hi)).trans ((f31 i (imp_49 i hi)).trans (f10 i (imp_48 i hi))))))), (fun i hi => ((f1958 i (imp_50 i hi)).trans ((f1942 i (imp_51 i hi)).trans ((f1926 i (imp_51 i hi)).trans ((f32 i (imp_51 i hi)).trans (f11 i (imp_52 i hi))))))), (fun i hi => ((congrFun (f1957 16 (by decide)) i).trans ((congrFun (f1941 16 (by decide)) i).trans ((congrFun (f1925 16 (by decide)) i).trans ((congrFun (f31 16 (by decide)) i).trans (congrFun (f10 16 (by decide)) i)))))), I1959, I1985, trivial⟩ hP hS dX7_readOrder_147
              · have kc1954 := jne c1954 rfl jz_0
                refine lv_aload_n hx hb dX7_readOrder_126 rfl (lv_at hl 3 rfl) ?_
                refine lv_iconst (v := 3) hx hb dX7_readOrder_127 (by decide) ?_
                refine jcallV (As := [.int 3]) (rest := []) ⟨hx, hb, hml, hown, hts⟩ hK hP hA hS hZ (c_X7_number_3 l D cI cL ad zz hJ σ1939 τ I1943 I1944 I1945) cw_RX7_53 (jc_9 cI cL ad σ1939 τ) rfl ⟨Nat.le_of_ble_eq_true rfl, Nat.le_of_ble_eq_true rfl⟩ rfl rfl rfl hl.1 rfl (Nat.le_of_ble_eq_true rfl) dX7_readOrder_128 ⟨Nat.zero_le _, Nat.zero_le _⟩ (fun r1987 σ1986 τ1986 H locs h1986 hP hS => ?_)
                obtain ⟨rfl, f1988, f1989, I1990, I1991, I1992, h1986⟩ := h1986
                obtain ⟨i1993, w1994, w1995⟩ : (0 ≤ (σ1986 9 0).toInt ∧ (σ1986 9 0).toInt ≤ 80) ∧ (∀ k : Nat, k < 80 → 0 ≤ (σ1986 10 k).toInt ∧ (σ1986 10 k).toInt ≤ 255) ∧ (∀ k : Nat, k < 8 → 0 ≤ (σ1986 11 k).toInt ∧ (σ1986 11 k).toInt ≤ 3) := id I1990
                obtain ⟨i1996, i1997⟩ : (0 ≤ (σ1986 9 1).toInt) ∧ ((σ1986 9 1).toInt ≤ (σ1986 9 0).toInt) := id I1991
                have i1998 : (-1) ≤ (σ1986 9 2).toInt := I1992
                have z1999 : (σ1986 9 0).toInt = (σ 9 0).toInt := (congrArg Int32.toInt (show σ1986 9 0 = (σ 9 0) from ((f1989 0 (by decide)).trans ((f1942 0 (by decide)).trans ((f1926 0 (by decide)).trans ((f32 0 (by decide)).trans (f11 0 (by decide))))))))
                obtain ⟨k2000, h1986⟩ := h1986
                have h2001 := h1986
                obtain ⟨q2003, k2002⟩ := h2001
                refine lv_istore (lv' := [(4, .int r1987), (3, .int 8), (2, .int x24), (0, .ref (ad 9)), (1, .ref (ad 16))]) hx hb dX7_readOrder_131 hl (by decide) rfl (fun ls hl => ?_)
                refine lv_aload_n hx hb dX7_readOrder_133 rfl (lv_at hl 3 rfl) ?_
                refine jcallV (As := []) (rest := []) ⟨hx, hb, hml, hown, hts⟩ hK hP hA hS hZ (c_X7_end_9 l D cI cL ad zz hJ σ1986 τ I1990 I1991 I1992) cw_RX7_57 (jc_9 cI cL ad σ1986 τ) rfl ⟨Nat.le_of_ble_eq_true rfl, Nat.le_of_ble_eq_true rfl⟩ rfl rfl rfl hl.1 rfl (Nat.le_of_ble_eq_true rfl) dX7_readOrder_134 ⟨Nat.zero_le _, Nat.zero_le _⟩ (fun r2005 σ2004 τ2004 H locs h2004 hP hS => ?_)
                obtain ⟨rfl, f2006, f2007, I2008, I2009, h2004⟩ := h2004
                obtain ⟨i2010, w2011, w2012⟩ : (0 ≤ (σ2004 9 0).toInt ∧ (σ2004 9 0).toInt ≤ 80) ∧ (∀ k : Nat, k < 80 → 0 ≤ (σ2004 10 k).toInt ∧ (σ2004 10 k).toInt ≤ 255) ∧ (∀ k : Nat, k < 8 → 0 ≤ (σ2004 11 k).toInt ∧ (σ2004 11 k).toInt ≤ 3) := id I2008
                have i2013 : (-1) ≤ (σ2004 9 2).toInt := I2009
                rcases h2004 with h2014 | h2015
                · obtain ⟨q2017, k2016⟩ := h2014
                  have q2017 := q2017.symm
                  subst q2017
                  refine lv_istore (lv' := [(5, .int (-1)), (4, .int r1987), (3, .int 8), (2, .int x24), (0, .ref (ad 9)), (1, .ref (ad 16))]) hx hb dX7_readOrder_137 hl (by decide) rfl (fun ls hl => ?_)
                  refine lv_iload hx hb dX7_readOrder_139 (lv_at hl 0 rfl) ?_
                  refine lv_iconst (v := (-1)) hx hb dX7_readOrder_141 (by decide) ?_
                  refine lv_icmp_eq (tgt := 148) hx hb dX7_readOrder_142 (by decide) (fun _ => ?_) (fun c => absurd (by decide) c)
                  refine lv_aload_n hx hb dX7_readOrder_148 rfl (lv_at hl 5 rfl) ?_
                  refine lv_iload_n hx hb dX7_readOrder_149 rfl (lv_at hl 3 rfl) ?_
                  refine jput (ty := .int) hx hb hts inlX6 tyX6 tyX6_ok nmX6 hown hK hP hJ hA hS (jc_16 cI cL ad σ2004 τ) rfl (k := 0) (by decide) (Nat.le_of_ble_eq_true rfl) (jp_16_0 cI cL ad σ2004 τ x24) (hts _ kw_13_18) (fun _ h9 => h9) rfl (by decide +kernel) rfl rfl dX7_readOrder_150 (fun σ2018 H locs eσ2018 hP hS => ?_)
                  refine lv_aload_n hx hb dX7_readOrder_153 rfl (lv_at hl 5 rfl) ?_
                  refine lv_iload_n hx hb dX7_readOrder_154 rfl (lv_at hl 2 rfl) ?_
                  refine jput (ty := .int) hx hb hts inlX6 tyX6 tyX6_ok nmX6 hown hK hP hJ hA hS (jc_16 cI cL ad σ2018 τ) rfl (k := 1) (by decide) (Nat.le_of_ble_eq_true rfl) (jp_16_1 cI cL ad σ2018 τ 8) (hts _ kw_13_19) (fun _ h9 => h9) rfl (by decide +kernel) rfl rfl dX7_readOrder_155 (fun σ2019 H locs eσ2019 hP hS => ?_)
                  refine lv_aload_n hx hb dX7_readOrder_158 rfl (lv_at hl 5 rfl) ?_
                  refine lv_iload hx hb dX7_readOrder_159 (lv_at hl 1 rfl) ?_
                  refine jput (ty := .int) hx hb hts inlX6 tyX6 tyX6_ok nmX6 hown hK hP hJ hA hS (jc_16 cI cL ad σ2019 τ) rfl (k := 2) (by decide) (Nat.le_of_ble_eq_true rfl) (jp_16_2 cI cL ad σ2019 τ r1987) (hts _ kw_13_20) (fun _ h9 => h9) rfl (by decide +kernel) rfl rfl dX7_readOrder_161 (fun σ2020 H locs eσ2020 hP hS => ?_)
                  refine lv_aload_n hx hb dX7_readOrder_164 rfl (lv_at hl 4 rfl) ?_
                  refine va_get (D := D) hx hb hts inlX7 hown hK hP 9 (jc_9 cI cL ad σ2020 τ) rfl 4 (by decide) (hts _ kw_3_21) (fun _ h9 => h9) rfl dX7_readOrder_165 ?_
                  refine lv_iconst (v := 0) hx hb dX7_readOrder_168 (by decide) ?_
                  refine lv_aload_n hx hb dX7_readOrder_169 rfl (lv_at hl 5 rfl) ?_
                  refine va_get (D := D) hx hb hts inlX6 hown hK hP 16 (jc_16 cI cL ad σ2020 τ) rfl 3 (by decide) (hts _ kw_13_21) (fun _ h9 => h9) rfl dX7_readOrder_170 ?_
                  refine lv_iconst (v := 0) hx hb dX7_readOrder_173 (by decide) ?_
                  refine lv_iload_n hx hb dX7_readOrder_174 rfl (lv_at hl 3 rfl) ?_
                  refine jcpyI (q0 := 11) (q1 := 17) hx hb (hml.trans hl.1.symm) hown (hts _ kw_13_22) (hts _ kw_13_23) (hts _ kw_14_0) (hts _ kw_14_1) hK hP hJ hA hS (jc_11 cI cL ad σ2020 τ) (jc_17 cI cL ad σ2020 τ) (fun _ => rfl) jz_0 jz_0 rfl (by omega) (by omega) (by omega) (by omega) (by omega) (Nat.le_of_ble_eq_true rfl) (Nat.le_of_ble_eq_true rfl) dX7_readOrder_175 (fun σ2021 H locs eσ2021 hP hS => ?_)
                  have w2022 : ∀ k : Nat, k < 8 → 0 ≤ (σ2020 11 k).toInt ∧ (σ2020 11 k).toInt ≤ 3 := (jrr_fr (jnp 11 eσ2020 (by decide)) (jrr_fr (jnp 11 eσ2019 (by decide)) (jrr_fr (jnp 11 eσ2018 (by decide)) w2012)))
                  have w2023 : ∀ k : Nat, k < 8 → 0 ≤ (σ2020 17 k).toInt ∧ (σ2020 17 k).toInt ≤ 3 := (jrr_fr (jnp 17 eσ2020 (by decide)) (jrr_fr (jnp 17 eσ2019 (by decide)) (jrr_fr (jnp 17 eσ2018 (by decide)) (jrr_fr (f2006 17 (by decide)) (jrr_fr (f1988 17 (by decide)) (jrr_fr (f1941 17 (by decide)) (jrr_fr (f1925 17 (by decide)) (jrr_fr (f31 17 (by decide)) (jrr_fr (f10 17 (by decide)) w7)))))))))
                  have f2024 : (∀ i : Nat, (i < 17 ∨ 17 < i) → σ2021 i = σ2020 i) := by rw [eσ2021]; exact jrow_n
                  have w2025 : ∀ k : Nat, k < 8 → 0 ≤ (σ2021 17 k).toInt ∧ (σ2021 17 k).toInt ≤ 3 := by rw [eσ2021]; exact jrow_rr w2022 w2023 jz_0 rfl (n0 := 8) (by omega) (by omega) (by omega)
                  refine lv_iconst (v := (-1)) hx hb dX7_readOrder_178 (by decide) ?_
                  have I2026 : jI9 σ2021 := jI9_fr ((congrFun (f2024 9 (by decide)) 0).trans ((congrFun (jnp 9 eσ2020 (by decide)) 0).trans ((congrFun (jnp 9 eσ2019 (by decide)) 0).trans (congrFun (jnp 9 eσ2018 (by decide)) 0)))) ((f2024 10 (by decide)).trans ((jnp 10 eσ2020 (by decide)).trans ((jnp 10 eσ2019 (by decide)).trans (jnp 10 eσ2018 (by decide))))) ((f2024 11 (by decide)).trans ((jnp 11 eσ2020 (by decide)).trans ((jnp 11 eσ2019 (by decide)).trans (jnp 11 eσ2018 (by decide))))) I2008
                  have z2027 : (σ2021 16 0).toInt = x24.toInt := (congrArg Int32.toInt (show σ2021 16 0 = x24 from ((congrFun (f2024 16 (by decide)) 0).trans ((jkp 0 eσ2020 (by decide)).trans ((jkp 0 eσ2019 (by decide)).trans (jsp eσ2018))))))
                  have z2028 : (σ2021 16 1).toInt = 8 := ((congrArg Int32.toInt (show σ2021 16 1 = 8 from ((congrFun (f2024 16 (by decide)) 1).trans ((jkp 1 eσ2020 (by decide)).trans (jsp eσ2019))))).trans jz_8)
                  have z2029 : (σ2021 16 2).toInt = r1987.toInt := (congrArg Int32.toInt (show σ2021 16 2 = r1987 from ((congrFun (f2024 16 (by decide)) 2).trans (jsp eσ2020))))
                  have I2030 : jI16 σ2021 := ⟨(by omega), (by omega), (by omega), w2025⟩
                  exact hret (-1) σ2021 τ _ _ _ _ rfl ⟨rfl, (fun i hi => ((f2024 i (imp_46 i hi)).trans ((jnp i eσ2020 (imp_47 i hi)).trans ((jnp i eσ2019 (imp_47 i hi)).trans ((jnp i eσ2018 (imp_47 i hi)).trans ((f2006 i (imp_48 i hi)).trans ((f1988 i (imp_48 i hi)).trans ((f1941 i (imp_48 i hi)).trans ((f1925 i (imp_48 i hi)).trans ((f31 i (imp_49 i hi)).trans (f10 i (imp_48 i hi)))))))))))), (fun i hi => ((congrFun (f2024 9 (by decide)) i).trans ((congrFun (jnp 9 eσ2020 (by decide)) i).trans ((congrFun (jnp 9 eσ2019 (by decide)) i).trans ((congrFun (jnp 9 eσ2018 (by decide)) i).trans ((f2007 i (imp_50 i hi)).trans ((f1989 i (imp_52 i hi)).trans ((f1942 i (imp_51 i hi)).trans ((f1926 i (imp_51 i hi)).trans ((f32 i (imp_51 i hi)).trans (f11 i (imp_52 i hi)))))))))))), (fun i hi => ((congrFun (f2024 16 (by decide)) i).trans ((jkp i eσ2020 (imp_53 i hi)).trans ((jkp i eσ2019 (imp_54 i hi)).trans ((jkp i eσ2018 (imp_55 i hi)).trans ((congrFun (f2006 16 (by decide)) i).trans ((congrFun (f1988 16 (by decide)) i).trans ((congrFun (f1941 16 (by decide)) i).trans ((congrFun (f1925 16 (by decide)) i).trans ((congrFun (f31 16 (by decide)) i).trans (congrFun (f10 16 (by decide)) i))))))))))), I2026, I2030, trivial⟩ hP hS dX7_readOrder_179
                · obtain ⟨q2032, k2031⟩ := h2015
                  refine lv_istore (lv' := [(5, .int r2005), (4, .int r1987), (3, .int 8), (2, .int x24), (0, .ref (ad 9)), (1, .ref (ad 16))]) hx hb dX7_readOrder_137 hl (by decide) rfl (fun ls hl => ?_)
                  refine lv_iload hx hb dX7_readOrder_139 (lv_at hl 0 rfl) ?_
                  refine lv_iconst (v := (-1)) hx hb dX7_readOrder_141 (by decide) ?_
                  refine lv_icmp_eq (tgt := 148) hx hb dX7_readOrder_142 (by decide) (fun c => absurd (jeq c rfl jz_m1) (by omega)) (fun c2033 => ?_)
                  have kc2033 := jne c2033 rfl jz_m1
                  refine lv_iload hx hb dX7_readOrder_145 (lv_at hl 0 rfl) ?_
                  have I2034 : jI16 σ2004 := jI16_fr ((congrFun (f2006 16 (by decide)) 0).trans ((congrFun (f1988 16 (by decide)) 0).trans ((congrFun (f1941 16 (by decide)) 0).trans ((congrFun (f1925 16 (by decide)) 0).trans ((congrFun (f31 16 (by decide)) 0).trans (congrFun (f10 16 (by decide)) 0)))))) ((congrFun (f2006 16 (by decide)) 1).trans ((congrFun (f1988 16 (by decide)) 1).trans ((congrFun (f1941 16 (by decide)) 1).trans ((congrFun (f1925 16 (by decide)) 1).trans ((congrFun (f31 16 (by decide)) 1).trans (congrFun (f10 16 (by decide)) 1)))))) ((congrFun (f2006 16 (by decide)) 2).trans ((congrFun (f1988 16 (by decide)) 2).trans ((congrFun (f1941 16 (by decide)) 2).trans ((congrFun (f1925 16 (by decide)) 2).trans ((congrFun (f31 16 (by decide)) 2).trans (congrFun (f10 16 (by decide)) 2)))))) ((f2006 17 (by decide)).trans ((f1988 17 (by decide)).trans ((f1941 17 (by decide)).trans ((f1925 17 (by decide)).trans ((f31 17 (by decide)).trans (f10 17 (by decide))))))) hI16
                  exact hret r2005 σ2004 τ _ _ _ _ rfl ⟨rfl, (fun i hi => ((f2006 i (imp_48 i hi)).trans ((f1988 i (imp_48 i hi)).trans ((f1941 i (imp_48 i hi)).trans ((f1925 i (imp_48 i hi)).trans ((f31 i (imp_49 i hi)).trans (f10 i (imp_48 i hi)))))))), (fun i hi => ((f2007 i (imp_50 i hi)).trans ((f1989 i (imp_52 i hi)).trans ((f1942 i (imp_51 i hi)).trans ((f1926 i (imp_51 i hi)).trans ((f32 i (imp_51 i hi)).trans (f11 i (imp_52 i hi)))))))), (fun i hi => ((congrFun (f2006 16 (by decide)) i).trans ((congrFun (f1988 16 (by decide)) i).trans ((congrFun (f1941 16 (by decide)) i).trans ((congrFun (f1925 16 (by decide)) i).trans ((congrFun (f31 16 (by decide)) i).trans (congrFun (f10 16 (by decide)) i))))))), I2008, I2034, trivial⟩ hP hS dX7_readOrder_147
            · have kc1938 := jne c1938 rfl jz_0
              refine lv_aload_n hx hb dX7_readOrder_88 rfl (lv_at hl 3 rfl) ?_
              refine va_get (D := D) hx hb hts inlX7 hown hK hP 9 (jc_9 cI cL ad σ1923 τ) rfl 1 (by decide) (hts _ kw_13_17) (fun _ h9 => h9) rfl dX7_readOrder_89 ?_
              refine lv_istore (lv' := [(5, .int (σ1923 9 1)), (4, .int 0), (3, .int 8), (2, .int x24), (0, .ref (ad 9)), (1, .ref (ad 16))]) hx hb dX7_readOrder_92 hl (by decide) rfl (fun ls hl => ?_)
              refine lv_aload_n hx hb dX7_readOrder_94 rfl (lv_at hl 4 rfl) ?_
              refine lv_iconst (v := 2) hx hb dX7_readOrder_95 (by decide) ?_
              refine jcallV (As := [.int 2]) (rest := []) ⟨hx, hb, hml, hown, hts⟩ hK hP hA hS hZ (c_X7_number_2 l D cI cL ad zz hJ σ1923 τ I1927 I1928 I1929) cw_RX7_53 (jc_9 cI cL ad σ1923 τ) rfl ⟨Nat.le_of_ble_eq_true rfl, Nat.le_of_ble_eq_true rfl⟩ rfl rfl rfl hl.1 rfl (Nat.le_of_ble_eq_true rfl) dX7_readOrder_96 ⟨Nat.zero_le _, Nat.zero_le _⟩ (fun r2036 σ2035 τ2035 H locs h2035 hP hS => ?_)
              obtain ⟨rfl, f2037, f2038, I2039, I2040, I2041, h2035⟩ := h2035
              obtain ⟨i2042, w2043, w2044⟩ : (0 ≤ (σ2035 9 0).toInt ∧ (σ2035 9 0).toInt ≤ 80) ∧ (∀ k : Nat, k < 80 → 0 ≤ (σ2035 10 k).toInt ∧ (σ2035 10 k).toInt ≤ 255) ∧ (∀ k : Nat, k < 8 → 0 ≤ (σ2035 11 k).toInt ∧ (σ2035 11 k).toInt ≤ 3) := id I2039
              obtain ⟨i2045, i2046⟩ : (0 ≤ (σ2035 9 1).toInt) ∧ ((σ2035 9 1).toInt ≤ (σ2035 9 0).toInt) := id I2040
              have i2047 : (-1) ≤ (σ2035 9 2).toInt := I2041
              have z2048 : (σ2035 9 0).toInt = (σ 9 0).toInt := (congrArg Int32.toInt (show σ2035 9 0 = (σ 9 0) from ((f2038 0 (by decide)).trans ((f1926 0 (by decide)).trans ((f32 0 (by decide)).trans (f11 0 (by decide)))))))
              obtain ⟨k2049, h2035⟩ := h2035
              have h2050 := h2035
              obtain ⟨q2052, k2051⟩ := h2050
              refine lv_istore_n (lv' := [(3, .int r2036), (5, .int (σ1923 9 1)), (4, .int 0), (2, .int x24), (0, .ref (ad 9)), (1, .ref (ad 16))]) hx hb dX7_readOrder_99 rfl hl (by decide) rfl (fun ls hl => ?_)
              refine lv_iload_n hx hb dX7_readOrder_100 rfl (lv_at hl 0 rfl) ?_
              refine lv_iconst (v := 1) hx hb dX7_readOrder_101 (by decide) ?_
              refine lv_icmp_lt (tgt := 111) hx hb dX7_readOrder_102 (by decide) (fun c2053 => ?_) (fun c2053 => ?_)
              · have kc2053 := jlt c2053 rfl jz_1
                refine lv_aload_n hx hb dX7_readOrder_111 rfl (lv_at hl 4 rfl) ?_
                refine lv_iload hx hb dX7_readOrder_112 (lv_at hl 1 rfl) ?_
                refine jcallVv (As := [.int (σ1923 9 1)]) (rest := []) ⟨hx, hb, hml, hown, hts⟩ hK hP hA hS hZ (c_X7_fail_9 l D cI cL ad zz hJ σ2035 τ (σ1923 9 1) ((σ1923 9 1).toInt) rfl I2041 (by omega)) cw_RX7_43 (jc_9 cI cL ad σ2035 τ) rfl ⟨Nat.le_of_ble_eq_true rfl, Nat.le_of_ble_eq_true rfl⟩ rfl rfl rfl hl.1 rfl (Nat.le_of_ble_eq_true rfl) dX7_readOrder_114 ⟨Nat.zero_le _, Nat.zero_le _⟩ (fun σ2054 τ2054 H locs h2054 hP hS => ?_)
                obtain ⟨rfl, f2056, f2057, h2054⟩ := h2054
                obtain ⟨k2058, h2054⟩ := h2054
                refine lv_aload_n hx hb dX7_readOrder_117 rfl (lv_at hl 4 rfl) ?_
                refine lv_bipush (v := 114) hx hb dX7_readOrder_118 (by decide) ?_
                have I2059 : jI9 σ2054 := jI9_fr (f2057 0 (by decide)) (f2056 10 (by decide)) (f2056 11 (by decide)) I2039
                have I2060 : jI91 σ2054 := jI91_fr (f2057 0 (by decide)) (f2057 1 (by decide)) I2040
                have I2061 : jI92 σ2054 := (show (-1) ≤ (σ2054 9 2).toInt by omega)
                refine jcallV (As := [.int 114]) (rest := []) ⟨hx, hb, hml, hown, hts⟩ hK hP hA hS hZ (c_X7_skip_9 l D cI cL ad zz hJ σ2054 τ 114 (114) jz_114 I2059 I2060 I2061 (by omega)) cw_RX7_50 (jc_9 cI cL ad σ2054 τ) rfl ⟨Nat.le_of_ble_eq_true rfl, Nat.le_of_ble_eq_true rfl⟩ rfl rfl rfl hl.1 rfl (Nat.le_of_ble_eq_true rfl) dX7_readOrder_120 ⟨Nat.zero_le _, Nat.zero_le _⟩ (fun r2063 σ2062 τ2062 H locs h2062 hP hS => ?_)
                obtain ⟨rfl, f2064, f2065, I2066, I2067, I2068, h2062⟩ := h2062
                obtain ⟨i2069, w2070, w2071⟩ : (0 ≤ (σ2062 9 0).toInt ∧ (σ2062 9 0).toInt ≤ 80) ∧ (∀ k : Nat, k < 80 → 0 ≤ (σ2062 10 k).toInt ∧ (σ2062 10 k).toInt ≤ 255) ∧ (∀ k : Nat, k < 8 → 0 ≤ (σ2062 11 k).toInt ∧ (σ2062 11 k).toInt ≤ 3) := id I2066
                obtain ⟨i2072, i2073⟩ : (0 ≤ (σ2062 9 1).toInt) ∧ ((σ2062 9 1).toInt ≤ (σ2062 9 0).toInt) := id I2067
                have i2074 : (-1) ≤ (σ2062 9 2).toInt := I2068
                have z2075 : (σ2062 9 0).toInt = (σ 9 0).toInt := (congrArg Int32.toInt (show σ2062 9 0 = (σ 9 0) from ((f2065 0 (by decide)).trans ((f2057 0 (by decide)).trans ((f2038 0 (by decide)).trans ((f1926 0 (by decide)).trans ((f32 0 (by decide)).trans (f11 0 (by decide)))))))))
                have z2076 : (σ2062 9 2).toInt = (σ2054 9 2).toInt := (congrArg Int32.toInt (show σ2062 9 2 = (σ2054 9 2) from (f2065 2 (by decide))))
                refine lv_if_eq (tgt := 133) hx hb dX7_readOrder_123 (by decide) (fun c2077 => ?_) (fun c2077 => ?_)
                · have kc2077 := jeq c2077 rfl jz_0
                  refine lv_aload_n hx hb dX7_readOrder_133 rfl (lv_at hl 4 rfl) ?_
                  refine jcallV (As := []) (rest := []) ⟨hx, hb, hml, hown, hts⟩ hK hP hA hS hZ (c_X7_end_9 l D cI cL ad zz hJ σ2062 τ I2066 I2067 I2068) cw_RX7_57 (jc_9 cI cL ad σ2062 τ) rfl ⟨Nat.le_of_ble_eq_true rfl, Nat.le_of_ble_eq_true rfl⟩ rfl rfl rfl hl.1 rfl (Nat.le_of_ble_eq_true rfl) dX7_readOrder_134 ⟨Nat.zero_le _, Nat.zero_le _⟩ (fun r2079 σ2078 τ2078 H locs h2078 hP hS => ?_)
                  obtain ⟨rfl, f2080, f2081, I2082, I2083, h2078⟩ := h2078
                  obtain ⟨i2084, w2085, w2086⟩ : (0 ≤ (σ2078 9 0).toInt ∧ (σ2078 9 0).toInt ≤ 80) ∧ (∀ k : Nat, k < 80 → 0 ≤ (σ2078 10 k).toInt ∧ (σ2078 10 k).toInt ≤ 255) ∧ (∀ k : Nat, k < 8 → 0 ≤ (σ2078 11 k).toInt ∧ (σ2078 11 k).toInt ≤ 3) := id I2082
                  have i2087 : (-1) ≤ (σ2078 9 2).toInt := I2083
                  rcases h2078 with h2088 | h2089
                  · obtain ⟨q2091, k2090⟩ := h2088
                    exact absurd (by omega : False) id
                  · obtain ⟨q2093, k2092⟩ := h2089
                    refine lv_istore (lv' := [(5, .int r2079), (3, .int r2036), (4, .int 0), (2, .int x24), (0, .ref (ad 9)), (1, .ref (ad 16))]) hx hb dX7_readOrder_137 hl (by decide) rfl (fun ls hl => ?_)
                    refine lv_iload hx hb dX7_readOrder_139 (lv_at hl 0 rfl) ?_
                    refine lv_iconst (v := (-1)) hx hb dX7_readOrder_141 (by decide) ?_
                    refine lv_icmp_eq (tgt := 148) hx hb dX7_readOrder_142 (by decide) (fun c => absurd (jeq c rfl jz_m1) (by omega)) (fun c2094 => ?_)
                    have kc2094 := jne c2094 rfl jz_m1
                    refine lv_iload hx hb dX7_readOrder_145 (lv_at hl 0 rfl) ?_
                    have I2095 : jI16 σ2078 := jI16_fr ((congrFun (f2080 16 (by decide)) 0).trans ((congrFun (f2064 16 (by decide)) 0).trans ((congrFun (f2056 16 (by decide)) 0).trans ((congrFun (f2037 16 (by decide)) 0).trans ((congrFun (f1925 16 (by decide)) 0).trans ((congrFun (f31 16 (by decide)) 0).trans (congrFun (f10 16 (by decide)) 0))))))) ((congrFun (f2080 16 (by decide)) 1).trans ((congrFun (f2064 16 (by decide)) 1).trans ((congrFun (f2056 16 (by decide)) 1).trans ((congrFun (f2037 16 (by decide)) 1).trans ((congrFun (f1925 16 (by decide)) 1).trans ((congrFun (f31 16 (by decide)) 1).trans (congrFun (f10 16 (by decide)) 1))))))) ((congrFun (f2080 16 (by decide)) 2).trans ((congrFun (f2064 16 (by decide)) 2).trans ((congrFun (f2056 16 (by decide)) 2).trans ((congrFun (f2037 16 (by decide)) 2).trans ((congrFun (f1925 16 (by decide)) 2).trans ((congrFun (f31 16 (by decide)) 2).trans (congrFun (f10 16 (by decide)) 2))))))) ((f2080 17 (by decide)).trans ((f2064 17 (by decide)).trans ((f2056 17 (by decide)).trans ((f2037 17 (by decide)).trans ((f1925 17 (by decide)).trans ((f31 17 (by decide)).trans (f10 17 (by decide)))))))) hI16
                    exact hret r2079 σ2078 τ _ _ _ _ rfl ⟨rfl, (fun i hi => ((f2080 i (imp_48 i hi)).trans ((f2064 i (imp_48 i hi)).trans ((f2056 i (imp_48 i hi)).trans ((f2037 i (imp_48 i hi)).trans ((f1925 i (imp_48 i hi)).trans ((f31 i (imp_49 i hi)).trans (f10 i (imp_48 i hi))))))))), (fun i hi => ((f2081 i (imp_50 i hi)).trans ((f2065 i (imp_51 i hi)).trans ((f2057 i (imp_56 i hi)).trans ((f2038 i (imp_52 i hi)).trans ((f1926 i (imp_51 i hi)).trans ((f32 i (imp_51 i hi)).trans (f11 i (imp_52 i hi))))))))), (fun i hi => ((congrFun (f2080 16 (by decide)) i).trans ((congrFun (f2064 16 (by decide)) i).trans ((congrFun (f2056 16 (by decide)) i).trans ((congrFun (f2037 16 (by decide)) i).trans ((congrFun (f1925 16 (by decide)) i).trans ((congrFun (f31 16 (by decide)) i).trans (congrFun (f10 16 (by decide)) i)))))))), I2082, I2095, trivial⟩ hP hS dX7_readOrder_147
                · have kc2077 := jne c2077 rfl jz_0
                  refine lv_aload_n hx hb dX7_readOrder_126 rfl (lv_at hl 4 rfl) ?_
                  refine lv_iconst (v := 3) hx hb dX7_readOrder_127 (by decide) ?_
                  refine jcallV (As := [.int 3]) (rest := []) ⟨hx, hb, hml, hown, hts⟩ hK hP hA hS hZ (c_X7_number_3 l D cI cL ad zz hJ σ2062 τ I2066 I2067 I2068) cw_RX7_53 (jc_9 cI cL ad σ2062 τ) rfl ⟨Nat.le_of_ble_eq_true rfl, Nat.le_of_ble_eq_true rfl⟩ rfl rfl rfl hl.1 rfl (Nat.le_of_ble_eq_true rfl) dX7_readOrder_128 ⟨Nat.zero_le _, Nat.zero_le _⟩ (fun r2097 σ2096 τ2096 H locs h2096 hP hS => ?_)
                  obtain ⟨rfl, f2098, f2099, I2100, I2101, I2102, h2096⟩ := h2096
                  obtain ⟨i2103, w2104, w2105⟩ : (0 ≤ (σ2096 9 0).toInt ∧ (σ2096 9 0).toInt ≤ 80) ∧ (∀ k : Nat, k < 80 → 0 ≤ (σ2096 10 k).toInt ∧ (σ2096 10 k).toInt ≤ 255) ∧ (∀ k : Nat, k < 8 → 0 ≤ (σ2096 11 k).toInt ∧ (σ2096 11 k).toInt ≤ 3) := id I2100
                  obtain ⟨i2106, i2107⟩ : (0 ≤ (σ2096 9 1).toInt) ∧ ((σ2096 9 1).toInt ≤ (σ2096 9 0).toInt) := id I2101
                  have i2108 : (-1) ≤ (σ2096 9 2).toInt := I2102
                  have z2109 : (σ2096 9 0).toInt = (σ 9 0).toInt := (congrArg Int32.toInt (show σ2096 9 0 = (σ 9 0) from ((f2099 0 (by decide)).trans ((f2065 0 (by decide)).trans ((f2057 0 (by decide)).trans ((f2038 0 (by decide)).trans ((f1926 0 (by decide)).trans ((f32 0 (by decide)).trans (f11 0 (by decide))))))))))
                  obtain ⟨k2110, h2096⟩ := h2096
                  have h2111 := h2096
                  obtain ⟨q2113, k2112⟩ := h2111
                  refine lv_istore (lv' := [(4, .int r2097), (3, .int r2036), (5, .int (σ1923 9 1)), (2, .int x24), (0, .ref (ad 9)), (1, .ref (ad 16))]) hx hb dX7_readOrder_131 hl (by decide) rfl (fun ls hl => ?_)
                  refine lv_aload_n hx hb dX7_readOrder_133 rfl (lv_at hl 4 rfl) ?_
                  refine jcallV (As := []) (rest := []) ⟨hx, hb, hml, hown, hts⟩ hK hP hA hS hZ (c_X7_end_9 l D cI cL ad zz hJ σ2096 τ I2100 I2101 I2102) cw_RX7_57 (jc_9 cI cL ad σ2096 τ) rfl ⟨Nat.le_of_ble_eq_true rfl, Nat.le_of_ble_eq_true rfl⟩ rfl rfl rfl hl.1 rfl (Nat.le_of_ble_eq_true rfl) dX7_readOrder_134 ⟨Nat.zero_le _, Nat.zero_le _⟩ (fun r2115 σ2114 τ2114 H locs h2114 hP hS => ?_)
                  obtain ⟨rfl, f2116, f2117, I2118, I2119, h2114⟩ := h2114
                  obtain ⟨i2120, w2121, w2122⟩ : (0 ≤ (σ2114 9 0).toInt ∧ (σ2114 9 0).toInt ≤ 80) ∧ (∀ k : Nat, k < 80 → 0 ≤ (σ2114 10 k).toInt ∧ (σ2114 10 k).toInt ≤ 255) ∧ (∀ k : Nat, k < 8 → 0 ≤ (σ2114 11 k).toInt ∧ (σ2114 11 k).toInt ≤ 3) := id I2118
                  have i2123 : (-1) ≤ (σ2114 9 2).toInt := I2119
                  rcases h2114 with h2124 | h2125
                  · obtain ⟨q2127, k2126⟩ := h2124
                    exact absurd (by omega : False) id
                  · obtain ⟨q2129, k2128⟩ := h2125
                    refine lv_istore (lv' := [(5, .int r2115), (4, .int r2097), (3, .int r2036), (2, .int x24), (0, .ref (ad 9)), (1, .ref (ad 16))]) hx hb dX7_readOrder_137 hl (by decide) rfl (fun ls hl => ?_)
                    refine lv_iload hx hb dX7_readOrder_139 (lv_at hl 0 rfl) ?_
                    refine lv_iconst (v := (-1)) hx hb dX7_readOrder_141 (by decide) ?_
                    refine lv_icmp_eq (tgt := 148) hx hb dX7_readOrder_142 (by decide) (fun c => absurd (jeq c rfl jz_m1) (by omega)) (fun c2130 => ?_)
                    have kc2130 := jne c2130 rfl jz_m1
                    refine lv_iload hx hb dX7_readOrder_145 (lv_at hl 0 rfl) ?_
                    have I2131 : jI16 σ2114 := jI16_fr ((congrFun (f2116 16 (by decide)) 0).trans ((congrFun (f2098 16 (by decide)) 0).trans ((congrFun (f2064 16 (by decide)) 0).trans ((congrFun (f2056 16 (by decide)) 0).trans ((congrFun (f2037 16 (by decide)) 0).trans ((congrFun (f1925 16 (by decide)) 0).trans ((congrFun (f31 16 (by decide)) 0).trans (congrFun (f10 16 (by decide)) 0)))))))) ((congrFun (f2116 16 (by decide)) 1).trans ((congrFun (f2098 16 (by decide)) 1).trans ((congrFun (f2064 16 (by decide)) 1).trans ((congrFun (f2056 16 (by decide)) 1).trans ((congrFun (f2037 16 (by decide)) 1).trans ((congrFun (f1925 16 (by decide)) 1).trans ((congrFun (f31 16 (by decide)) 1).trans (congrFun (f10 16 (by decide)) 1)))))))) ((congrFun (f2116 16 (by decide)) 2).trans ((congrFun (f2098 16 (by decide)) 2).trans ((congrFun (f2064 16 (by decide)) 2).trans ((congrFun (f2056 16 (by decide)) 2).trans ((congrFun (f2037 16 (by decide)) 2).trans ((congrFun (f1925 16 (by decide)) 2).trans ((congrFun (f31 16 (by decide)) 2).trans (congrFun (f10 16 (by decide)) 2)))))))) ((f2116 17 (by decide)).trans ((f2098 17 (by decide)).trans ((f2064 17 (by decide)).trans ((f2056 17 (by decide)).trans ((f2037 17 (by decide)).trans ((f1925 17 (by decide)).trans ((f31 17 (by decide)).trans (f10 17 (by decide))))))))) hI16
                    exact hret r2115 σ2114 τ _ _ _ _ rfl ⟨rfl, (fun i hi => ((f2116 i (imp_48 i hi)).trans ((f2098 i (imp_48 i hi)).trans ((f2064 i (imp_48 i hi)).trans ((f2056 i (imp_48 i hi)).trans ((f2037 i (imp_48 i hi)).trans ((f1925 i (imp_48 i hi)).trans ((f31 i (imp_49 i hi)).trans (f10 i (imp_48 i hi)))))))))), (fun i hi => ((f2117 i (imp_50 i hi)).trans ((f2099 i (imp_52 i hi)).trans ((f2065 i (imp_51 i hi)).trans ((f2057 i (imp_56 i hi)).trans ((f2038 i (imp_52 i hi)).trans ((f1926 i (imp_51 i hi)).trans ((f32 i (imp_51 i hi)).trans (f11 i (imp_52 i hi)))))))))), (fun i hi => ((congrFun (f2116 16 (by decide)) i).trans ((congrFun (f2098 16 (by decide)) i).trans ((congrFun (f2064 16 (by decide)) i).trans ((congrFun (f2056 16 (by decide)) i).trans ((congrFun (f2037 16 (by decide)) i).trans ((congrFun (f1925 16 (by decide)) i).trans ((congrFun (f31 16 (by decide)) i).trans (congrFun (f10 16 (by decide)) i))))))))), I2118, I2131, trivial⟩ hP hS dX7_readOrder_147
              · have kc2053 := jnlt c2053 rfl jz_1
                refine lv_iload_n hx hb dX7_readOrder_105 rfl (lv_at hl 0 rfl) ?_
                refine lv_bipush (v := 12) hx hb dX7_readOrder_106 (by decide) ?_
                refine lv_icmp_le (tgt := 117) hx hb dX7_readOrder_108 (by decide) (fun c2132 => ?_) (fun c2132 => ?_)
                · have kc2132 := jle c2132 rfl jz_12
                  refine lv_aload_n hx hb dX7_readOrder_117 rfl (lv_at hl 4 rfl) ?_
                  refine lv_bipush (v := 114) hx hb dX7_readOrder_118 (by decide) ?_
                  refine jcallV (As := [.int 114]) (rest := []) ⟨hx, hb, hml, hown, hts⟩ hK hP hA hS hZ (c_X7_skip_9 l D cI cL ad zz hJ σ2035 τ 114 (114) jz_114 I2039 I2040 I2041 (by omega)) cw_RX7_50 (jc_9 cI cL ad σ2035 τ) rfl ⟨Nat.le_of_ble_eq_true rfl, Nat.le_of_ble_eq_true rfl⟩ rfl rfl rfl hl.1 rfl (Nat.le_of_ble_eq_true rfl) dX7_readOrder_120 ⟨Nat.zero_le _, Nat.zero_le _⟩ (fun r2134 σ2133 τ2133 H locs h2133 hP hS => ?_)
                  obtain ⟨rfl, f2135, f2136, I2137, I2138, I2139, h2133⟩ := h2133
                  obtain ⟨i2140, w2141, w2142⟩ : (0 ≤ (σ2133 9 0).toInt ∧ (σ2133 9 0).toInt ≤ 80) ∧ (∀ k : Nat, k < 80 → 0 ≤ (σ2133 10 k).toInt ∧ (σ2133 10 k).toInt ≤ 255) ∧ (∀ k : Nat, k < 8 → 0 ≤ (σ2133 11 k).toInt ∧ (σ2133 11 k).toInt ≤ 3) := id I2137
                  obtain ⟨i2143, i2144⟩ : (0 ≤ (σ2133 9 1).toInt) ∧ ((σ2133 9 1).toInt ≤ (σ2133 9 0).toInt) := id I2138
                  have i2145 : (-1) ≤ (σ2133 9 2).toInt := I2139
                  have z2146 : (σ2133 9 0).toInt = (σ 9 0).toInt := (congrArg Int32.toInt (show σ2133 9 0 = (σ 9 0) from ((f2136 0 (by decide)).trans ((f2038 0 (by decide)).trans ((f1926 0 (by decide)).trans ((f32 0 (by decide)).trans (f11 0 (by decide))))))))
                  have z2147 : (σ2133 9 2).toInt = (σ2035 9 2).toInt := (congrArg Int32.toInt (show σ2133 9 2 = (σ2035 9 2) from (f2136 2 (by decide))))
                  refine lv_if_eq (tgt := 133) hx hb dX7_readOrder_123 (by decide) (fun c2148 => ?_) (fun c2148 => ?_)
                  · have kc2148 := jeq c2148 rfl jz_0
                    refine lv_aload_n hx hb dX7_readOrder_133 rfl (lv_at hl 4 rfl) ?_
                    refine jcallV (As := []) (rest := []) ⟨hx, hb, hml, hown, hts⟩ hK hP hA hS hZ (c_X7_end_9 l D cI cL ad zz hJ σ2133 τ I2137 I2138 I2139) cw_RX7_57 (jc_9 cI cL ad σ2133 τ) rfl ⟨Nat.le_of_ble_eq_true rfl, Nat.le_of_ble_eq_true rfl⟩ rfl rfl rfl hl.1 rfl (Nat.le_of_ble_eq_true rfl) dX7_readOrder_134 ⟨Nat.zero_le _, Nat.zero_le _⟩ (fun r2150 σ2149 τ2149 H locs h2149 hP hS => ?_)
                    obtain ⟨rfl, f2151, f2152, I2153, I2154, h2149⟩ := h2149
                    obtain ⟨i2155, w2156, w2157⟩ : (0 ≤ (σ2149 9 0).toInt ∧ (σ2149 9 0).toInt ≤ 80) ∧ (∀ k : Nat, k < 80 → 0 ≤ (σ2149 10 k).toInt ∧ (σ2149 10 k).toInt ≤ 255) ∧ (∀ k : Nat, k < 8 → 0 ≤ (σ2149 11 k).toInt ∧ (σ2149 11 k).toInt ≤ 3) := id I2153
                    have i2158 : (-1) ≤ (σ2149 9 2).toInt := I2154
                    rcases h2149 with h2159 | h2160
                    · obtain ⟨q2162, k2161⟩ := h2159
                      have q2162 := q2162.symm
                      subst q2162
                      refine lv_istore (lv' := [(5, .int (-1)), (3, .int r2036), (4, .int 0), (2, .int x24), (0, .ref (ad 9)), (1, .ref (ad 16))]) hx hb dX7_readOrder_137 hl (by decide) rfl (fun ls hl => ?_)
                      refine lv_iload hx hb dX7_readOrder_139 (lv_at hl 0 rfl) ?_
                      refine lv_iconst (v := (-1)) hx hb dX7_readOrder_141 (by decide) ?_
                      refine lv_icmp_eq (tgt := 148) hx hb dX7_readOrder_142 (by decide) (fun _ => ?_) (fun c => absurd (by decide) c)
                      refine lv_aload_n hx hb dX7_readOrder_148 rfl (lv_at hl 5 rfl) ?_
                      refine lv_iload_n hx hb dX7_readOrder_149 rfl (lv_at hl 3 rfl) ?_
                      refine jput (ty := .int) hx hb hts inlX6 tyX6 tyX6_ok nmX6 hown hK hP hJ hA hS (jc_16 cI cL ad σ2149 τ) rfl (k := 0) (by decide) (Nat.le_of_ble_eq_true rfl) (jp_16_0 cI cL ad σ2149 τ x24) (hts _ kw_13_18) (fun _ h9 => h9) rfl (by decide +kernel) rfl rfl dX7_readOrder_150 (fun σ2163 H locs eσ2163 hP hS => ?_)
                      refine lv_aload_n hx hb dX7_readOrder_153 rfl (lv_at hl 5 rfl) ?_
                      refine lv_iload_n hx hb dX7_readOrder_154 rfl (lv_at hl 1 rfl) ?_
                      refine jput (ty := .int) hx hb hts inlX6 tyX6 tyX6_ok nmX6 hown hK hP hJ hA hS (jc_16 cI cL ad σ2163 τ) rfl (k := 1) (by decide) (Nat.le_of_ble_eq_true rfl) (jp_16_1 cI cL ad σ2163 τ r2036) (hts _ kw_13_19) (fun _ h9 => h9) rfl (by decide +kernel) rfl rfl dX7_readOrder_155 (fun σ2164 H locs eσ2164 hP hS => ?_)
                      refine lv_aload_n hx hb dX7_readOrder_158 rfl (lv_at hl 5 rfl) ?_
                      refine lv_iload hx hb dX7_readOrder_159 (lv_at hl 2 rfl) ?_
                      refine jput (ty := .int) hx hb hts inlX6 tyX6 tyX6_ok nmX6 hown hK hP hJ hA hS (jc_16 cI cL ad σ2164 τ) rfl (k := 2) (by decide) (Nat.le_of_ble_eq_true rfl) (jp_16_2 cI cL ad σ2164 τ 0) (hts _ kw_13_20) (fun _ h9 => h9) rfl (by decide +kernel) rfl rfl dX7_readOrder_161 (fun σ2165 H locs eσ2165 hP hS => ?_)
                      refine lv_aload_n hx hb dX7_readOrder_164 rfl (lv_at hl 4 rfl) ?_
                      refine va_get (D := D) hx hb hts inlX7 hown hK hP 9 (jc_9 cI cL ad σ2165 τ) rfl 4 (by decide) (hts _ kw_3_21) (fun _ h9 => h9) rfl dX7_readOrder_165 ?_
                      refine lv_iconst (v := 0) hx hb dX7_readOrder_168 (by decide) ?_
                      refine lv_aload_n hx hb dX7_readOrder_169 rfl (lv_at hl 5 rfl) ?_
                      refine va_get (D := D) hx hb hts inlX6 hown hK hP 16 (jc_16 cI cL ad σ2165 τ) rfl 3 (by decide) (hts _ kw_13_21) (fun _ h9 => h9) rfl dX7_readOrder_170 ?_
                      refine lv_iconst (v := 0) hx hb dX7_readOrder_173 (by decide) ?_
                      refine lv_iload_n hx hb dX7_readOrder_174 rfl (lv_at hl 3 rfl) ?_
                      refine jcpyI (q0 := 11) (q1 := 17) hx hb (hml.trans hl.1.symm) hown (hts _ kw_13_22) (hts _ kw_13_23) (hts _ kw_14_0) (hts _ kw_14_1) hK hP hJ hA hS (jc_11 cI cL ad σ2165 τ) (jc_17 cI cL ad σ2165 τ) (fun _ => rfl) jz_0 jz_0 rfl (by omega) (by omega) (by omega) (by omega) (by omega) (Nat.le_of_ble_eq_true rfl) (Nat.le_of_ble_eq_true rfl) dX7_readOrder_175 (fun σ2166 H locs eσ2166 hP hS => ?_)
                      have w2167 : ∀ k : Nat, k < 8 → 0 ≤ (σ2165 11 k).toInt ∧ (σ2165 11 k).toInt ≤ 3 := (jrr_fr (jnp 11 eσ2165 (by decide)) (jrr_fr (jnp 11 eσ2164 (by decide)) (jrr_fr (jnp 11 eσ2163 (by decide)) w2157)))
                      have w2168 : ∀ k : Nat, k < 8 → 0 ≤ (σ2165 17 k).toInt ∧ (σ2165 17 k).toInt ≤ 3 := (jrr_fr (jnp 17 eσ2165 (by decide)) (jrr_fr (jnp 17 eσ2164 (by decide)) (jrr_fr (jnp 17 eσ2163 (by decide)) (jrr_fr (f2151 17 (by decide)) (jrr_fr (f2135 17 (by decide)) (jrr_fr (f2037 17 (by decide)) (jrr_fr (f1925 17 (by decide)) (jrr_fr (f31 17 (by decide)) (jrr_fr (f10 17 (by decide)) w7)))))))))
                      have f2169 : (∀ i : Nat, (i < 17 ∨ 17 < i) → σ2166 i = σ2165 i) := by rw [eσ2166]; exact jrow_n
                      have w2170 : ∀ k : Nat, k < 8 → 0 ≤ (σ2166 17 k).toInt ∧ (σ2166 17 k).toInt ≤ 3 := by rw [eσ2166]; exact jrow_rr w2167 w2168 jz_0 rfl (n0 := 8) (by omega) (by omega) (by omega)
                      refine lv_iconst (v := (-1)) hx hb dX7_readOrder_178 (by decide) ?_
                      have I2171 : jI9 σ2166 := jI9_fr ((congrFun (f2169 9 (by decide)) 0).trans ((congrFun (jnp 9 eσ2165 (by decide)) 0).trans ((congrFun (jnp 9 eσ2164 (by decide)) 0).trans (congrFun (jnp 9 eσ2163 (by decide)) 0)))) ((f2169 10 (by decide)).trans ((jnp 10 eσ2165 (by decide)).trans ((jnp 10 eσ2164 (by decide)).trans (jnp 10 eσ2163 (by decide))))) ((f2169 11 (by decide)).trans ((jnp 11 eσ2165 (by decide)).trans ((jnp 11 eσ2164 (by decide)).trans (jnp 11 eσ2163 (by decide))))) I2153
                      have z2172 : (σ2166 16 0).toInt = x24.toInt := (congrArg Int32.toInt (show σ2166 16 0 = x24 from ((congrFun (f2169 16 (by decide)) 0).trans ((jkp 0 eσ2165 (by decide)).trans ((jkp 0 eσ2164 (by decide)).trans (jsp eσ2163))))))
                      have z2173 : (σ2166 16 1).toInt = r2036.toInt := (congrArg Int32.toInt (show σ2166 16 1 = r2036 from ((congrFun (f2169 16 (by decide)) 1).trans ((jkp 1 eσ2165 (by decide)).trans (jsp eσ2164)))))
                      have z2174 : (σ2166 16 2).toInt = 0 := ((congrArg Int32.toInt (show σ2166 16 2 = 0 from ((congrFun (f2169 16 (by decide)) 2).trans (jsp eσ2165)))).trans jz_0)
                      have I2175 : jI16 σ2166 := ⟨(by omega), (by omega), (by omega), w2170⟩
                      exact hret (-1) σ2166 τ _ _ _ _ rfl ⟨rfl, (fun i hi => ((f2169 i (imp_46 i hi)).trans ((jnp i eσ2165 (imp_47 i hi)).trans ((jnp i eσ2164 (imp_47 i hi)).trans ((jnp i eσ2163 (imp_47 i hi)).trans ((f2151 i (imp_48 i hi)).trans ((f2135 i (imp_48 i hi)).trans ((f2037 i (imp_48 i hi)).trans ((f1925 i (imp_48 i hi)).trans ((f31 i (imp_49 i hi)).trans (f10 i (imp_48 i hi)))))))))))), (fun i hi => ((congrFun (f2169 9 (by decide)) i).trans ((congrFun (jnp 9 eσ2165 (by decide)) i).trans ((congrFun (jnp 9 eσ2164 (by decide)) i).trans ((congrFun (jnp 9 eσ2163 (by decide)) i).trans ((f2152 i (imp_50 i hi)).trans ((f2136 i (imp_51 i hi)).trans ((f2038 i (imp_52 i hi)).trans ((f1926 i (imp_51 i hi)).trans ((f32 i (imp_51 i hi)).trans (f11 i (imp_52 i hi)))))))))))), (fun i hi => ((congrFun (f2169 16 (by decide)) i).trans ((jkp i eσ2165 (imp_53 i hi)).trans ((jkp i eσ2164 (imp_54 i hi)).trans ((jkp i eσ2163 (imp_55 i hi)).trans ((congrFun (f2151 16 (by decide)) i).trans ((congrFun (f2135 16 (by decide)) i).trans ((congrFun (f2037 16 (by decide)) i).trans ((congrFun (f1925 16 (by decide)) i).trans ((congrFun (f31 16 (by decide)) i).trans (congrFun (f10 16 (by decide)) i))))))))))), I2171, I2175, trivial⟩ hP hS dX7_readOrder_179
                    · obtain ⟨q2177, k2176⟩ := h2160
                      refine lv_istore (lv' := [(5, .int r2150), (3, .int r2036), (4, .int 0), (2, .int x24), (0, .ref (ad 9)), (1, .ref (ad 16))]) hx hb dX7_readOrder_137 hl (by decide) rfl (fun ls hl => ?_)
                      refine lv_iload hx hb dX7_readOrder_139 (lv_at hl 0 rfl) ?_
                      refine lv_iconst (v := (-1)) hx hb dX7_readOrder_141 (by decide) ?_
                      refine lv_icmp_eq (tgt := 148) hx hb dX7_readOrder_142 (by decide) (fun c => absurd (jeq c rfl jz_m1) (by omega)) (fun c2178 => ?_)
                      have kc2178 := jne c2178 rfl jz_m1
                      refine lv_iload hx hb dX7_readOrder_145 (lv_at hl 0 rfl) ?_
                      have I2179 : jI16 σ2149 := jI16_fr ((congrFun (f2151 16 (by decide)) 0).trans ((congrFun (f2135 16 (by decide)) 0).trans ((congrFun (f2037 16 (by decide)) 0).trans ((congrFun (f1925 16 (by decide)) 0).trans ((congrFun (f31 16 (by decide)) 0).trans (congrFun (f10 16 (by decide)) 0)))))) ((congrFun (f2151 16 (by decide)) 1).trans ((congrFun (f2135 16 (by decide)) 1).trans ((congrFun (f2037 16 (by decide)) 1).trans ((congrFun (f1925 16 (by decide)) 1).trans ((congrFun (f31 16 (by decide)) 1).trans (congrFun (f10 16 (by decide)) 1)))))) ((congrFun (f2151 16 (by decide)) 2).trans ((congrFun (f2135 16 (by decide)) 2).trans ((congrFun (f2037 16 (by decide)) 2).trans ((congrFun (f1925 16 (by decide)) 2).trans ((congrFun (f31 16 (by decide)) 2).trans (congrFun (f10 16 (by decide)) 2)))))) ((f2151 17 (by decide)).trans ((f2135 17 (by decide)).trans ((f2037 17 (by decide)).trans ((f1925 17 (by decide)).trans ((f31 17 (by decide)).trans (f10 17 (by decide))))))) hI16
                      exact hret r2150 σ2149 τ _ _ _ _ rfl ⟨rfl, (fun i hi => ((f2151 i (imp_48 i hi)).trans ((f2135 i (imp_48 i hi)).trans ((f2037 i (imp_48 i hi)).trans ((f1925 i (imp_48 i hi)).trans ((f31 i (imp_49 i hi)).trans (f10 i (imp_48 i hi)))))))), (fun i hi => ((f2152 i (imp_50 i hi)).trans ((f2136 i (imp_51 i hi)).trans ((f2038 i (imp_52 i hi)).trans ((f1926 i (imp_51 i hi)).trans ((f32 i (imp_51 i hi)).trans (f11 i (imp_52 i hi)))))))), (fun i hi => ((congrFun (f2151 16 (by decide)) i).trans ((congrFun (f2135 16 (by decide)) i).trans ((congrFun (f2037 16 (by decide)) i).trans ((congrFun (f1925 16 (by decide)) i).trans ((congrFun (f31 16 (by decide)) i).trans (congrFun (f10 16 (by decide)) i))))))), I2153, I2179, trivial⟩ hP hS dX7_readOrder_147
                  · have kc2148 := jne c2148 rfl jz_0
                    refine lv_aload_n hx hb dX7_readOrder_126 rfl (lv_at hl 4 rfl) ?_
                    refine lv_iconst (v := 3) hx hb dX7_readOrder_127 (by decide) ?_
                    refine jcallV (As := [.int 3]) (rest := []) ⟨hx, hb, hml, hown, hts⟩ hK hP hA hS hZ (c_X7_number_3 l D cI cL ad zz hJ σ2133 τ I2137 I2138 I2139) cw_RX7_53 (jc_9 cI cL ad σ2133 τ) rfl ⟨Nat.le_of_ble_eq_true rfl, Nat.le_of_ble_eq_true rfl⟩ rfl rfl rfl hl.1 rfl (Nat.le_of_ble_eq_true rfl) dX7_readOrder_128 ⟨Nat.zero_le _, Nat.zero_le _⟩ (fun r2181 σ2180 τ2180 H locs h2180 hP hS => ?_)
                    obtain ⟨rfl, f2182, f2183, I2184, I2185, I2186, h2180⟩ := h2180
                    obtain ⟨i2187, w2188, w2189⟩ : (0 ≤ (σ2180 9 0).toInt ∧ (σ2180 9 0).toInt ≤ 80) ∧ (∀ k : Nat, k < 80 → 0 ≤ (σ2180 10 k).toInt ∧ (σ2180 10 k).toInt ≤ 255) ∧ (∀ k : Nat, k < 8 → 0 ≤ (σ2180 11 k).toInt ∧ (σ2180 11 k).toInt ≤ 3) := id I2184
                    obtain ⟨i2190, i2191⟩ : (0 ≤ (σ2180 9 1).toInt) ∧ ((σ2180 9 1).toInt ≤ (σ2180 9 0).toInt) := id I2185
                    have i2192 : (-1) ≤ (σ2180 9 2).toInt := I2186
                    have z2193 : (σ2180 9 0).toInt = (σ 9 0).toInt := (congrArg Int32.toInt (show σ2180 9 0 = (σ 9 0) from ((f2183 0 (by decide)).trans ((f2136 0 (by decide)).trans ((f2038 0 (by decide)).trans ((f1926 0 (by decide)).trans ((f32 0 (by decide)).trans (f11 0 (by decide)))))))))
                    obtain ⟨k2194, h2180⟩ := h2180
                    have h2195 := h2180
                    obtain ⟨q2197, k2196⟩ := h2195
                    refine lv_istore (lv' := [(4, .int r2181), (3, .int r2036), (5, .int (σ1923 9 1)), (2, .int x24), (0, .ref (ad 9)), (1, .ref (ad 16))]) hx hb dX7_readOrder_131 hl (by decide) rfl (fun ls hl => ?_)
                    refine lv_aload_n hx hb dX7_readOrder_133 rfl (lv_at hl 4 rfl) ?_
                    refine jcallV (As := []) (rest := []) ⟨hx, hb, hml, hown, hts⟩ hK hP hA hS hZ (c_X7_end_9 l D cI cL ad zz hJ σ2180 τ I2184 I2185 I2186) cw_RX7_57 (jc_9 cI cL ad σ2180 τ) rfl ⟨Nat.le_of_ble_eq_true rfl, Nat.le_of_ble_eq_true rfl⟩ rfl rfl rfl hl.1 rfl (Nat.le_of_ble_eq_true rfl) dX7_readOrder_134 ⟨Nat.zero_le _, Nat.zero_le _⟩ (fun r2199 σ2198 τ2198 H locs h2198 hP hS => ?_)
                    obtain ⟨rfl, f2200, f2201, I2202, I2203, h2198⟩ := h2198
                    obtain ⟨i2204, w2205, w2206⟩ : (0 ≤ (σ2198 9 0).toInt ∧ (σ2198 9 0).toInt ≤ 80) ∧ (∀ k : Nat, k < 80 → 0 ≤ (σ2198 10 k).toInt ∧ (σ2198 10 k).toInt ≤ 255) ∧ (∀ k : Nat, k < 8 → 0 ≤ (σ2198 11 k).toInt ∧ (σ2198 11 k).toInt ≤ 3) := id I2202
                    have i2207 : (-1) ≤ (σ2198 9 2).toInt := I2203
                    rcases h2198 with h2208 | h2209
                    · obtain ⟨q2211, k2210⟩ := h2208
                      have q2211 := q2211.symm
                      subst q2211
                      refine lv_istore (lv' := [(5, .int (-1)), (4, .int r2181), (3, .int r2036), (2, .int x24), (0, .ref (ad 9)), (1, .ref (ad 16))]) hx hb dX7_readOrder_137 hl (by decide) rfl (fun ls hl => ?_)
                      refine lv_iload hx hb dX7_readOrder_139 (lv_at hl 0 rfl) ?_
                      refine lv_iconst (v := (-1)) hx hb dX7_readOrder_141 (by decide) ?_
                      refine lv_icmp_eq (tgt := 148) hx hb dX7_readOrder_142 (by decide) (fun _ => ?_) (fun c => absurd (by decide) c)
                      refine lv_aload_n hx hb dX7_readOrder_148 rfl (lv_at hl 5 rfl) ?_
                      refine lv_iload_n hx hb dX7_readOrder_149 rfl (lv_at hl 3 rfl) ?_
                      refine jput (ty := .int) hx hb hts inlX6 tyX6 tyX6_ok nmX6 hown hK hP hJ hA hS (jc_16 cI cL ad σ2198 τ) rfl (k := 0) (by decide) (Nat.le_of_ble_eq_true rfl) (jp_16_0 cI cL ad σ2198 τ x24) (hts _ kw_13_18) (fun _ h9 => h9) rfl (by decide +kernel) rfl rfl dX7_readOrder_150 (fun σ2212 H locs eσ2212 hP hS => ?_)
                      refine lv_aload_n hx hb dX7_readOrder_153 rfl (lv_at hl 5 rfl) ?_
                      refine lv_iload_n hx hb dX7_readOrder_154 rfl (lv_at hl 2 rfl) ?_
                      refine jput (ty := .int) hx hb hts inlX6 tyX6 tyX6_ok nmX6 hown hK hP hJ hA hS (jc_16 cI cL ad σ2212 τ) rfl (k := 1) (by decide) (Nat.le_of_ble_eq_true rfl) (jp_16_1 cI cL ad σ2212 τ r2036) (hts _ kw_13_19) (fun _ h9 => h9) rfl (by decide +kernel) rfl rfl dX7_readOrder_155 (fun σ2213 H locs eσ2213 hP hS => ?_)
                      refine lv_aload_n hx hb dX7_readOrder_158 rfl (lv_at hl 5 rfl) ?_
                      refine lv_iload hx hb dX7_readOrder_159 (lv_at hl 1 rfl) ?_
                      refine jput (ty := .int) hx hb hts inlX6 tyX6 tyX6_ok nmX6 hown hK hP hJ hA hS (jc_16 cI cL ad σ2213 τ) rfl (k := 2) (by decide) (Nat.le_of_ble_eq_true rfl) (jp_16_2 cI cL ad σ2213 τ r2181) (hts _ kw_13_20) (fun _ h9 => h9) rfl (by decide +kernel) rfl rfl dX7_readOrder_161 (fun σ2214 H locs eσ2214 hP hS => ?_)
                      refine lv_aload_n hx hb dX7_readOrder_164 rfl (lv_at hl 4 rfl) ?_
                      refine va_get (D := D) hx hb hts inlX7 hown hK hP 9 (jc_9 cI cL ad σ2214 τ) rfl 4 (by decide) (hts _ kw_3_21) (fun _ h9 => h9) rfl dX7_readOrder_165 ?_
                      refine lv_iconst (v := 0) hx hb dX7_readOrder_168 (by decide) ?_
                      refine lv_aload_n hx hb dX7_readOrder_169 rfl (lv_at hl 5 rfl) ?_
                      refine va_get (D := D) hx hb hts inlX6 hown hK hP 16 (jc_16 cI cL ad σ2214 τ) rfl 3 (by decide) (hts _ kw_13_21) (fun _ h9 => h9) rfl dX7_readOrder_170 ?_
                      refine lv_iconst (v := 0) hx hb dX7_readOrder_173 (by decide) ?_
                      refine lv_iload_n hx hb dX7_readOrder_174 rfl (lv_at hl 3 rfl) ?_
                      refine jcpyI (q0 := 11) (q1 := 17) hx hb (hml.trans hl.1.symm) hown (hts _ kw_13_22) (hts _ kw_13_23) (hts _ kw_14_0) (hts _ kw_14_1) hK hP hJ hA hS (jc_11 cI cL ad σ2214 τ) (jc_17 cI cL ad σ2214 τ) (fun _ => rfl) jz_0 jz_0 rfl (by omega) (by omega) (by omega) (by omega) (by omega) (Nat.le_of_ble_eq_true rfl) (Nat.le_of_ble_eq_true rfl) dX7_readOrder_175 (fun σ2215 H locs eσ2215 hP hS => ?_)
                      have w2216 : ∀ k : Nat, k < 8 → 0 ≤ (σ2214 11 k).toInt ∧ (σ2214 11 k).toInt ≤ 3 := (jrr_fr (jnp 11 eσ2214 (by decide)) (jrr_fr (jnp 11 eσ2213 (by decide)) (jrr_fr (jnp 11 eσ2212 (by decide)) w2206)))
                      have w2217 : ∀ k : Nat, k < 8 → 0 ≤ (σ2214 17 k).toInt ∧ (σ2214 17 k).toInt ≤ 3 := (jrr_fr (jnp 17 eσ2214 (by decide)) (jrr_fr (jnp 17 eσ2213 (by decide)) (jrr_fr (jnp 17 eσ2212 (by decide)) (jrr_fr (f2200 17 (by decide)) (jrr_fr (f2182 17 (by decide)) (jrr_fr (f2135 17 (by decide)) (jrr_fr (f2037 17 (by decide)) (jrr_fr (f1925 17 (by decide)) (jrr_fr (f31 17 (by decide)) (jrr_fr (f10 17 (by decide)) w7))))))))))
                      have f2218 : (∀ i : Nat, (i < 17 ∨ 17 < i) → σ2215 i = σ2214 i) := by rw [eσ2215]; exact jrow_n
                      have w2219 : ∀ k : Nat, k < 8 → 0 ≤ (σ2215 17 k).toInt ∧ (σ2215 17 k).toInt ≤ 3 := by rw [eσ2215]; exact jrow_rr w2216 w2217 jz_0 rfl (n0 := 8) (by omega) (by omega) (by omega)
                      refine lv_iconst (v := (-1)) hx hb dX7_readOrder_178 (by decide) ?_
                      have I2220 : jI9 σ2215 := jI9_fr ((congrFun (f2218 9 (by decide)) 0).trans ((congrFun (jnp 9 eσ2214 (by decide)) 0).trans ((congrFun (jnp 9 eσ2213 (by decide)) 0).trans (congrFun (jnp 9 eσ2212 (by decide)) 0)))) ((f2218 10 (by decide)).trans ((jnp 10 eσ2214 (by decide)).trans ((jnp 10 eσ2213 (by decide)).trans (jnp 10 eσ2212 (by decide))))) ((f2218 11 (by decide)).trans ((jnp 11 eσ2214 (by decide)).trans ((jnp 11 eσ2213 (by decide)).trans (jnp 11 eσ2212 (by decide))))) I2202
                      have z2221 : (σ2215 16 0).toInt = x24.toInt := (congrArg Int32.toInt (show σ2215 16 0 = x24 from ((congrFun (f2218 16 (by decide)) 0).trans ((jkp 0 eσ2214 (by decide)).trans ((jkp 0 eσ2213 (by decide)).trans (jsp eσ2212))))))
                      have z2222 : (σ2215 16 1).toInt = r2036.toInt := (congrArg Int32.toInt (show σ2215 16 1 = r2036 from ((congrFun (f2218 16 (by decide)) 1).trans ((jkp 1 eσ2214 (by decide)).trans (jsp eσ2213)))))
                      have z2223 : (σ2215 16 2).toInt = r2181.toInt := (congrArg Int32.toInt (show σ2215 16 2 = r2181 from ((congrFun (f2218 16 (by decide)) 2).trans (jsp eσ2214))))
                      have I2224 : jI16 σ2215 := ⟨(by omega), (by omega), (by omega), w2219⟩
                      exact hret (-1) σ2215 τ _ _ _ _ rfl ⟨rfl, (fun i hi => ((f2218 i (imp_46 i hi)).trans ((jnp i eσ2214 (imp_47 i hi)).trans ((jnp i eσ2213 (imp_47 i hi)).trans ((jnp i eσ2212 (imp_47 i hi)).trans ((f2200 i (imp_48 i hi)).trans ((f2182 i (imp_48 i hi)).trans ((f2135 i (imp_48 i hi)).trans ((f2037 i (imp_48 i hi)).trans ((f1925 i (imp_48 i hi)).trans ((f31 i (imp_49 i hi)).trans (f10 i (imp_48 i hi))))))))))))), (fun i hi => ((congrFun (f2218 9 (by decide)) i).trans ((congrFun (jnp 9 eσ2214 (by decide)) i).trans ((congrFun (jnp 9 eσ2213 (by decide)) i).trans ((congrFun (jnp 9 eσ2212 (by decide)) i).trans ((f2201 i (imp_50 i hi)).trans ((f2183 i (imp_52 i hi)).trans ((f2136 i (imp_51 i hi)).trans ((f2038 i (imp_52 i hi)).trans ((f1926 i (imp_51 i hi)).trans ((f32 i (imp_51 i hi)).trans (f11 i (imp_52 i hi))))))))))))), (fun i hi => ((congrFun (f2218 16 (by decide)) i).trans ((jkp i eσ2214 (imp_53 i hi)).trans ((jkp i eσ2213 (imp_54 i hi)).trans ((jkp i eσ2212 (imp_55 i hi)).trans ((congrFun (f2200 16 (by decide)) i).trans ((congrFun (f2182 16 (by decide)) i).trans ((congrFun (f2135 16 (by decide)) i).trans ((congrFun (f2037 16 (by decide)) i).trans ((congrFun (f1925 16 (by decide)) i).trans ((congrFun (f31 16 (by decide)) i).trans (congrFun (f10 16 (by decide)) i)))))))))))), I2220, I2224, trivial⟩ hP hS dX7_readOrder_179
                    · obtain ⟨q2226, k2225⟩ := h2209
                      refine lv_istore (lv' := [(5, .int r2199), (4, .int r2181), (3, .int r2036), (2, .int x24), (0, .ref (ad 9)), (1, .ref (ad 16))]) hx hb dX7_readOrder_137 hl (by decide) rfl (fun ls hl => ?_)
                      refine lv_iload hx hb dX7_readOrder_139 (lv_at hl 0 rfl) ?_
                      refine lv_iconst (v := (-1)) hx hb dX7_readOrder_141 (by decide) ?_
                      refine lv_icmp_eq (tgt := 148) hx hb dX7_readOrder_142 (by decide) (fun c => absurd (jeq c rfl jz_m1) (by omega)) (fun c2227 => ?_)
                      have kc2227 := jne c2227 rfl jz_m1
                      refine lv_iload hx hb dX7_readOrder_145 (lv_at hl 0 rfl) ?_
                      have I2228 : jI16 σ2198 := jI16_fr ((congrFun (f2200 16 (by decide)) 0).trans ((congrFun (f2182 16 (by decide)) 0).trans ((congrFun (f2135 16 (by decide)) 0).trans ((congrFun (f2037 16 (by decide)) 0).trans ((congrFun (f1925 16 (by decide)) 0).trans ((congrFun (f31 16 (by decide)) 0).trans (congrFun (f10 16 (by decide)) 0))))))) ((congrFun (f2200 16 (by decide)) 1).trans ((congrFun (f2182 16 (by decide)) 1).trans ((congrFun (f2135 16 (by decide)) 1).trans ((congrFun (f2037 16 (by decide)) 1).trans ((congrFun (f1925 16 (by decide)) 1).trans ((congrFun (f31 16 (by decide)) 1).trans (congrFun (f10 16 (by decide)) 1))))))) ((congrFun (f2200 16 (by decide)) 2).trans ((congrFun (f2182 16 (by decide)) 2).trans ((congrFun (f2135 16 (by decide)) 2).trans ((congrFun (f2037 16 (by decide)) 2).trans ((congrFun (f1925 16 (by decide)) 2).trans ((congrFun (f31 16 (by decide)) 2).trans (congrFun (f10 16 (by decide)) 2))))))) ((f2200 17 (by decide)).trans ((f2182 17 (by decide)).trans ((f2135 17 (by decide)).trans ((f2037 17 (by decide)).trans ((f1925 17 (by decide)).trans ((f31 17 (by decide)).trans (f10 17 (by decide)))))))) hI16
                      exact hret r2199 σ2198 τ _ _ _ _ rfl ⟨rfl, (fun i hi => ((f2200 i (imp_48 i hi)).trans ((f2182 i (imp_48 i hi)).trans ((f2135 i (imp_48 i hi)).trans ((f2037 i (imp_48 i hi)).trans ((f1925 i (imp_48 i hi)).trans ((f31 i (imp_49 i hi)).trans (f10 i (imp_48 i hi))))))))), (fun i hi => ((f2201 i (imp_50 i hi)).trans ((f2183 i (imp_52 i hi)).trans ((f2136 i (imp_51 i hi)).trans ((f2038 i (imp_52 i hi)).trans ((f1926 i (imp_51 i hi)).trans ((f32 i (imp_51 i hi)).trans (f11 i (imp_52 i hi))))))))), (fun i hi => ((congrFun (f2200 16 (by decide)) i).trans ((congrFun (f2182 16 (by decide)) i).trans ((congrFun (f2135 16 (by decide)) i).trans ((congrFun (f2037 16 (by decide)) i).trans ((congrFun (f1925 16 (by decide)) i).trans ((congrFun (f31 16 (by decide)) i).trans (congrFun (f10 16 (by decide)) i)))))))), I2202, I2228, trivial⟩ hP hS dX7_readOrder_147
                · have kc2132 := jnle c2132 rfl jz_12
                  refine lv_aload_n hx hb dX7_readOrder_111 rfl (lv_at hl 4 rfl) ?_
                  refine lv_iload hx hb dX7_readOrder_112 (lv_at hl 1 rfl) ?_
                  refine jcallVv (As := [.int (σ1923 9 1)]) (rest := []) ⟨hx, hb, hml, hown, hts⟩ hK hP hA hS hZ (c_X7_fail_9 l D cI cL ad zz hJ σ2035 τ (σ1923 9 1) ((σ1923 9 1).toInt) rfl I2041 (by omega)) cw_RX7_43 (jc_9 cI cL ad σ2035 τ) rfl ⟨Nat.le_of_ble_eq_true rfl, Nat.le_of_ble_eq_true rfl⟩ rfl rfl rfl hl.1 rfl (Nat.le_of_ble_eq_true rfl) dX7_readOrder_114 ⟨Nat.zero_le _, Nat.zero_le _⟩ (fun σ2229 τ2229 H locs h2229 hP hS => ?_)
                  obtain ⟨rfl, f2231, f2232, h2229⟩ := h2229
                  obtain ⟨k2233, h2229⟩ := h2229
                  refine lv_aload_n hx hb dX7_readOrder_117 rfl (lv_at hl 4 rfl) ?_
                  refine lv_bipush (v := 114) hx hb dX7_readOrder_118 (by decide) ?_
                  have I2234 : jI9 σ2229 := jI9_fr (f2232 0 (by decide)) (f2231 10 (by decide)) (f2231 11 (by decide)) I2039
                  have I2235 : jI91 σ2229 := jI91_fr (f2232 0 (by decide)) (f2232 1 (by decide)) I2040
                  have I2236 : jI92 σ2229 := (show (-1) ≤ (σ2229 9 2).toInt by omega)
                  refine jcallV (As := [.int 114]) (rest := []) ⟨hx, hb, hml, hown, hts⟩ hK hP hA hS hZ (c_X7_skip_9 l D cI cL ad zz hJ σ2229 τ 114 (114) jz_114 I2234 I2235 I2236 (by omega)) cw_RX7_50 (jc_9 cI cL ad σ2229 τ) rfl ⟨Nat.le_of_ble_eq_true rfl, Nat.le_of_ble_eq_true rfl⟩ rfl rfl rfl hl.1 rfl (Nat.le_of_ble_eq_true rfl) dX7_readOrder_120 ⟨Nat.zero_le _, Nat.zero_le _⟩ (fun r2238 σ2237 τ2237 H locs h2237 hP hS => ?_)
                  obtain ⟨rfl, f2239, f2240, I2241, I2242, I2243, h2237⟩ := h2237
                  obtain ⟨i2244, w2245, w2246⟩ : (0 ≤ (σ2237 9 0).toInt ∧ (σ2237 9 0).toInt ≤ 80) ∧ (∀ k : Nat, k < 80 → 0 ≤ (σ2237 10 k).toInt ∧ (σ2237 10 k).toInt ≤ 255) ∧ (∀ k : Nat, k < 8 → 0 ≤ (σ2237 11 k).toInt ∧ (σ2237 11 k).toInt ≤ 3) := id I2241
                  obtain ⟨i2247, i2248⟩ : (0 ≤ (σ2237 9 1).toInt) ∧ ((σ2237 9 1).toInt ≤ (σ2237 9 0).toInt) := id I2242
                  have i2249 : (-1) ≤ (σ2237 9 2).toInt := I2243
                  have z2250 : (σ2237 9 0).toInt = (σ 9 0).toInt := (congrArg Int32.toInt (show σ2237 9 0 = (σ 9 0) from ((f2240 0 (by decide)).trans ((f2232 0 (by decide)).trans ((f2038 0 (by decide)).trans ((f1926 0 (by decide)).trans ((f32 0 (by decide)).trans (f11 0 (by decide)))))))))
                  have z2251 : (σ2237 9 2).toInt = (σ2229 9 2).toInt := (congrArg Int32.toInt (show σ2237 9 2 = (σ2229 9 2) from (f2240 2 (by decide))))
                  refine lv_if_eq (tgt := 133) hx hb dX7_readOrder_123 (by decide) (fun c2252 => ?_) (fun c2252 => ?_)
                  · have kc2252 := jeq c2252 rfl jz_0
                    refine lv_aload_n hx hb dX7_readOrder_133 rfl (lv_at hl 4 rfl) ?_
                    refine jcallV (As := []) (rest := []) ⟨hx, hb, hml, hown, hts⟩ hK hP hA hS hZ (c_X7_end_9 l D cI cL ad zz hJ σ2237 τ I2241 I2242 I2243) cw_RX7_57 (jc_9 cI cL ad σ2237 τ) rfl ⟨Nat.le_of_ble_eq_true rfl, Nat.le_of_ble_eq_true rfl⟩ rfl rfl rfl hl.1 rfl (Nat.le_of_ble_eq_true rfl) dX7_readOrder_134 ⟨Nat.zero_le _, Nat.zero_le _⟩ (fun r2254 σ2253 τ2253 H locs h2253 hP hS => ?_)
                    obtain ⟨rfl, f2255, f2256, I2257, I2258, h2253⟩ := h2253
                    obtain ⟨i2259, w2260, w2261⟩ : (0 ≤ (σ2253 9 0).toInt ∧ (σ2253 9 0).toInt ≤ 80) ∧ (∀ k : Nat, k < 80 → 0 ≤ (σ2253 10 k).toInt ∧ (σ2253 10 k).toInt ≤ 255) ∧ (∀ k : Nat, k < 8 → 0 ≤ (σ2253 11 k).toInt ∧ (σ2253 11 k).toInt ≤ 3) := id I2257
                    have i2262 : (-1) ≤ (σ2253 9 2).toInt := I2258
                    rcases h2253 with h2263 | h2264
                    · obtain ⟨q2266, k2265⟩ := h2263
                      exact absurd (by omega : False) id
                    · obtain ⟨q2268, k2267⟩ := h2264
                      refine lv_istore (lv' := [(5, .int r2254), (3, .int r2036), (4, .int 0), (2, .int x24), (0, .ref (ad 9)), (1, .ref (ad 16))]) hx hb dX7_readOrder_137 hl (by decide) rfl (fun ls hl => ?_)
                      refine lv_iload hx hb dX7_readOrder_139 (lv_at hl 0 rfl) ?_
                      refine lv_iconst (v := (-1)) hx hb dX7_readOrder_141 (by decide) ?_
                      refine lv_icmp_eq (tgt := 148) hx hb dX7_readOrder_142 (by decide) (fun c => absurd (jeq c rfl jz_m1) (by omega)) (fun c2269 => ?_)
                      have kc2269 := jne c2269 rfl jz_m1
                      refine lv_iload hx hb dX7_readOrder_145 (lv_at hl 0 rfl) ?_
                      have I2270 : jI16 σ2253 := jI16_fr ((congrFun (f2255 16 (by decide)) 0).trans ((congrFun (f2239 16 (by decide)) 0).trans ((congrFun (f2231 16 (by decide)) 0).trans ((congrFun (f2037 16 (by decide)) 0).trans ((congrFun (f1925 16 (by decide)) 0).trans ((congrFun (f31 16 (by decide)) 0).trans (congrFun (f10 16 (by decide)) 0))))))) ((congrFun (f2255 16 (by decide)) 1).trans ((congrFun (f2239 16 (by decide)) 1).trans ((congrFun (f2231 16 (by decide)) 1).trans ((congrFun (f2037 16 (by decide)) 1).trans ((congrFun (f1925 16 (by decide)) 1).trans ((congrFun (f31 16 (by decide)) 1).trans (congrFun (f10 16 (by decide)) 1))))))) ((congrFun (f2255 16 (by decide)) 2).trans ((congrFun (f2239 16 (by decide)) 2).trans ((congrFun (f2231 16 (by decide)) 2).trans ((congrFun (f2037 16 (by decide)) 2).trans ((congrFun (f1925 16 (by decide)) 2).trans ((congrFun (f31 16 (by decide)) 2).trans (congrFun (f10 16 (by decide)) 2))))))) ((f2255 17 (by decide)).trans ((f2239 17 (by decide)).trans ((f2231 17 (by decide)).trans ((f2037 17 (by decide)).trans ((f1925 17 (by decide)).trans ((f31 17 (by decide)).trans (f10 17 (by decide)))))))) hI16
                      exact hret r2254 σ2253 τ _ _ _ _ rfl ⟨rfl, (fun i hi => ((f2255 i (imp_48 i hi)).trans ((f2239 i (imp_48 i hi)).trans ((f2231 i (imp_48 i hi)).trans ((f2037 i (imp_48 i hi)).trans ((f1925 i (imp_48 i hi)).trans ((f31 i (imp_49 i hi)).trans (f10 i (imp_48 i hi))))))))), (fun i hi => ((f2256 i (imp_50 i hi)).trans ((f2240 i (imp_51 i hi)).trans ((f2232 i (imp_56 i hi)).trans ((f2038 i (imp_52 i hi)).trans ((f1926 i (imp_51 i hi)).trans ((f32 i (imp_51 i hi)).trans (f11 i (imp_52 i hi))))))))), (fun i hi => ((congrFun (f2255 16 (by decide)) i).trans ((congrFun (f2239 16 (by decide)) i).trans ((congrFun (f2231 16 (by decide)) i).trans ((congrFun (f2037 16 (by decide)) i).trans ((congrFun (f1925 16 (by decide)) i).trans ((congrFun (f31 16 (by decide)) i).trans (congrFun (f10 16 (by decide)) i)))))))), I2257, I2270, trivial⟩ hP hS dX7_readOrder_147
                  · have kc2252 := jne c2252 rfl jz_0
                    refine lv_aload_n hx hb dX7_readOrder_126 rfl (lv_at hl 4 rfl) ?_
                    refine lv_iconst (v := 3) hx hb dX7_readOrder_127 (by decide) ?_
                    refine jcallV (As := [.int 3]) (rest := []) ⟨hx, hb, hml, hown, hts⟩ hK hP hA hS hZ (c_X7_number_3 l D cI cL ad zz hJ σ2237 τ I2241 I2242 I2243) cw_RX7_53 (jc_9 cI cL ad σ2237 τ) rfl ⟨Nat.le_of_ble_eq_true rfl, Nat.le_of_ble_eq_true rfl⟩ rfl rfl rfl hl.1 rfl (Nat.le_of_ble_eq_true rfl) dX7_readOrder_128 ⟨Nat.zero_le _, Nat.zero_le _⟩ (fun r2272 σ2271 τ2271 H locs h2271 hP hS => ?_)
                    obtain ⟨rfl, f2273, f2274, I2275, I2276, I2277, h2271⟩ := h2271
                    obtain ⟨i2278, w2279, w2280⟩ : (0 ≤ (σ2271 9 0).toInt ∧ (σ2271 9 0).toInt ≤ 80) ∧ (∀ k : Nat, k < 80 → 0 ≤ (σ2271 10 k).toInt ∧ (σ2271 10 k).toInt ≤ 255) ∧ (∀ k : Nat, k < 8 → 0 ≤ (σ2271 11 k).toInt ∧ (σ2271 11 k).toInt ≤ 3) := id I2275
                    obtain ⟨i2281, i2282⟩ : (0 ≤ (σ2271 9 1).toInt) ∧ ((σ2271 9 1).toInt ≤ (σ2271 9 0).toInt) := id I2276
                    have i2283 : (-1) ≤ (σ2271 9 2).toInt := I2277
                    have z2284 : (σ2271 9 0).toInt = (σ 9 0).toInt := (congrArg Int32.toInt (show σ2271 9 0 = (σ 9 0) from ((f2274 0 (by decide)).trans ((f2240 0 (by decide)).trans ((f2232 0 (by decide)).trans ((f2038 0 (by decide)).trans ((f1926 0 (by decide)).trans ((f32 0 (by decide)).trans (f11 0 (by decide))))))))))
                    obtain ⟨k2285, h2271⟩ := h2271
                    have h2286 := h2271
                    obtain ⟨q2288, k2287⟩ := h2286
                    refine lv_istore (lv' := [(4, .int r2272), (3, .int r2036), (5, .int (σ1923 9 1)), (2, .int x24), (0, .ref (ad 9)), (1, .ref (ad 16))]) hx hb dX7_readOrder_131 hl (by decide) rfl (fun ls hl => ?_)
                    refine lv_aload_n hx hb dX7_readOrder_133 rfl (lv_at hl 4 rfl) ?_
                    refine jcallV (As := []) (rest := []) ⟨hx, hb, hml, hown, hts⟩ hK hP hA hS hZ (c_X7_end_9 l D cI cL ad zz hJ σ2271 τ I2275 I2276 I2277) cw_RX7_57 (jc_9 cI cL ad σ2271 τ) rfl ⟨Nat.le_of_ble_eq_true rfl, Nat.le_of_ble_eq_true rfl⟩ rfl rfl rfl hl.1 rfl (Nat.le_of_ble_eq_true rfl) dX7_readOrder_134 ⟨Nat.zero_le _, Nat.zero_le _⟩ (fun r2290 σ2289 τ2289 H locs h2289 hP hS => ?_)
                    obtain ⟨rfl, f2291, f2292, I2293, I2294, h2289⟩ := h2289
                    obtain ⟨i2295, w2296, w2297⟩ : (0 ≤ (σ2289 9 0).toInt ∧ (σ2289 9 0).toInt ≤ 80) ∧ (∀ k : Nat, k < 80 → 0 ≤ (σ2289 10 k).toInt ∧ (σ2289 10 k).toInt ≤ 255) ∧ (∀ k : Nat, k < 8 → 0 ≤ (σ2289 11 k).toInt ∧ (σ2289 11 k).toInt ≤ 3) := id I2293
                    have i2298 : (-1) ≤ (σ2289 9 2).toInt := I2294
                    rcases h2289 with h2299 | h2300
                    · obtain ⟨q2302, k2301⟩ := h2299
                      exact absurd (by omega : False) id
                    · obtain ⟨q2304, k2303⟩ := h2300
                      refine lv_istore (lv' := [(5, .int r2290), (4, .int r2272), (3, .int r2036), (2, .int x24), (0, .ref (ad 9)), (1, .ref (ad 16))]) hx hb dX7_readOrder_137 hl (by decide) rfl (fun ls hl => ?_)
                      refine lv_iload hx hb dX7_readOrder_139 (lv_at hl 0 rfl) ?_
                      refine lv_iconst (v := (-1)) hx hb dX7_readOrder_141 (by decide) ?_
                      refine lv_icmp_eq (tgt := 148) hx hb dX7_readOrder_142 (by decide) (fun c => absurd (jeq c rfl jz_m1) (by omega)) (fun c2305 => ?_)
                      have kc2305 := jne c2305 rfl jz_m1
                      refine lv_iload hx hb dX7_readOrder_145 (lv_at hl 0 rfl) ?_
                      have I2306 : jI16 σ2289 := jI16_fr ((congrFun (f2291 16 (by decide)) 0).trans ((congrFun (f2273 16 (by decide)) 0).trans ((congrFun (f2239 16 (by decide)) 0).trans ((congrFun (f2231 16 (by decide)) 0).trans ((congrFun (f2037 16 (by decide)) 0).trans ((congrFun (f1925 16 (by decide)) 0).trans ((congrFun (f31 16 (by decide)) 0).trans (congrFun (f10 16 (by decide)) 0)))))))) ((congrFun (f2291 16 (by decide)) 1).trans ((congrFun (f2273 16 (by decide)) 1).trans ((congrFun (f2239 16 (by decide)) 1).trans ((congrFun (f2231 16 (by decide)) 1).trans ((congrFun (f2037 16 (by decide)) 1).trans ((congrFun (f1925 16 (by decide)) 1).trans ((congrFun (f31 16 (by decide)) 1).trans (congrFun (f10 16 (by decide)) 1)))))))) ((congrFun (f2291 16 (by decide)) 2).trans ((congrFun (f2273 16 (by decide)) 2).trans ((congrFun (f2239 16 (by decide)) 2).trans ((congrFun (f2231 16 (by decide)) 2).trans ((congrFun (f2037 16 (by decide)) 2).trans ((congrFun (f1925 16 (by decide)) 2).trans ((congrFun (f31 16 (by decide)) 2).trans (congrFun (f10 16 (by decide)) 2)))))))) ((f2291 17 (by decide)).trans ((f2273 17 (by decide)).trans ((f2239 17 (by decide)).trans ((f2231 17 (by decide)).trans ((f2037 17 (by decide)).trans ((f1925 17 (by decide)).trans ((f31 17 (by decide)).trans (f10 17 (by decide))))))))) hI16
                      exact hret r2290 σ2289 τ _ _ _ _ rfl ⟨rfl, (fun i hi => ((f2291 i (imp_48 i hi)).trans ((f2273 i (imp_48 i hi)).trans ((f2239 i (imp_48 i hi)).trans ((f2231 i (imp_48 i hi)).trans ((f2037 i (imp_48 i hi)).trans ((f1925 i (imp_48 i hi)).trans ((f31 i (imp_49 i hi)).trans (f10 i (imp_48 i hi)))))))))), (fun i hi => ((f2292 i (imp_50 i hi)).trans ((f2274 i (imp_52 i hi)).trans ((f2240 i (imp_51 i hi)).trans ((f2232 i (imp_56 i hi)).trans ((f2038 i (imp_52 i hi)).trans ((f1926 i (imp_51 i hi)).trans ((f32 i (imp_51 i hi)).trans (f11 i (imp_52 i hi)))))))))), (fun i hi => ((congrFun (f2291 16 (by decide)) i).trans ((congrFun (f2273 16 (by decide)) i).trans ((congrFun (f2239 16 (by decide)) i).trans ((congrFun (f2231 16 (by decide)) i).trans ((congrFun (f2037 16 (by decide)) i).trans ((congrFun (f1925 16 (by decide)) i).trans ((congrFun (f31 16 (by decide)) i).trans (congrFun (f10 16 (by decide)) i))))))))), I2293, I2306, trivial⟩ hP hS dX7_readOrder_147
          · have kc1920 := jeq c1920 rfl jz_0
            refine lv_aload_n hx hb dX7_readOrder_71 rfl (lv_at hl 3 rfl) ?_
            refine lv_aload_n hx hb dX7_readOrder_72 rfl (lv_at hl 3 rfl) ?_
            refine va_get (D := D) hx hb hts inlX7 hown hK hP 9 (jc_9 cI cL ad σ25 τ) rfl 1 (by decide) (hts _ kw_13_17) (fun _ h9 => h9) rfl dX7_readOrder_73 ?_
            have I2307 : jI92 σ25 := jI92_fr (f32 2 (by decide)) I14
            refine jcallVv (As := [.int (σ25 9 1)]) (rest := []) ⟨hx, hb, hml, hown, hts⟩ hK hP hA hS hZ (c_X7_fail_9 l D cI cL ad zz hJ σ25 τ (σ25 9 1) ((σ25 9 1).toInt) rfl I2307 (by omega)) cw_RX7_43 (jc_9 cI cL ad σ25 τ) rfl ⟨Nat.le_of_ble_eq_true rfl, Nat.le_of_ble_eq_true rfl⟩ rfl rfl rfl hl.1 rfl (Nat.le_of_ble_eq_true rfl) dX7_readOrder_76 ⟨Nat.zero_le _, Nat.zero_le _⟩ (fun σ2308 τ2308 H locs h2308 hP hS => ?_)
            obtain ⟨rfl, f2310, f2311, h2308⟩ := h2308
            obtain ⟨k2312, h2308⟩ := h2308
            refine lv_aload_n hx hb dX7_readOrder_79 rfl (lv_at hl 3 rfl) ?_
            refine lv_bipush (v := 58) hx hb dX7_readOrder_80 (by decide) ?_
            have I2313 : jI9 σ2308 := jI9_fr (f2311 0 (by decide)) (f2310 10 (by decide)) (f2310 11 (by decide)) p33
            have z2314 : (σ2308 9 1).toInt = (σ25 9 1).toInt := (congrArg Int32.toInt (show σ2308 9 1 = (σ25 9 1) from (f2311 1 (by decide))))
            have z2315 : (σ2308 9 0).toInt = (σ 9 0).toInt := (congrArg Int32.toInt (show σ2308 9 0 = (σ 9 0) from ((f2311 0 (by decide)).trans ((f32 0 (by decide)).trans (f11 0 (by decide))))))
            have I2316 : jI91 σ2308 := ⟨(by omega), (by omega)⟩
            have I2317 : jI92 σ2308 := (show (-1) ≤ (σ2308 9 2).toInt by omega)
            refine jcallV (As := [.int 58]) (rest := []) ⟨hx, hb, hml, hown, hts⟩ hK hP hA hS hZ (c_X7_skip_9 l D cI cL ad zz hJ σ2308 τ 58 (58) jz_58 I2313 I2316 I2317 (by omega)) cw_RX7_50 (jc_9 cI cL ad σ2308 τ) rfl ⟨Nat.le_of_ble_eq_true rfl, Nat.le_of_ble_eq_true rfl⟩ rfl rfl rfl hl.1 rfl (Nat.le_of_ble_eq_true rfl) dX7_readOrder_82 ⟨Nat.zero_le _, Nat.zero_le _⟩ (fun r2319 σ2318 τ2318 H locs h2318 hP hS => ?_)
            obtain ⟨rfl, f2320, f2321, I2322, I2323, I2324, h2318⟩ := h2318
            obtain ⟨i2325, w2326, w2327⟩ : (0 ≤ (σ2318 9 0).toInt ∧ (σ2318 9 0).toInt ≤ 80) ∧ (∀ k : Nat, k < 80 → 0 ≤ (σ2318 10 k).toInt ∧ (σ2318 10 k).toInt ≤ 255) ∧ (∀ k : Nat, k < 8 → 0 ≤ (σ2318 11 k).toInt ∧ (σ2318 11 k).toInt ≤ 3) := id I2322
            obtain ⟨i2328, i2329⟩ : (0 ≤ (σ2318 9 1).toInt) ∧ ((σ2318 9 1).toInt ≤ (σ2318 9 0).toInt) := id I2323
            have i2330 : (-1) ≤ (σ2318 9 2).toInt := I2324
            have z2331 : (σ2318 9 0).toInt = (σ 9 0).toInt := (congrArg Int32.toInt (show σ2318 9 0 = (σ 9 0) from ((f2321 0 (by decide)).trans ((f2311 0 (by decide)).trans ((f32 0 (by decide)).trans (f11 0 (by decide)))))))
            have z2332 : (σ2318 9 2).toInt = (σ2308 9 2).toInt := (congrArg Int32.toInt (show σ2318 9 2 = (σ2308 9 2) from (f2321 2 (by decide))))
            refine lv_if_eq (tgt := 117) hx hb dX7_readOrder_85 (by decide) (fun c2333 => ?_) (fun c2333 => ?_)
            · have kc2333 := jeq c2333 rfl jz_0
              refine lv_aload_n hx hb dX7_readOrder_117 rfl (lv_at hl 3 rfl) ?_
              refine lv_bipush (v := 114) hx hb dX7_readOrder_118 (by decide) ?_
              refine jcallV (As := [.int 114]) (rest := []) ⟨hx, hb, hml, hown, hts⟩ hK hP hA hS hZ (c_X7_skip_9 l D cI cL ad zz hJ σ2318 τ 114 (114) jz_114 I2322 I2323 I2324 (by omega)) cw_RX7_50 (jc_9 cI cL ad σ2318 τ) rfl ⟨Nat.le_of_ble_eq_true rfl, Nat.le_of_ble_eq_true rfl⟩ rfl rfl rfl hl.1 rfl (Nat.le_of_ble_eq_true rfl) dX7_readOrder_120 ⟨Nat.zero_le _, Nat.zero_le _⟩ (fun r2335 σ2334 τ2334 H locs h2334 hP hS => ?_)
              obtain ⟨rfl, f2336, f2337, I2338, I2339, I2340, h2334⟩ := h2334
              obtain ⟨i2341, w2342, w2343⟩ : (0 ≤ (σ2334 9 0).toInt ∧ (σ2334 9 0).toInt ≤ 80) ∧ (∀ k : Nat, k < 80 → 0 ≤ (σ2334 10 k).toInt ∧ (σ2334 10 k).toInt ≤ 255) ∧ (∀ k : Nat, k < 8 → 0 ≤ (σ2334 11 k).toInt ∧ (σ2334 11 k).toInt ≤ 3) := id I2338
              obtain ⟨i2344, i2345⟩ : (0 ≤ (σ2334 9 1).toInt) ∧ ((σ2334 9 1).toInt ≤ (σ2334 9 0).toInt) := id I2339
              have i2346 : (-1) ≤ (σ2334 9 2).toInt := I2340
              have z2347 : (σ2334 9 0).toInt = (σ 9 0).toInt := (congrArg Int32.toInt (show σ2334 9 0 = (σ 9 0) from ((f2337 0 (by decide)).trans ((f2321 0 (by decide)).trans ((f2311 0 (by decide)).trans ((f32 0 (by decide)).trans (f11 0 (by decide))))))))
              have z2348 : (σ2334 9 2).toInt = (σ2308 9 2).toInt := (congrArg Int32.toInt (show σ2334 9 2 = (σ2308 9 2) from ((f2337 2 (by decide)).trans (f2321 2 (by decide)))))
              refine lv_if_eq (tgt := 133) hx hb dX7_readOrder_123 (by decide) (fun c2349 => ?_) (fun c2349 => ?_)
              · have kc2349 := jeq c2349 rfl jz_0
                refine lv_aload_n hx hb dX7_readOrder_133 rfl (lv_at hl 3 rfl) ?_
                refine jcallV (As := []) (rest := []) ⟨hx, hb, hml, hown, hts⟩ hK hP hA hS hZ (c_X7_end_9 l D cI cL ad zz hJ σ2334 τ I2338 I2339 I2340) cw_RX7_57 (jc_9 cI cL ad σ2334 τ) rfl ⟨Nat.le_of_ble_eq_true rfl, Nat.le_of_ble_eq_true rfl⟩ rfl rfl rfl hl.1 rfl (Nat.le_of_ble_eq_true rfl) dX7_readOrder_134 ⟨Nat.zero_le _, Nat.zero_le _⟩ (fun r2351 σ2350 τ2350 H locs h2350 hP hS => ?_)
                obtain ⟨rfl, f2352, f2353, I2354, I2355, h2350⟩ := h2350
                obtain ⟨i2356, w2357, w2358⟩ : (0 ≤ (σ2350 9 0).toInt ∧ (σ2350 9 0).toInt ≤ 80) ∧ (∀ k : Nat, k < 80 → 0 ≤ (σ2350 10 k).toInt ∧ (σ2350 10 k).toInt ≤ 255) ∧ (∀ k : Nat, k < 8 → 0 ≤ (σ2350 11 k).toInt ∧ (σ2350 11 k).toInt ≤ 3) := id I2354
                have i2359 : (-1) ≤ (σ2350 9 2).toInt := I2355
                rcases h2350 with h2360 | h2361
                · obtain ⟨q2363, k2362⟩ := h2360
                  exact absurd (by omega : False) id
                · obtain ⟨q2365, k2364⟩ := h2361
                  refine lv_istore (lv' := [(5, .int r2351), (4, .int 0), (3, .int 8), (2, .int x24), (0, .ref (ad 9)), (1, .ref (ad 16))]) hx hb dX7_readOrder_137 hl (by decide) rfl (fun ls hl => ?_)
                  refine lv_iload hx hb dX7_readOrder_139 (lv_at hl 0 rfl) ?_
                  refine lv_iconst (v := (-1)) hx hb dX7_readOrder_141 (by decide) ?_
                  refine lv_icmp_eq (tgt := 148) hx hb dX7_readOrder_142 (by decide) (fun c => absurd (jeq c rfl jz_m1) (by omega)) (fun c2366 => ?_)
                  have kc2366 := jne c2366 rfl jz_m1
                  refine lv_iload hx hb dX7_readOrder_145 (lv_at hl 0 rfl) ?_
                  have I2367 : jI16 σ2350 := jI16_fr ((congrFun (f2352 16 (by decide)) 0).trans ((congrFun (f2336 16 (by decide)) 0).trans ((congrFun (f2320 16 (by decide)) 0).trans ((congrFun (f2310 16 (by decide)) 0).trans ((congrFun (f31 16 (by decide)) 0).trans (congrFun (f10 16 (by decide)) 0)))))) ((congrFun (f2352 16 (by decide)) 1).trans ((congrFun (f2336 16 (by decide)) 1).trans ((congrFun (f2320 16 (by decide)) 1).trans ((congrFun (f2310 16 (by decide)) 1).trans ((congrFun (f31 16 (by decide)) 1).trans (congrFun (f10 16 (by decide)) 1)))))) ((congrFun (f2352 16 (by decide)) 2).trans ((congrFun (f2336 16 (by decide)) 2).trans ((congrFun (f2320 16 (by decide)) 2).trans ((congrFun (f2310 16 (by decide)) 2).trans ((congrFun (f31 16 (by decide)) 2).trans (congrFun (f10 16 (by decide)) 2)))))) ((f2352 17 (by decide)).trans ((f2336 17 (by decide)).trans ((f2320 17 (by decide)).trans ((f2310 17 (by decide)).trans ((f31 17 (by decide)).trans (f10 17 (by decide))))))) hI16
                  exact hret r2351 σ2350 τ _ _ _ _ rfl ⟨rfl, (fun i hi => ((f2352 i (imp_48 i hi)).trans ((f2336 i (imp_48 i hi)).trans ((f2320 i (imp_48 i hi)).trans ((f2310 i (imp_48 i hi)).trans ((f31 i (imp_49 i hi)).trans (f10 i (imp_48 i hi)))))))), (fun i hi => ((f2353 i (imp_50 i hi)).trans ((f2337 i (imp_51 i hi)).trans ((f2321 i (imp_51 i hi)).trans ((f2311 i (imp_56 i hi)).trans ((f32 i (imp_51 i hi)).trans (f11 i (imp_52 i hi)))))))), (fun i hi => ((congrFun (f2352 16 (by decide)) i).trans ((congrFun (f2336 16 (by decide)) i).trans ((congrFun (f2320 16 (by decide)) i).trans ((congrFun (f2310 16 (by decide)) i).trans ((congrFun (f31 16 (by decide)) i).trans (congrFun (f10 16 (by decide)) i))))))), I2354, I2367, trivial⟩ hP hS dX7_readOrder_147
              · have kc2349 := jne c2349 rfl jz_0
                refine lv_aload_n hx hb dX7_readOrder_126 rfl (lv_at hl 3 rfl) ?_
                refine lv_iconst (v := 3) hx hb dX7_readOrder_127 (by decide) ?_
                refine jcallV (As := [.int 3]) (rest := []) ⟨hx, hb, hml, hown, hts⟩ hK hP hA hS hZ (c_X7_number_3 l D cI cL ad zz hJ σ2334 τ I2338 I2339 I2340) cw_RX7_53 (jc_9 cI cL ad σ2334 τ) rfl ⟨Nat.le_of_ble_eq_true rfl, Nat.le_of_ble_eq_true rfl⟩ rfl rfl rfl hl.1 rfl (Nat.le_of_ble_eq_true rfl) dX7_readOrder_128 ⟨Nat.zero_le _, Nat.zero_le _⟩ (fun r2369 σ2368 τ2368 H locs h2368 hP hS => ?_)
                obtain ⟨rfl, f2370, f2371, I2372, I2373, I2374, h2368⟩ := h2368
                obtain ⟨i2375, w2376, w2377⟩ : (0 ≤ (σ2368 9 0).toInt ∧ (σ2368 9 0).toInt ≤ 80) ∧ (∀ k : Nat, k < 80 → 0 ≤ (σ2368 10 k).toInt ∧ (σ2368 10 k).toInt ≤ 255) ∧ (∀ k : Nat, k < 8 → 0 ≤ (σ2368 11 k).toInt ∧ (σ2368 11 k).toInt ≤ 3) := id I2372
                obtain ⟨i2378, i2379⟩ : (0 ≤ (σ2368 9 1).toInt) ∧ ((σ2368 9 1).toInt ≤ (σ2368 9 0).toInt) := id I2373
                have i2380 : (-1) ≤ (σ2368 9 2).toInt := I2374
                have z2381 : (σ2368 9 0).toInt = (σ 9 0).toInt := (congrArg Int32.toInt (show σ2368 9 0 = (σ 9 0) from ((f2371 0 (by decide)).trans ((f2337 0 (by decide)).trans ((f2321 0 (by decide)).trans ((f2311 0 (by decide)).trans ((f32 0 (by decide)).trans (f11 0 (by decide)))))))))
                obtain ⟨k2382, h2368⟩ := h2368
                have h2383 := h2368
                obtain ⟨q2385, k2384⟩ := h2383
                refine lv_istore (lv' := [(4, .int r2369), (3, .int 8), (2, .int x24), (0, .ref (ad 9)), (1, .ref (ad 16))]) hx hb dX7_readOrder_131 hl (by decide) rfl (fun ls hl => ?_)
                refine lv_aload_n hx hb dX7_readOrder_133 rfl (lv_at hl 3 rfl) ?_
                refine jcallV (As := []) (rest := []) ⟨hx, hb, hml, hown, hts⟩ hK hP hA hS hZ (c_X7_end_9 l D cI cL ad zz hJ σ2368 τ I2372 I2373 I2374) cw_RX7_57 (jc_9 cI cL ad σ2368 τ) rfl ⟨Nat.le_of_ble_eq_true rfl, Nat.le_of_ble_eq_true rfl⟩ rfl rfl rfl hl.1 rfl (Nat.le_of_ble_eq_true rfl) dX7_readOrder_134 ⟨Nat.zero_le _, Nat.zero_le _⟩ (fun r2387 σ2386 τ2386 H locs h2386 hP hS => ?_)
                obtain ⟨rfl, f2388, f2389, I2390, I2391, h2386⟩ := h2386
                obtain ⟨i2392, w2393, w2394⟩ : (0 ≤ (σ2386 9 0).toInt ∧ (σ2386 9 0).toInt ≤ 80) ∧ (∀ k : Nat, k < 80 → 0 ≤ (σ2386 10 k).toInt ∧ (σ2386 10 k).toInt ≤ 255) ∧ (∀ k : Nat, k < 8 → 0 ≤ (σ2386 11 k).toInt ∧ (σ2386 11 k).toInt ≤ 3) := id I2390
                have i2395 : (-1) ≤ (σ2386 9 2).toInt := I2391
                rcases h2386 with h2396 | h2397
                · obtain ⟨q2399, k2398⟩ := h2396
                  exact absurd (by omega : False) id
                · obtain ⟨q2401, k2400⟩ := h2397
                  refine lv_istore (lv' := [(5, .int r2387), (4, .int r2369), (3, .int 8), (2, .int x24), (0, .ref (ad 9)), (1, .ref (ad 16))]) hx hb dX7_readOrder_137 hl (by decide) rfl (fun ls hl => ?_)
                  refine lv_iload hx hb dX7_readOrder_139 (lv_at hl 0 rfl) ?_
                  refine lv_iconst (v := (-1)) hx hb dX7_readOrder_141 (by decide) ?_
                  refine lv_icmp_eq (tgt := 148) hx hb dX7_readOrder_142 (by decide) (fun c => absurd (jeq c rfl jz_m1) (by omega)) (fun c2402 => ?_)
                  have kc2402 := jne c2402 rfl jz_m1
                  refine lv_iload hx hb dX7_readOrder_145 (lv_at hl 0 rfl) ?_
                  have I2403 : jI16 σ2386 := jI16_fr ((congrFun (f2388 16 (by decide)) 0).trans ((congrFun (f2370 16 (by decide)) 0).trans ((congrFun (f2336 16 (by decide)) 0).trans ((congrFun (f2320 16 (by decide)) 0).trans ((congrFun (f2310 16 (by decide)) 0).trans ((congrFun (f31 16 (by decide)) 0).trans (congrFun (f10 16 (by decide)) 0))))))) ((congrFun (f2388 16 (by decide)) 1).trans ((congrFun (f2370 16 (by decide)) 1).trans ((congrFun (f2336 16 (by decide)) 1).trans ((congrFun (f2320 16 (by decide)) 1).trans ((congrFun (f2310 16 (by decide)) 1).trans ((congrFun (f31 16 (by decide)) 1).trans (congrFun (f10 16 (by decide)) 1))))))) ((congrFun (f2388 16 (by decide)) 2).trans ((congrFun (f2370 16 (by decide)) 2).trans ((congrFun (f2336 16 (by decide)) 2).trans ((congrFun (f2320 16 (by decide)) 2).trans ((congrFun (f2310 16 (by decide)) 2).trans ((congrFun (f31 16 (by decide)) 2).trans (congrFun (f10 16 (by decide)) 2))))))) ((f2388 17 (by decide)).trans ((f2370 17 (by decide)).trans ((f2336 17 (by decide)).trans ((f2320 17 (by decide)).trans ((f2310 17 (by decide)).trans ((f31 17 (by decide)).trans (f10 17 (by decide)))))))) hI16
                  exact hret r2387 σ2386 τ _ _ _ _ rfl ⟨rfl, (fun i hi => ((f2388 i (imp_48 i hi)).trans ((f2370 i (imp_48 i hi)).trans ((f2336 i (imp_48 i hi)).trans ((f2320 i (imp_48 i hi)).trans ((f2310 i (imp_48 i hi)).trans ((f31 i (imp_49 i hi)).trans (f10 i (imp_48 i hi))))))))), (fun i hi => ((f2389 i (imp_50 i hi)).trans ((f2371 i (imp_52 i hi)).trans ((f2337 i (imp_51 i hi)).trans ((f2321 i (imp_51 i hi)).trans ((f2311 i (imp_56 i hi)).trans ((f32 i (imp_51 i hi)).trans (f11 i (imp_52 i hi))))))))), (fun i hi => ((congrFun (f2388 16 (by decide)) i).trans ((congrFun (f2370 16 (by decide)) i).trans ((congrFun (f2336 16 (by decide)) i).trans ((congrFun (f2320 16 (by decide)) i).trans ((congrFun (f2310 16 (by decide)) i).trans ((congrFun (f31 16 (by decide)) i).trans (congrFun (f10 16 (by decide)) i)))))))), I2390, I2403, trivial⟩ hP hS dX7_readOrder_147
            · have kc2333 := jne c2333 rfl jz_0
              refine lv_aload_n hx hb dX7_readOrder_88 rfl (lv_at hl 3 rfl) ?_
              refine va_get (D := D) hx hb hts inlX7 hown hK hP 9 (jc_9 cI cL ad σ2318 τ) rfl 1 (by decide) (hts _ kw_13_17) (fun _ h9 => h9) rfl dX7_readOrder_89 ?_
              refine lv_istore (lv' := [(5, .int (σ2318 9 1)), (4, .int 0), (3, .int 8), (2, .int x24), (0, .ref (ad 9)), (1, .ref (ad 16))]) hx hb dX7_readOrder_92 hl (by decide) rfl (fun ls hl => ?_)
              refine lv_aload_n hx hb dX7_readOrder_94 rfl (lv_at hl 4 rfl) ?_
              refine lv_iconst (v := 2) hx hb dX7_readOrder_95 (by decide) ?_
              refine jcallV (As := [.int 2]) (rest := []) ⟨hx, hb, hml, hown, hts⟩ hK hP hA hS hZ (c_X7_number_2 l D cI cL ad zz hJ σ2318 τ I2322 I2323 I2324) cw_RX7_53 (jc_9 cI cL ad σ2318 τ) rfl ⟨Nat.le_of_ble_eq_true rfl, Nat.le_of_ble_eq_true rfl⟩ rfl rfl rfl hl.1 rfl (Nat.le_of_ble_eq_true rfl) dX7_readOrder_96 ⟨Nat.zero_le _, Nat.zero_le _⟩ (fun r2405 σ2404 τ2404 H locs h2404 hP hS => ?_)
              obtain ⟨rfl, f2406, f2407, I2408, I2409, I2410, h2404⟩ := h2404
              obtain ⟨i2411, w2412, w2413⟩ : (0 ≤ (σ2404 9 0).toInt ∧ (σ2404 9 0).toInt ≤ 80) ∧ (∀ k : Nat, k < 80 → 0 ≤ (σ2404 10 k).toInt ∧ (σ2404 10 k).toInt ≤ 255) ∧ (∀ k : Nat, k < 8 → 0 ≤ (σ2404 11 k).toInt ∧ (σ2404 11 k).toInt ≤ 3) := id I2408
              obtain ⟨i2414, i2415⟩ : (0 ≤ (σ2404 9 1).toInt) ∧ ((σ2404 9 1).toInt ≤ (σ2404 9 0).toInt) := id I2409
              have i2416 : (-1) ≤ (σ2404 9 2).toInt := I2410
              have z2417 : (σ2404 9 0).toInt = (σ 9 0).toInt := (congrArg Int32.toInt (show σ2404 9 0 = (σ 9 0) from ((f2407 0 (by decide)).trans ((f2321 0 (by decide)).trans ((f2311 0 (by decide)).trans ((f32 0 (by decide)).trans (f11 0 (by decide))))))))
              obtain ⟨k2418, h2404⟩ := h2404
              have h2419 := h2404
              obtain ⟨q2421, k2420⟩ := h2419
              refine lv_istore_n (lv' := [(3, .int r2405), (5, .int (σ2318 9 1)), (4, .int 0), (2, .int x24), (0, .ref (ad 9)), (1, .ref (ad 16))]) hx hb dX7_readOrder_99 rfl hl (by decide) rfl (fun ls hl => ?_)
              refine lv_iload_n hx hb dX7_readOrder_100 rfl (lv_at hl 0 rfl) ?_
              refine lv_iconst (v := 1) hx hb dX7_readOrder_101 (by decide) ?_
              refine lv_icmp_lt (tgt := 111) hx hb dX7_readOrder_102 (by decide) (fun c2422 => ?_) (fun c2422 => ?_)
              · have kc2422 := jlt c2422 rfl jz_1
                refine lv_aload_n hx hb dX7_readOrder_111 rfl (lv_at hl 4 rfl) ?_
                refine lv_iload hx hb dX7_readOrder_112 (lv_at hl 1 rfl) ?_
                refine jcallVv (As := [.int (σ2318 9 1)]) (rest := []) ⟨hx, hb, hml, hown, hts⟩ hK hP hA hS hZ (c_X7_fail_9 l D cI cL ad zz hJ σ2404 τ (σ2318 9 1) ((σ2318 9 1).toInt) rfl I2410 (by omega)) cw_RX7_43 (jc_9 cI cL ad σ2404 τ) rfl ⟨Nat.le_of_ble_eq_true rfl, Nat.le_of_ble_eq_true rfl⟩ rfl rfl rfl hl.1 rfl (Nat.le_of_ble_eq_true rfl) dX7_readOrder_114 ⟨Nat.zero_le _, Nat.zero_le _⟩ (fun σ2423 τ2423 H locs h2423 hP hS => ?_)
                obtain ⟨rfl, f2425, f2426, h2423⟩ := h2423
                obtain ⟨k2427, h2423⟩ := h2423
                refine lv_aload_n hx hb dX7_readOrder_117 rfl (lv_at hl 4 rfl) ?_
                refine lv_bipush (v := 114) hx hb dX7_readOrder_118 (by decide) ?_
                have I2428 : jI9 σ2423 := jI9_fr (f2426 0 (by decide)) (f2425 10 (by decide)) (f2425 11 (by decide)) I2408
                have I2429 : jI91 σ2423 := jI91_fr (f2426 0 (by decide)) (f2426 1 (by decide)) I2409
                have I2430 : jI92 σ2423 := (show (-1) ≤ (σ2423 9 2).toInt by omega)
                refine jcallV (As := [.int 114]) (rest := []) ⟨hx, hb, hml, hown, hts⟩ hK hP hA hS hZ (c_X7_skip_9 l D cI cL ad zz hJ σ2423 τ 114 (114) jz_114 I2428 I2429 I2430 (by omega)) cw_RX7_50 (jc_9 cI cL ad σ2423 τ) rfl ⟨Nat.le_of_ble_eq_true rfl, Nat.le_of_ble_eq_true rfl⟩ rfl rfl rfl hl.1 rfl (Nat.le_of_ble_eq_true rfl) dX7_readOrder_120 ⟨Nat.zero_le _, Nat.zero_le _⟩ (fun r2432 σ2431 τ2431 H locs h2431 hP hS => ?_)
                obtain ⟨rfl, f2433, f2434, I2435, I2436, I2437, h2431⟩ := h2431
                obtain ⟨i2438, w2439, w2440⟩ : (0 ≤ (σ2431 9 0).toInt ∧ (σ2431 9 0).toInt ≤ 80) ∧ (∀ k : Nat, k < 80 → 0 ≤ (σ2431 10 k).toInt ∧ (σ2431 10 k).toInt ≤ 255) ∧ (∀ k : Nat, k < 8 → 0 ≤ (σ2431 11 k).toInt ∧ (σ2431 11 k).toInt ≤ 3) := id I2435
                obtain ⟨i2441, i2442⟩ : (0 ≤ (σ2431 9 1).toInt) ∧ ((σ2431 9 1).toInt ≤ (σ2431 9 0).toInt) := id I2436
                have i2443 : (-1) ≤ (σ2431 9 2).toInt := I2437
                have z2444 : (σ2431 9 0).toInt = (σ 9 0).toInt := (congrArg Int32.toInt (show σ2431 9 0 = (σ 9 0) from ((f2434 0 (by decide)).trans ((f2426 0 (by decide)).trans ((f2407 0 (by decide)).trans ((f2321 0 (by decide)).trans ((f2311 0 (by decide)).trans ((f32 0 (by decide)).trans (f11 0 (by decide))))))))))
                have z2445 : (σ2431 9 2).toInt = (σ2423 9 2).toInt := (congrArg Int32.toInt (show σ2431 9 2 = (σ2423 9 2) from (f2434 2 (by decide))))
                refine lv_if_eq (tgt := 133) hx hb dX7_readOrder_123 (by decide) (fun c2446 => ?_) (fun c2446 => ?_)
                · have kc2446 := jeq c2446 rfl jz_0
                  refine lv_aload_n hx hb dX7_readOrder_133 rfl (lv_at hl 4 rfl) ?_
                  refine jcallV (As := []) (rest := []) ⟨hx, hb, hml, hown, hts⟩ hK hP hA hS hZ (c_X7_end_9 l D cI cL ad zz hJ σ2431 τ I2435 I2436 I2437) cw_RX7_57 (jc_9 cI cL ad σ2431 τ) rfl ⟨Nat.le_of_ble_eq_true rfl, Nat.le_of_ble_eq_true rfl⟩ rfl rfl rfl hl.1 rfl (Nat.le_of_ble_eq_true rfl) dX7_readOrder_134 ⟨Nat.zero_le _, Nat.zero_le _⟩ (fun r2448 σ2447 τ2447 H locs h2447 hP hS => ?_)
                  obtain ⟨rfl, f2449, f2450, I2451, I2452, h2447⟩ := h2447
                  obtain ⟨i2453, w2454, w2455⟩ : (0 ≤ (σ2447 9 0).toInt ∧ (σ2447 9 0).toInt ≤ 80) ∧ (∀ k : Nat, k < 80 → 0 ≤ (σ2447 10 k).toInt ∧ (σ2447 10 k).toInt ≤ 255) ∧ (∀ k : Nat, k < 8 → 0 ≤ (σ2447 11 k).toInt ∧ (σ2447 11 k).toInt ≤ 3) := id I2451
                  have i2456 : (-1) ≤ (σ2447 9 2).toInt := I2452
                  rcases h2447 with h2457 | h2458
                  · obtain ⟨q2460, k2459⟩ := h2457
                    exact absurd (by omega : False) id
                  · obtain ⟨q2462, k2461⟩ := h2458
                    refine lv_istore (lv' := [(5, .int r2448), (3, .int r2405), (4, .int 0), (2, .int x24), (0, .ref (ad 9)), (1, .ref (ad 16))]) hx hb dX7_readOrder_137 hl (by decide) rfl (fun ls hl => ?_)
                    refine lv_iload hx hb dX7_readOrder_139 (lv_at hl 0 rfl) ?_
                    refine lv_iconst (v := (-1)) hx hb dX7_readOrder_141 (by decide) ?_
                    refine lv_icmp_eq (tgt := 148) hx hb dX7_readOrder_142 (by decide) (fun c => absurd (jeq c rfl jz_m1) (by omega)) (fun c2463 => ?_)
                    have kc2463 := jne c2463 rfl jz_m1
                    refine lv_iload hx hb dX7_readOrder_145 (lv_at hl 0 rfl) ?_
                    have I2464 : jI16 σ2447 := jI16_fr ((congrFun (f2449 16 (by decide)) 0).trans ((congrFun (f2433 16 (by decide)) 0).trans ((congrFun (f2425 16 (by decide)) 0).trans ((congrFun (f2406 16 (by decide)) 0).trans ((congrFun (f2320 16 (by decide)) 0).trans ((congrFun (f2310 16 (by decide)) 0).trans ((congrFun (f31 16 (by decide)) 0).trans (congrFun (f10 16 (by decide)) 0)))))))) ((congrFun (f2449 16 (by decide)) 1).trans ((congrFun (f2433 16 (by decide)) 1).trans ((congrFun (f2425 16 (by decide)) 1).trans ((congrFun (f2406 16 (by decide)) 1).trans ((congrFun (f2320 16 (by decide)) 1).trans ((congrFun (f2310 16 (by decide)) 1).trans ((congrFun (f31 16 (by decide)) 1).trans (congrFun (f10 16 (by decide)) 1)))))))) ((congrFun (f2449 16 (by decide)) 2).trans ((congrFun (f2433 16 (by decide)) 2).trans ((congrFun (f2425 16 (by decide)) 2).trans ((congrFun (f2406 16 (by decide)) 2).trans ((congrFun (f2320 16 (by decide)) 2).trans ((congrFun (f2310 16 (by decide)) 2).trans ((congrFun (f31 16 (by decide)) 2).trans (congrFun (f10 16 (by decide)) 2)))))))) ((f2449 17 (by decide)).trans ((f2433 17 (by decide)).trans ((f2425 17 (by decide)).trans ((f2406 17 (by decide)).trans ((f2320 17 (by decide)).trans ((f2310 17 (by decide)).trans ((f31 17 (by decide)).trans (f10 17 (by decide))))))))) hI16
                    exact hret r2448 σ2447 τ _ _ _ _ rfl ⟨rfl, (fun i hi => ((f2449 i (imp_48 i hi)).trans ((f2433 i (imp_48 i hi)).trans ((f2425 i (imp_48 i hi)).trans ((f2406 i (imp_48 i hi)).trans ((f2320 i (imp_48 i hi)).trans ((f2310 i (imp_48 i hi)).trans ((f31 i (imp_49 i hi)).trans (f10 i (imp_48 i hi)))))))))), (fun i hi => ((f2450 i (imp_50 i hi)).trans ((f2434 i (imp_51 i hi)).trans ((f2426 i (imp_56 i hi)).trans ((f2407 i (imp_52 i hi)).trans ((f2321 i (imp_51 i hi)).trans ((f2311 i (imp_56 i hi)).trans ((f32 i (imp_51 i hi)).trans (f11 i (imp_52 i hi)))))))))), (fun i hi => ((congrFun (f2449 16 (by decide)) i).trans ((congrFun (f2433 16 (by decide)) i).trans ((congrFun (f2425 16 (by decide)) i).trans ((congrFun (f2406 16 (by decide)) i).trans ((congrFun (f2320 16 (by decide)) i).trans ((congrFun (f2310 16 (by decide)) i).trans ((congrFun (f31 16 (by decide)) i).trans (congrFun (f10 16 (by decide)) i))))))))), I2451, I2464, trivial⟩ hP hS dX7_readOrder_147
                · have kc2446 := jne c2446 rfl jz_0
                  refine lv_aload_n hx hb dX7_readOrder_126 rfl (lv_at hl 4 rfl) ?_
                  refine lv_iconst (v := 3) hx hb dX7_readOrder_127 (by decide) ?_
                  refine jcallV (As := [.int 3]) (rest := []) ⟨hx, hb, hml, hown, hts⟩ hK hP hA hS hZ (c_X7_number_3 l D cI cL ad zz hJ σ2431 τ I2435 I2436 I2437) cw_RX7_53 (jc_9 cI cL ad σ2431 τ) rfl ⟨Nat.le_of_ble_eq_true rfl, Nat.le_of_ble_eq_true rfl⟩ rfl rfl rfl hl.1 rfl (Nat.le_of_ble_eq_true rfl) dX7_readOrder_128 ⟨Nat.zero_le _, Nat.zero_le _⟩ (fun r2466 σ2465 τ2465 H locs h2465 hP hS => ?_)
                  obtain ⟨rfl, f2467, f2468, I2469, I2470, I2471, h2465⟩ := h2465
                  obtain ⟨i2472, w2473, w2474⟩ : (0 ≤ (σ2465 9 0).toInt ∧ (σ2465 9 0).toInt ≤ 80) ∧ (∀ k : Nat, k < 80 → 0 ≤ (σ2465 10 k).toInt ∧ (σ2465 10 k).toInt ≤ 255) ∧ (∀ k : Nat, k < 8 → 0 ≤ (σ2465 11 k).toInt ∧ (σ2465 11 k).toInt ≤ 3) := id I2469
                  obtain ⟨i2475, i2476⟩ : (0 ≤ (σ2465 9 1).toInt) ∧ ((σ2465 9 1).toInt ≤ (σ2465 9 0).toInt) := id I2470
                  have i2477 : (-1) ≤ (σ2465 9 2).toInt := I2471
                  have z2478 : (σ2465 9 0).toInt = (σ 9 0).toInt := (congrArg Int32.toInt (show σ2465 9 0 = (σ 9 0) from ((f2468 0 (by decide)).trans ((f2434 0 (by decide)).trans ((f2426 0 (by decide)).trans ((f2407 0 (by decide)).trans ((f2321 0 (by decide)).trans ((f2311 0 (by decide)).trans ((f32 0 (by decide)).trans (f11 0 (by decide)))))))))))
                  obtain ⟨k2479, h2465⟩ := h2465
                  have h2480 := h2465
                  obtain ⟨q2482, k2481⟩ := h2480
                  refine lv_istore (lv' := [(4, .int r2466), (3, .int r2405), (5, .int (σ2318 9 1)), (2, .int x24), (0, .ref (ad 9)), (1, .ref (ad 16))]) hx hb dX7_readOrder_131 hl (by decide) rfl (fun ls hl => ?_)
                  refine lv_aload_n hx hb dX7_readOrder_133 rfl (lv_at hl 4 rfl) ?_
                  refine jcallV (As := []) (rest := []) ⟨hx, hb, hml, hown, hts⟩ hK hP hA hS hZ (c_X7_end_9 l D cI cL ad zz hJ σ2465 τ I2469 I2470 I2471) cw_RX7_57 (jc_9 cI cL ad σ2465 τ) rfl ⟨Nat.le_of_ble_eq_true rfl, Nat.le_of_ble_eq_true rfl⟩ rfl rfl rfl hl.1 rfl (Nat.le_of_ble_eq_true rfl) dX7_readOrder_134 ⟨Nat.zero_le _, Nat.zero_le _⟩ (fun r2484 σ2483 τ2483 H locs h2483 hP hS => ?_)
                  obtain ⟨rfl, f2485, f2486, I2487, I2488, h2483⟩ := h2483
                  obtain ⟨i2489, w2490, w2491⟩ : (0 ≤ (σ2483 9 0).toInt ∧ (σ2483 9 0).toInt ≤ 80) ∧ (∀ k : Nat, k < 80 → 0 ≤ (σ2483 10 k).toInt ∧ (σ2483 10 k).toInt ≤ 255) ∧ (∀ k : Nat, k < 8 → 0 ≤ (σ2483 11 k).toInt ∧ (σ2483 11 k).toInt ≤ 3) := id I2487
                  have i2492 : (-1) ≤ (σ2483 9 2).toInt := I2488
                  rcases h2483 with h2493 | h2494
                  · obtain ⟨q2496, k2495⟩ := h2493
                    exact absurd (by omega : False) id
                  · obtain ⟨q2498, k2497⟩ := h2494
                    refine lv_istore (lv' := [(5, .int r2484), (4, .int r2466), (3, .int r2405), (2, .int x24), (0, .ref (ad 9)), (1, .ref (ad 16))]) hx hb dX7_readOrder_137 hl (by decide) rfl (fun ls hl => ?_)
                    refine lv_iload hx hb dX7_readOrder_139 (lv_at hl 0 rfl) ?_
                    refine lv_iconst (v := (-1)) hx hb dX7_readOrder_141 (by decide) ?_
                    refine lv_icmp_eq (tgt := 148) hx hb dX7_readOrder_142 (by decide) (fun c => absurd (jeq c rfl jz_m1) (by omega)) (fun c2499 => ?_)
                    have kc2499 := jne c2499 rfl jz_m1
                    refine lv_iload hx hb dX7_readOrder_145 (lv_at hl 0 rfl) ?_
                    have I2500 : jI16 σ2483 := jI16_fr ((congrFun (f2485 16 (by decide)) 0).trans ((congrFun (f2467 16 (by decide)) 0).trans ((congrFun (f2433 16 (by decide)) 0).trans ((congrFun (f2425 16 (by decide)) 0).trans ((congrFun (f2406 16 (by decide)) 0).trans ((congrFun (f2320 16 (by decide)) 0).trans ((congrFun (f2310 16 (by decide)) 0).trans ((congrFun (f31 16 (by decide)) 0).trans (congrFun (f10 16 (by decide)) 0))))))))) ((congrFun (f2485 16 (by decide)) 1).trans ((congrFun (f2467 16 (by decide)) 1).trans ((congrFun (f2433 16 (by decide)) 1).trans ((congrFun (f2425 16 (by decide)) 1).trans ((congrFun (f2406 16 (by decide)) 1).trans ((congrFun (f2320 16 (by decide)) 1).trans ((congrFun (f2310 16 (by decide)) 1).trans ((congrFun (f31 16 (by decide)) 1).trans (congrFun (f10 16 (by decide)) 1))))))))) ((congrFun (f2485 16 (by decide)) 2).trans ((congrFun (f2467 16 (by decide)) 2).trans ((congrFun (f2433 16 (by decide)) 2).trans ((congrFun (f2425 16 (by decide)) 2).trans ((congrFun (f2406 16 (by decide)) 2).trans ((congrFun (f2320 16 (by decide)) 2).trans ((congrFun (f2310 16 (by decide)) 2).trans ((congrFun (f31 16 (by decide)) 2).trans (congrFun (f10 16 (by decide)) 2))))))))) ((f2485 17 (by decide)).trans ((f2467 17 (by decide)).trans ((f2433 17 (by decide)).trans ((f2425 17 (by decide)).trans ((f2406 17 (by decide)).trans ((f2320 17 (by decide)).trans ((f2310 17 (by decide)).trans ((f31 17 (by decide)).trans (f10 17 (by decide)))))))))) hI16
                    exact hret r2484 σ2483 τ _ _ _ _ rfl ⟨rfl, (fun i hi => ((f2485 i (imp_48 i hi)).trans ((f2467 i (imp_48 i hi)).trans ((f2433 i (imp_48 i hi)).trans ((f2425 i (imp_48 i hi)).trans ((f2406 i (imp_48 i hi)).trans ((f2320 i (imp_48 i hi)).trans ((f2310 i (imp_48 i hi)).trans ((f31 i (imp_49 i hi)).trans (f10 i (imp_48 i hi))))))))))), (fun i hi => ((f2486 i (imp_50 i hi)).trans ((f2468 i (imp_52 i hi)).trans ((f2434 i (imp_51 i hi)).trans ((f2426 i (imp_56 i hi)).trans ((f2407 i (imp_52 i hi)).trans ((f2321 i (imp_51 i hi)).trans ((f2311 i (imp_56 i hi)).trans ((f32 i (imp_51 i hi)).trans (f11 i (imp_52 i hi))))))))))), (fun i hi => ((congrFun (f2485 16 (by decide)) i).trans ((congrFun (f2467 16 (by decide)) i).trans ((congrFun (f2433 16 (by decide)) i).trans ((congrFun (f2425 16 (by decide)) i).trans ((congrFun (f2406 16 (by decide)) i).trans ((congrFun (f2320 16 (by decide)) i).trans ((congrFun (f2310 16 (by decide)) i).trans ((congrFun (f31 16 (by decide)) i).trans (congrFun (f10 16 (by decide)) i)))))))))), I2487, I2500, trivial⟩ hP hS dX7_readOrder_147
              · have kc2422 := jnlt c2422 rfl jz_1
                refine lv_iload_n hx hb dX7_readOrder_105 rfl (lv_at hl 0 rfl) ?_
                refine lv_bipush (v := 12) hx hb dX7_readOrder_106 (by decide) ?_
                refine lv_icmp_le (tgt := 117) hx hb dX7_readOrder_108 (by decide) (fun c2501 => ?_) (fun c2501 => ?_)
                · have kc2501 := jle c2501 rfl jz_12
                  refine lv_aload_n hx hb dX7_readOrder_117 rfl (lv_at hl 4 rfl) ?_
                  refine lv_bipush (v := 114) hx hb dX7_readOrder_118 (by decide) ?_
                  refine jcallV (As := [.int 114]) (rest := []) ⟨hx, hb, hml, hown, hts⟩ hK hP hA hS hZ (c_X7_skip_9 l D cI cL ad zz hJ σ2404 τ 114 (114) jz_114 I2408 I2409 I2410 (by omega)) cw_RX7_50 (jc_9 cI cL ad σ2404 τ) rfl ⟨Nat.le_of_ble_eq_true rfl, Nat.le_of_ble_eq_true rfl⟩ rfl rfl rfl hl.1 rfl (Nat.le_of_ble_eq_true rfl) dX7_readOrder_120 ⟨Nat.zero_le _, Nat.zero_le _⟩ (fun r2503 σ2502 τ2502 H locs h2502 hP hS => ?_)
                  obtain ⟨rfl, f2504, f2505, I2506, I2507, I2508, h2502⟩ := h2502
                  obtain ⟨i2509, w2510, w2511⟩ : (0 ≤ (σ2502 9 0).toInt ∧ (σ2502 9 0).toInt ≤ 80) ∧ (∀ k : Nat, k < 80 → 0 ≤ (σ2502 10 k).toInt ∧ (σ2502 10 k).toInt ≤ 255) ∧ (∀ k : Nat, k < 8 → 0 ≤ (σ2502 11 k).toInt ∧ (σ2502 11 k).toInt ≤ 3) := id I2506
                  obtain ⟨i2512, i2513⟩ : (0 ≤ (σ2502 9 1).toInt) ∧ ((σ2502 9 1).toInt ≤ (σ2502 9 0).toInt) := id I2507
                  have i2514 : (-1) ≤ (σ2502 9 2).toInt := I2508
                  have z2515 : (σ2502 9 0).toInt = (σ 9 0).toInt := (congrArg Int32.toInt (show σ2502 9 0 = (σ 9 0) from ((f2505 0 (by decide)).trans ((f2407 0 (by decide)).trans ((f2321 0 (by decide)).trans ((f2311 0 (by decide)).trans ((f32 0 (by decide)).trans (f11 0 (by decide)))))))))
                  have z2516 : (σ2502 9 2).toInt = (σ2404 9 2).toInt := (congrArg Int32.toInt (show σ2502 9 2 = (σ2404 9 2) from (f2505 2 (by decide))))
                  refine lv_if_eq (tgt := 133) hx hb dX7_readOrder_123 (by decide) (fun c2517 => ?_) (fun c2517 => ?_)
                  · have kc2517 := jeq c2517 rfl jz_0
                    refine lv_aload_n hx hb dX7_readOrder_133 rfl (lv_at hl 4 rfl) ?_
                    refine jcallV (As := []) (rest := []) ⟨hx, hb, hml, hown, hts⟩ hK hP hA hS hZ (c_X7_end_9 l D cI cL ad zz hJ σ2502 τ I2506 I2507 I2508) cw_RX7_57 (jc_9 cI cL ad σ2502 τ) rfl ⟨Nat.le_of_ble_eq_true rfl, Nat.le_of_ble_eq_true rfl⟩ rfl rfl rfl hl.1 rfl (Nat.le_of_ble_eq_true rfl) dX7_readOrder_134 ⟨Nat.zero_le _, Nat.zero_le _⟩ (fun r2519 σ2518 τ2518 H locs h2518 hP hS => ?_)
                    obtain ⟨rfl, f2520, f2521, I2522, I2523, h2518⟩ := h2518
                    obtain ⟨i2524, w2525, w2526⟩ : (0 ≤ (σ2518 9 0).toInt ∧ (σ2518 9 0).toInt ≤ 80) ∧ (∀ k : Nat, k < 80 → 0 ≤ (σ2518 10 k).toInt ∧ (σ2518 10 k).toInt ≤ 255) ∧ (∀ k : Nat, k < 8 → 0 ≤ (σ2518 11 k).toInt ∧ (σ2518 11 k).toInt ≤ 3) := id I2522
                    have i2527 : (-1) ≤ (σ2518 9 2).toInt := I2523
                    rcases h2518 with h2528 | h2529
                    · obtain ⟨q2531, k2530⟩ := h2528
                      exact absurd (by omega : False) id
                    · obtain ⟨q2533, k2532⟩ := h2529
                      refine lv_istore (lv' := [(5, .int r2519), (3, .int r2405), (4, .int 0), (2, .int x24), (0, .ref (ad 9)), (1, .ref (ad 16))]) hx hb dX7_readOrder_137 hl (by decide) rfl (fun ls hl => ?_)
                      refine lv_iload hx hb dX7_readOrder_139 (lv_at hl 0 rfl) ?_
                      refine lv_iconst (v := (-1)) hx hb dX7_readOrder_141 (by decide) ?_
                      refine lv_icmp_eq (tgt := 148) hx hb dX7_readOrder_142 (by decide) (fun c => absurd (jeq c rfl jz_m1) (by omega)) (fun c2534 => ?_)
                      have kc2534 := jne c2534 rfl jz_m1
                      refine lv_iload hx hb dX7_readOrder_145 (lv_at hl 0 rfl) ?_
                      have I2535 : jI16 σ2518 := jI16_fr ((congrFun (f2520 16 (by decide)) 0).trans ((congrFun (f2504 16 (by decide)) 0).trans ((congrFun (f2406 16 (by decide)) 0).trans ((congrFun (f2320 16 (by decide)) 0).trans ((congrFun (f2310 16 (by decide)) 0).trans ((congrFun (f31 16 (by decide)) 0).trans (congrFun (f10 16 (by decide)) 0))))))) ((congrFun (f2520 16 (by decide)) 1).trans ((congrFun (f2504 16 (by decide)) 1).trans ((congrFun (f2406 16 (by decide)) 1).trans ((congrFun (f2320 16 (by decide)) 1).trans ((congrFun (f2310 16 (by decide)) 1).trans ((congrFun (f31 16 (by decide)) 1).trans (congrFun (f10 16 (by decide)) 1))))))) ((congrFun (f2520 16 (by decide)) 2).trans ((congrFun (f2504 16 (by decide)) 2).trans ((congrFun (f2406 16 (by decide)) 2).trans ((congrFun (f2320 16 (by decide)) 2).trans ((congrFun (f2310 16 (by decide)) 2).trans ((congrFun (f31 16 (by decide)) 2).trans (congrFun (f10 16 (by decide)) 2))))))) ((f2520 17 (by decide)).trans ((f2504 17 (by decide)).trans ((f2406 17 (by decide)).trans ((f2320 17 (by decide)).trans ((f2310 17 (by decide)).trans ((f31 17 (by decide)).trans (f10 17 (by decide)))))))) hI16
                      exact hret r2519 σ2518 τ _ _ _ _ rfl ⟨rfl, (fun i hi => ((f2520 i (imp_48 i hi)).trans ((f2504 i (imp_48 i hi)).trans ((f2406 i (imp_48 i hi)).trans ((f2320 i (imp_48 i hi)).trans ((f2310 i (imp_48 i hi)).trans ((f31 i (imp_49 i hi)).trans (f10 i (imp_48 i hi))))))))), (fun i hi => ((f2521 i (imp_50 i hi)).trans ((f2505 i (imp_51 i hi)).trans ((f2407 i (imp_52 i hi)).trans ((f2321 i (imp_51 i hi)).trans ((f2311 i (imp_56 i hi)).trans ((f32 i (imp_51 i hi)).trans (f11 i (imp_52 i hi))))))))), (fun i hi => ((congrFun (f2520 16 (by decide)) i).trans ((congrFun (f2504 16 (by decide)) i).trans ((congrFun (f2406 16 (by decide)) i).trans ((congrFun (f2320 16 (by decide)) i).trans ((congrFun (f2310 16 (by decide)) i).trans ((congrFun (f31 16 (by decide)) i).trans (congrFun (f10 16 (by decide)) i)))))))), I2522, I2535, trivial⟩ hP hS dX7_readOrder_147
                  · have kc2517 := jne c2517 rfl jz_0
                    refine lv_aload_n hx hb dX7_readOrder_126 rfl (lv_at hl 4 rfl) ?_
                    refine lv_iconst (v := 3) hx hb dX7_readOrder_127 (by decide) ?_
                    refine jcallV (As := [.int 3]) (rest := []) ⟨hx, hb, hml, hown, hts⟩ hK hP hA hS hZ (c_X7_number_3 l D cI cL ad zz hJ σ2502 τ I2506 I2507 I2508) cw_RX7_53 (jc_9 cI cL ad σ2502 τ) rfl ⟨Nat.le_of_ble_eq_true rfl, Nat.le_of_ble_eq_true rfl⟩ rfl rfl rfl hl.1 rfl (Nat.le_of_ble_eq_true rfl) dX7_readOrder_128 ⟨Nat.zero_le _, Nat.zero_le _⟩ (fun r2537 σ2536 τ2536 H locs h2536 hP hS => ?_)
                    obtain ⟨rfl, f2538, f2539, I2540, I2541, I2542, h2536⟩ := h2536
                    obtain ⟨i2543, w2544, w2545⟩ : (0 ≤ (σ2536 9 0).toInt ∧ (σ2536 9 0).toInt ≤ 80) ∧ (∀ k : Nat, k < 80 → 0 ≤ (σ2536 10 k).toInt ∧ (σ2536 10 k).toInt ≤ 255) ∧ (∀ k : Nat, k < 8 → 0 ≤ (σ2536 11 k).toInt ∧ (σ2536 11 k).toInt ≤ 3) := id I2540
                    obtain ⟨i2546, i2547⟩ : (0 ≤ (σ2536 9 1).toInt) ∧ ((σ2536 9 1).toInt ≤ (σ2536 9 0).toInt) := id I2541
                    have i2548 : (-1) ≤ (σ2536 9 2).toInt := I2542
                    have z2549 : (σ2536 9 0).toInt = (σ 9 0).toInt := (congrArg Int32.toInt (show σ2536 9 0 = (σ 9 0) from ((f2539 0 (by decide)).trans ((f2505 0 (by decide)).trans ((f2407 0 (by decide)).trans ((f2321 0 (by decide)).trans ((f2311 0 (by decide)).trans ((f32 0 (by decide)).trans (f11 0 (by decide))))))))))
                    obtain ⟨k2550, h2536⟩ := h2536
                    have h2551 := h2536
                    obtain ⟨q2553, k2552⟩ := h2551
                    refine lv_istore (lv' := [(4, .int r2537), (3, .int r2405), (5, .int (σ2318 9 1)), (2, .int x24), (0, .ref (ad 9)), (1, .ref (ad 16))]) hx hb dX7_readOrder_131 hl (by decide) rfl (fun ls hl => ?_)
                    refine lv_aload_n hx hb dX7_readOrder_133 rfl (lv_at hl 4 rfl) ?_
                    refine jcallV (As := []) (rest := []) ⟨hx, hb, hml, hown, hts⟩ hK hP hA hS hZ (c_X7_end_9 l D cI cL ad zz hJ σ2536 τ I2540 I2541 I2542) cw_RX7_57 (jc_9 cI cL ad σ2536 τ) rfl ⟨Nat.le_of_ble_eq_true rfl, Nat.le_of_ble_eq_true rfl⟩ rfl rfl rfl hl.1 rfl (Nat.le_of_ble_eq_true rfl) dX7_readOrder_134 ⟨Nat.zero_le _, Nat.zero_le _⟩ (fun r2555 σ2554 τ2554 H locs h2554 hP hS => ?_)
                    obtain ⟨rfl, f2556, f2557, I2558, I2559, h2554⟩ := h2554
                    obtain ⟨i2560, w2561, w2562⟩ : (0 ≤ (σ2554 9 0).toInt ∧ (σ2554 9 0).toInt ≤ 80) ∧ (∀ k : Nat, k < 80 → 0 ≤ (σ2554 10 k).toInt ∧ (σ2554 10 k).toInt ≤ 255) ∧ (∀ k : Nat, k < 8 → 0 ≤ (σ2554 11 k).toInt ∧ (σ2554 11 k).toInt ≤ 3) := id I2558
                    have i2563 : (-1) ≤ (σ2554 9 2).toInt := I2559
                    rcases h2554 with h2564 | h2565
                    · obtain ⟨q2567, k2566⟩ := h2564
                      exact absurd (by omega : False) id
                    · obtain ⟨q2569, k2568⟩ := h2565
                      refine lv_istore (lv' := [(5, .int r2555), (4, .int r2537), (3, .int r2405), (2, .int x24), (0, .ref (ad 9)), (1, .ref (ad 16))]) hx hb dX7_readOrder_137 hl (by decide) rfl (fun ls hl => ?_)
                      refine lv_iload hx hb dX7_readOrder_139 (lv_at hl 0 rfl) ?_
                      refine lv_iconst (v := (-1)) hx hb dX7_readOrder_141 (by decide) ?_
                      refine lv_icmp_eq (tgt := 148) hx hb dX7_readOrder_142 (by decide) (fun c => absurd (jeq c rfl jz_m1) (by omega)) (fun c2570 => ?_)
                      have kc2570 := jne c2570 rfl jz_m1
                      refine lv_iload hx hb dX7_readOrder_145 (lv_at hl 0 rfl) ?_
                      have I2571 : jI16 σ2554 := jI16_fr ((congrFun (f2556 16 (by decide)) 0).trans ((congrFun (f2538 16 (by decide)) 0).trans ((congrFun (f2504 16 (by decide)) 0).trans ((congrFun (f2406 16 (by decide)) 0).trans ((congrFun (f2320 16 (by decide)) 0).trans ((congrFun (f2310 16 (by decide)) 0).trans ((congrFun (f31 16 (by decide)) 0).trans (congrFun (f10 16 (by decide)) 0)))))))) ((congrFun (f2556 16 (by decide)) 1).trans ((congrFun (f2538 16 (by decide)) 1).trans ((congrFun (f2504 16 (by decide)) 1).trans ((congrFun (f2406 16 (by decide)) 1).trans ((congrFun (f2320 16 (by decide)) 1).trans ((congrFun (f2310 16 (by decide)) 1).trans ((congrFun (f31 16 (by decide)) 1).trans (congrFun (f10 16 (by decide)) 1)))))))) ((congrFun (f2556 16 (by decide)) 2).trans ((congrFun (f2538 16 (by decide)) 2).trans ((congrFun (f2504 16 (by decide)) 2).trans ((congrFun (f2406 16 (by decide)) 2).trans ((congrFun (f2320 16 (by decide)) 2).trans ((congrFun (f2310 16 (by decide)) 2).trans ((congrFun (f31 16 (by decide)) 2).trans (congrFun (f10 16 (by decide)) 2)))))))) ((f2556 17 (by decide)).trans ((f2538 17 (by decide)).trans ((f2504 17 (by decide)).trans ((f2406 17 (by decide)).trans ((f2320 17 (by decide)).trans ((f2310 17 (by decide)).trans ((f31 17 (by decide)).trans (f10 17 (by decide))))))))) hI16
                      exact hret r2555 σ2554 τ _ _ _ _ rfl ⟨rfl, (fun i hi => ((f2556 i (imp_48 i hi)).trans ((f2538 i (imp_48 i hi)).trans ((f2504 i (imp_48 i hi)).trans ((f2406 i (imp_48 i hi)).trans ((f2320 i (imp_48 i hi)).trans ((f2310 i (imp_48 i hi)).trans ((f31 i (imp_49 i hi)).trans (f10 i (imp_48 i hi)))))))))), (fun i hi => ((f2557 i (imp_50 i hi)).trans ((f2539 i (imp_52 i hi)).trans ((f2505 i (imp_51 i hi)).trans ((f2407 i (imp_52 i hi)).trans ((f2321 i (imp_51 i hi)).trans ((f2311 i (imp_56 i hi)).trans ((f32 i (imp_51 i hi)).trans (f11 i (imp_52 i hi)))))))))), (fun i hi => ((congrFun (f2556 16 (by decide)) i).trans ((congrFun (f2538 16 (by decide)) i).trans ((congrFun (f2504 16 (by decide)) i).trans ((congrFun (f2406 16 (by decide)) i).trans ((congrFun (f2320 16 (by decide)) i).trans ((congrFun (f2310 16 (by decide)) i).trans ((congrFun (f31 16 (by decide)) i).trans (congrFun (f10 16 (by decide)) i))))))))), I2558, I2571, trivial⟩ hP hS dX7_readOrder_147
                · have kc2501 := jnle c2501 rfl jz_12
                  refine lv_aload_n hx hb dX7_readOrder_111 rfl (lv_at hl 4 rfl) ?_
                  refine lv_iload hx hb dX7_readOrder_112 (lv_at hl 1 rfl) ?_
                  refine jcallVv (As := [.int (σ2318 9 1)]) (rest := []) ⟨hx, hb, hml, hown, hts⟩ hK hP hA hS hZ (c_X7_fail_9 l D cI cL ad zz hJ σ2404 τ (σ2318 9 1) ((σ2318 9 1).toInt) rfl I2410 (by omega)) cw_RX7_43 (jc_9 cI cL ad σ2404 τ) rfl ⟨Nat.le_of_ble_eq_true rfl, Nat.le_of_ble_eq_true rfl⟩ rfl rfl rfl hl.1 rfl (Nat.le_of_ble_eq_true rfl) dX7_readOrder_114 ⟨Nat.zero_le _, Nat.zero_le _⟩ (fun σ2572 τ2572 H locs h2572 hP hS => ?_)
                  obtain ⟨rfl, f2574, f2575, h2572⟩ := h2572
                  obtain ⟨k2576, h2572⟩ := h2572
                  refine lv_aload_n hx hb dX7_readOrder_117 rfl (lv_at hl 4 rfl) ?_
                  refine lv_bipush (v := 114) hx hb dX7_readOrder_118 (by decide) ?_
                  have I2577 : jI9 σ2572 := jI9_fr (f2575 0 (by decide)) (f2574 10 (by decide)) (f2574 11 (by decide)) I2408
                  have I2578 : jI91 σ2572 := jI91_fr (f2575 0 (by decide)) (f2575 1 (by decide)) I2409
                  have I2579 : jI92 σ2572 := (show (-1) ≤ (σ2572 9 2).toInt by omega)
                  refine jcallV (As := [.int 114]) (rest := []) ⟨hx, hb, hml, hown, hts⟩ hK hP hA hS hZ (c_X7_skip_9 l D cI cL ad zz hJ σ2572 τ 114 (114) jz_114 I2577 I2578 I2579 (by omega)) cw_RX7_50 (jc_9 cI cL ad σ2572 τ) rfl ⟨Nat.le_of_ble_eq_true rfl, Nat.le_of_ble_eq_true rfl⟩ rfl rfl rfl hl.1 rfl (Nat.le_of_ble_eq_true rfl) dX7_readOrder_120 ⟨Nat.zero_le _, Nat.zero_le _⟩ (fun r2581 σ2580 τ2580 H locs h2580 hP hS => ?_)
                  obtain ⟨rfl, f2582, f2583, I2584, I2585, I2586, h2580⟩ := h2580
                  obtain ⟨i2587, w2588, w2589⟩ : (0 ≤ (σ2580 9 0).toInt ∧ (σ2580 9 0).toInt ≤ 80) ∧ (∀ k : Nat, k < 80 → 0 ≤ (σ2580 10 k).toInt ∧ (σ2580 10 k).toInt ≤ 255) ∧ (∀ k : Nat, k < 8 → 0 ≤ (σ2580 11 k).toInt ∧ (σ2580 11 k).toInt ≤ 3) := id I2584
                  obtain ⟨i2590, i2591⟩ : (0 ≤ (σ2580 9 1).toInt) ∧ ((σ2580 9 1).toInt ≤ (σ2580 9 0).toInt) := id I2585
                  have i2592 : (-1) ≤ (σ2580 9 2).toInt := I2586
                  have z2593 : (σ2580 9 0).toInt = (σ 9 0).toInt := (congrArg Int32.toInt (show σ2580 9 0 = (σ 9 0) from ((f2583 0 (by decide)).trans ((f2575 0 (by decide)).trans ((f2407 0 (by decide)).trans ((f2321 0 (by decide)).trans ((f2311 0 (by decide)).trans ((f32 0 (by decide)).trans (f11 0 (by decide))))))))))
                  have z2594 : (σ2580 9 2).toInt = (σ2572 9 2).toInt := (congrArg Int32.toInt (show σ2580 9 2 = (σ2572 9 2) from (f2583 2 (by decide))))
                  refine lv_if_eq (tgt := 133) hx hb dX7_readOrder_123 (by decide) (fun c2595 => ?_) (fun c2595 => ?_)
                  · have kc2595 := jeq c2595 rfl jz_0
                    refine lv_aload_n hx hb dX7_readOrder_133 rfl (lv_at hl 4 rfl) ?_
                    refine jcallV (As := []) (rest := []) ⟨hx, hb, hml, hown, hts⟩ hK hP hA hS hZ (c_X7_end_9 l D cI cL ad zz hJ σ2580 τ I2584 I2585 I2586) cw_RX7_57 (jc_9 cI cL ad σ2580 τ) rfl ⟨Nat.le_of_ble_eq_true rfl, Nat.le_of_ble_eq_true rfl⟩ rfl rfl rfl hl.1 rfl (Nat.le_of_ble_eq_true rfl) dX7_readOrder_134 ⟨Nat.zero_le _, Nat.zero_le _⟩ (fun r2597 σ2596 τ2596 H locs h2596 hP hS => ?_)
                    obtain ⟨rfl, f2598, f2599, I2600, I2601, h2596⟩ := h2596
                    obtain ⟨i2602, w2603, w2604⟩ : (0 ≤ (σ2596 9 0).toInt ∧ (σ2596 9 0).toInt ≤ 80) ∧ (∀ k : Nat, k < 80 → 0 ≤ (σ2596 10 k).toInt ∧ (σ2596 10 k).toInt ≤ 255) ∧ (∀ k : Nat, k < 8 → 0 ≤ (σ2596 11 k).toInt ∧ (σ2596 11 k).toInt ≤ 3) := id I2600
                    have i2605 : (-1) ≤ (σ2596 9 2).toInt := I2601
                    rcases h2596 with h2606 | h2607
                    · obtain ⟨q2609, k2608⟩ := h2606
                      exact absurd (by omega : False) id
                    · obtain ⟨q2611, k2610⟩ := h2607
                      refine lv_istore (lv' := [(5, .int r2597), (3, .int r2405), (4, .int 0), (2, .int x24), (0, .ref (ad 9)), (1, .ref (ad 16))]) hx hb dX7_readOrder_137 hl (by decide) rfl (fun ls hl => ?_)
                      refine lv_iload hx hb dX7_readOrder_139 (lv_at hl 0 rfl) ?_
                      refine lv_iconst (v := (-1)) hx hb dX7_readOrder_141 (by decide) ?_
                      refine lv_icmp_eq (tgt := 148) hx hb dX7_readOrder_142 (by decide) (fun c => absurd (jeq c rfl jz_m1) (by omega)) (fun c2612 => ?_)
                      have kc2612 := jne c2612 rfl jz_m1
                      refine lv_iload hx hb dX7_readOrder_145 (lv_at hl 0 rfl) ?_
                      have I2613 : jI16 σ2596 := jI16_fr ((congrFun (f2598 16 (by decide)) 0).trans ((congrFun (f2582 16 (by decide)) 0).trans ((congrFun (f2574 16 (by decide)) 0).trans ((congrFun (f2406 16 (by decide)) 0).trans ((congrFun (f2320 16 (by decide)) 0).trans ((congrFun (f2310 16 (by decide)) 0).trans ((congrFun (f31 16 (by decide)) 0).trans (congrFun (f10 16 (by decide)) 0)))))))) ((congrFun (f2598 16 (by decide)) 1).trans ((congrFun (f2582 16 (by decide)) 1).trans ((congrFun (f2574 16 (by decide)) 1).trans ((congrFun (f2406 16 (by decide)) 1).trans ((congrFun (f2320 16 (by decide)) 1).trans ((congrFun (f2310 16 (by decide)) 1).trans ((congrFun (f31 16 (by decide)) 1).trans (congrFun (f10 16 (by decide)) 1)))))))) ((congrFun (f2598 16 (by decide)) 2).trans ((congrFun (f2582 16 (by decide)) 2).trans ((congrFun (f2574 16 (by decide)) 2).trans ((congrFun (f2406 16 (by decide)) 2).trans ((congrFun (f2320 16 (by decide)) 2).trans ((congrFun (f2310 16 (by decide)) 2).trans ((congrFun (f31 16 (by decide)) 2).trans (congrFun (f10 16 (by decide)) 2)))))))) ((f2598 17 (by decide)).trans ((f2582 17 (by decide)).trans ((f2574 17 (by decide)).trans ((f2406 17 (by decide)).trans ((f2320 17 (by decide)).trans ((f2310 17 (by decide)).trans ((f31 17 (by decide)).trans (f10 17 (by decide))))))))) hI16
                      exact hret r2597 σ2596 τ _ _ _ _ rfl ⟨rfl, (fun i hi => ((f2598 i (imp_48 i hi)).trans ((f2582 i (imp_48 i hi)).trans ((f2574 i (imp_48 i hi)).trans ((f2406 i (imp_48 i hi)).trans ((f2320 i (imp_48 i hi)).trans ((f2310 i (imp_48 i hi)).trans ((f31 i (imp_49 i hi)).trans (f10 i (imp_48 i hi)))))))))), (fun i hi => ((f2599 i (imp_50 i hi)).trans ((f2583 i (imp_51 i hi)).trans ((f2575 i (imp_56 i hi)).trans ((f2407 i (imp_52 i hi)).trans ((f2321 i (imp_51 i hi)).trans ((f2311 i (imp_56 i hi)).trans ((f32 i (imp_51 i hi)).trans (f11 i (imp_52 i hi)))))))))), (fun i hi => ((congrFun (f2598 16 (by decide)) i).trans ((congrFun (f2582 16 (by decide)) i).trans ((congrFun (f2574 16 (by decide)) i).trans ((congrFun (f2406 16 (by decide)) i).trans ((congrFun (f2320 16 (by decide)) i).trans ((congrFun (f2310 16 (by decide)) i).trans ((congrFun (f31 16 (by decide)) i).trans (congrFun (f10 16 (by decide)) i))))))))), I2600, I2613, trivial⟩ hP hS dX7_readOrder_147
                  · have kc2595 := jne c2595 rfl jz_0
                    refine lv_aload_n hx hb dX7_readOrder_126 rfl (lv_at hl 4 rfl) ?_
                    refine lv_iconst (v := 3) hx hb dX7_readOrder_127 (by decide) ?_
                    refine jcallV (As := [.int 3]) (rest := []) ⟨hx, hb, hml, hown, hts⟩ hK hP hA hS hZ (c_X7_number_3 l D cI cL ad zz hJ σ2580 τ I2584 I2585 I2586) cw_RX7_53 (jc_9 cI cL ad σ2580 τ) rfl ⟨Nat.le_of_ble_eq_true rfl, Nat.le_of_ble_eq_true rfl⟩ rfl rfl rfl hl.1 rfl (Nat.le_of_ble_eq_true rfl) dX7_readOrder_128 ⟨Nat.zero_le _, Nat.zero_le _⟩ (fun r2615 σ2614 τ2614 H locs h2614 hP hS => ?_)
                    obtain ⟨rfl, f2616, f2617, I2618, I2619, I2620, h2614⟩ := h2614
                    obtain ⟨i2621, w2622, w2623⟩ : (0 ≤ (σ2614 9 0).toInt ∧ (σ2614 9 0).toInt ≤ 80) ∧ (∀ k : Nat, k < 80 → 0 ≤ (σ2614 10 k).toInt ∧ (σ2614 10 k).toInt ≤ 255) ∧ (∀ k : Nat, k < 8 → 0 ≤ (σ2614 11 k).toInt ∧ (σ2614 11 k).toInt ≤ 3) := id I2618
                    obtain ⟨i2624, i2625⟩ : (0 ≤ (σ2614 9 1).toInt) ∧ ((σ2614 9 1).toInt ≤ (σ2614 9 0).toInt) := id I2619
                    have i2626 : (-1) ≤ (σ2614 9 2).toInt := I2620
                    have z2627 : (σ2614 9 0).toInt = (σ 9 0).toInt := (congrArg Int32.toInt (show σ2614 9 0 = (σ 9 0) from ((f2617 0 (by decide)).trans ((f2583 0 (by decide)).trans ((f2575 0 (by decide)).trans ((f2407 0 (by decide)).trans ((f2321 0 (by decide)).trans ((f2311 0 (by decide)).trans ((f32 0 (by decide)).trans (f11 0 (by decide)))))))))))
                    obtain ⟨k2628, h2614⟩ := h2614
                    have h2629 := h2614
                    obtain ⟨q2631, k2630⟩ := h2629
                    refine lv_istore (lv' := [(4, .int r2615), (3, .int r2405), (5, .int (σ2318 9 1)), (2, .int x24), (0, .ref (ad 9)), (1, .ref (ad 16))]) hx hb dX7_readOrder_131 hl (by decide) rfl (fun ls hl => ?_)
                    refine lv_aload_n hx hb dX7_readOrder_133 rfl (lv_at hl 4 rfl) ?_
                    refine jcallV (As := []) (rest := []) ⟨hx, hb, hml, hown, hts⟩ hK hP hA hS hZ (c_X7_end_9 l D cI cL ad zz hJ σ2614 τ I2618 I2619 I2620) cw_RX7_57 (jc_9 cI cL ad σ2614 τ) rfl ⟨Nat.le_of_ble_eq_true rfl, Nat.le_of_ble_eq_true rfl⟩ rfl rfl rfl hl.1 rfl (Nat.le_of_ble_eq_true rfl) dX7_readOrder_134 ⟨Nat.zero_le _, Nat.zero_le _⟩ (fun r2633 σ2632 τ2632 H locs h2632 hP hS => ?_)
                    obtain ⟨rfl, f2634, f2635, I2636, I2637, h2632⟩ := h2632
                    obtain ⟨i2638, w2639, w2640⟩ : (0 ≤ (σ2632 9 0).toInt ∧ (σ2632 9 0).toInt ≤ 80) ∧ (∀ k : Nat, k < 80 → 0 ≤ (σ2632 10 k).toInt ∧ (σ2632 10 k).toInt ≤ 255) ∧ (∀ k : Nat, k < 8 → 0 ≤ (σ2632 11 k).toInt ∧ (σ2632 11 k).toInt ≤ 3) := id I2636
                    have i2641 : (-1) ≤ (σ2632 9 2).toInt := I2637
                    rcases h2632 with h2642 | h2643
                    · obtain ⟨q2645, k2644⟩ := h2642
                      exact absurd (by omega : False) id
                    · obtain ⟨q2647, k2646⟩ := h2643
                      refine lv_istore (lv' := [(5, .int r2633), (4, .int r2615), (3, .int r2405), (2, .int x24), (0, .ref (ad 9)), (1, .ref (ad 16))]) hx hb dX7_readOrder_137 hl (by decide) rfl (fun ls hl => ?_)
                      refine lv_iload hx hb dX7_readOrder_139 (lv_at hl 0 rfl) ?_
                      refine lv_iconst (v := (-1)) hx hb dX7_readOrder_141 (by decide) ?_
                      refine lv_icmp_eq (tgt := 148) hx hb dX7_readOrder_142 (by decide) (fun c => absurd (jeq c rfl jz_m1) (by omega)) (fun c2648 => ?_)
                      have kc2648 := jne c2648 rfl jz_m1
                      refine lv_iload hx hb dX7_readOrder_145 (lv_at hl 0 rfl) ?_
                      have I2649 : jI16 σ2632 := jI16_fr ((congrFun (f2634 16 (by decide)) 0).trans ((congrFun (f2616 16 (by decide)) 0).trans ((congrFun (f2582 16 (by decide)) 0).trans ((congrFun (f2574 16 (by decide)) 0).trans ((congrFun (f2406 16 (by decide)) 0).trans ((congrFun (f2320 16 (by decide)) 0).trans ((congrFun (f2310 16 (by decide)) 0).trans ((congrFun (f31 16 (by decide)) 0).trans (congrFun (f10 16 (by decide)) 0))))))))) ((congrFun (f2634 16 (by decide)) 1).trans ((congrFun (f2616 16 (by decide)) 1).trans ((congrFun (f2582 16 (by decide)) 1).trans ((congrFun (f2574 16 (by decide)) 1).trans ((congrFun (f2406 16 (by decide)) 1).trans ((congrFun (f2320 16 (by decide)) 1).trans ((congrFun (f2310 16 (by decide)) 1).trans ((congrFun (f31 16 (by decide)) 1).trans (congrFun (f10 16 (by decide)) 1))))))))) ((congrFun (f2634 16 (by decide)) 2).trans ((congrFun (f2616 16 (by decide)) 2).trans ((congrFun (f2582 16 (by decide)) 2).trans ((congrFun (f2574 16 (by decide)) 2).trans ((congrFun (f2406 16 (by decide)) 2).trans ((congrFun (f2320 16 (by decide)) 2).trans ((congrFun (f2310 16 (by decide)) 2).trans ((congrFun (f31 16 (by decide)) 2).trans (congrFun (f10 16 (by decide)) 2))))))))) ((f2634 17 (by decide)).trans ((f2616 17 (by decide)).trans ((f2582 17 (by decide)).trans ((f2574 17 (by decide)).trans ((f2406 17 (by decide)).trans ((f2320 17 (by decide)).trans ((f2310 17 (by decide)).trans ((f31 17 (by decide)).trans (f10 17 (by decide)))))))))) hI16
                      exact hret r2633 σ2632 τ _ _ _ _ rfl ⟨rfl, (fun i hi => ((f2634 i (imp_48 i hi)).trans ((f2616 i (imp_48 i hi)).trans ((f2582 i (imp_48 i hi)).trans ((f2574 i (imp_48 i hi)).trans ((f2406 i (imp_48 i hi)).trans ((f2320 i (imp_48 i hi)).trans ((f2310 i (imp_48 i hi)).trans ((f31 i (imp_49 i hi)).trans (f10 i (imp_48 i hi))))))))))), (fun i hi => ((f2635 i (imp_50 i hi)).trans ((f2617 i (imp_52 i hi)).trans ((f2583 i (imp_51 i hi)).trans ((f2575 i (imp_56 i hi)).trans ((f2407 i (imp_52 i hi)).trans ((f2321 i (imp_51 i hi)).trans ((f2311 i (imp_56 i hi)).trans ((f32 i (imp_51 i hi)).trans (f11 i (imp_52 i hi))))))))))), (fun i hi => ((congrFun (f2634 16 (by decide)) i).trans ((congrFun (f2616 16 (by decide)) i).trans ((congrFun (f2582 16 (by decide)) i).trans ((congrFun (f2574 16 (by decide)) i).trans ((congrFun (f2406 16 (by decide)) i).trans ((congrFun (f2320 16 (by decide)) i).trans ((congrFun (f2310 16 (by decide)) i).trans ((congrFun (f31 16 (by decide)) i).trans (congrFun (f10 16 (by decide)) i)))))))))), I2636, I2649, trivial⟩ hP hS dX7_readOrder_147
  exact lp22 1000000 0 σ8 _ _ ls (by have h90 := jz_0; omega) (by have h90 := jz_0; omega) (by have h90 := jz_0; omega) (by have h90 := jz_0; omega) (by have h90 := jz_0; omega) (fun _ _ => rfl) (fun _ _ => rfl)  I12 hP hS hl
