set_option maxHeartbeats 4000000 in
set_option maxRecDepth 100000 in
theorem c_X10_begin_12 (l : Launch) (D : va_G) (cI cL : ClassId) (ad zz : Nat → Nat) (hJ : jD ad) (σ : Nat → Nat → Int32) (τ : Nat → Nat → Int64) (hw13 : ∀ k : Nat, k < 160 → 0 ≤ (σ 13 k).toInt ∧ (σ 13 k).toInt ≤ 30000) : jMv l yX10_begin cX10_begin 1 none ({ frames := 0, cells := 0, slots := 0, locals := 0 }) D cI cL ad zz [.ref (ad 12)] σ τ (fun σ' τ' => τ = τ' ∧ (∀ i : Nat, (i < 12 ∨ 12 < i) → σ' i = σ i) ∧ (∀ k : Nat, (k < 0 ∨ 0 < k) ∧ (k < 1 ∨ 1 < k) → σ' 12 k = σ 12 k) ∧ (jI12 σ') ∧ True) := by
  refine jMv.of hJ (by decide +kernel) rfl (Nat.le_of_ble_eq_true rfl) ?_
  intro p e s m args below meth c Q ls hC hret hl hP
  obtain ⟨hx, hb, hr, hml, hown, hts, hK, -, hlocks, hZ⟩ := hC
  have hown : s.vm.findClass RX10 = some m.cls := hown
  have hS : va_S (jA ad) s.heap s.heap [] := va_S.rf
  have hA : ∀ q, jA ad q → jA ad q := fun _ h => h
  have hl : lv_has ls 1 [(0, .ref (ad 12))] := hl
  refine lv_aload_n hx hb dX10_begin_0 rfl (lv_at hl 0 rfl) ?_
  refine lv_iconst (v := 0) hx hb dX10_begin_1 (by decide) ?_
  refine jput (ty := .int) hx hb hts inlX10 tyX10 tyX10_ok nmX10 hown hK hP hJ hA hS (jc_12 cI cL ad σ τ) rfl (k := 0) (by decide) (Nat.le_of_ble_eq_true rfl) (jp_12_0 cI cL ad σ τ 0) (hts _ kw_16_20) (fun _ h9 => h9) rfl (by decide +kernel) rfl rfl dX10_begin_2 (fun σ1 H locs eσ1 hP hS => ?_)
  refine lv_aload_n hx hb dX10_begin_5 rfl (lv_at hl 0 rfl) ?_
  refine lv_iconst (v := 0) hx hb dX10_begin_6 (by decide) ?_
  refine jput (ty := .int) hx hb hts inlX10 tyX10 tyX10_ok nmX10 hown hK hP hJ hA hS (jc_12 cI cL ad σ1 τ) rfl (k := 1) (by decide) (Nat.le_of_ble_eq_true rfl) (jp_12_1 cI cL ad σ1 τ 0) (hts _ kw_16_21) (fun _ h9 => h9) rfl (by decide +kernel) rfl rfl dX10_begin_7 (fun σ2 H locs eσ2 hP hS => ?_)
  have z3 : (σ2 12 0).toInt = 0 := ((congrArg Int32.toInt (show σ2 12 0 = 0 from ((jkp 0 eσ2 (by decide)).trans (jsp eσ1)))).trans jz_0)
  have w4 : ∀ k : Nat, k < 160 → 0 ≤ (σ2 13 k).toInt ∧ (σ2 13 k).toInt ≤ 30000 := (jrr_fr (jnp 13 eσ2 (by decide)) (jrr_fr (jnp 13 eσ1 (by decide)) hw13))
  have I5 : jI12 σ2 := ⟨(by omega), w4⟩
  exact hret σ2 τ _ _ _ _ ⟨rfl, (fun i hi => ((jnp i eσ2 (imp_22 i hi)).trans (jnp i eσ1 (imp_22 i hi)))), (fun i hi => ((jkp i eσ2 (imp_23 i hi)).trans (jkp i eσ1 (imp_24 i hi)))), I5, trivial⟩ hP hS dX10_begin_10
set_option maxHeartbeats 4000000 in
set_option maxRecDepth 100000 in
theorem c_X10_add_12 (l : Launch) (D : va_G) (cI cL : ClassId) (ad zz : Nat → Nat) (hJ : jD ad) (σ : Nat → Nat → Int32) (τ : Nat → Nat → Int64) (a1 : Int32) (A1 : Int) (t1 : a1.toInt = A1) (hI12 : jI12 σ) (hp0 : 0 ≤ A1 ∧ A1 ≤ 30000) : jMv l yX10_add cX10_add 2 none ({ frames := 0, cells := 0, slots := 0, locals := 0 }) D cI cL ad zz [.ref (ad 12), .int a1] σ τ (fun σ' τ' => τ = τ' ∧ (∀ i : Nat, (i < 12 ∨ 13 < i) → σ' i = σ i) ∧ (∀ k : Nat, (k < 0 ∨ 0 < k) ∧ (k < 1 ∨ 1 < k) → σ' 12 k = σ 12 k) ∧ (jI12 σ') ∧ True) := by
  refine jMv.of hJ (by decide +kernel) rfl (Nat.le_of_ble_eq_true rfl) ?_
  intro p e s m args below meth c Q ls hC hret hl hP
  obtain ⟨hx, hb, hr, hml, hown, hts, hK, -, hlocks, hZ⟩ := hC
  have hown : s.vm.findClass RX10 = some m.cls := hown
  have hS : va_S (jA ad) s.heap s.heap [] := va_S.rf
  have hA : ∀ q, jA ad q → jA ad q := fun _ h => h
  have hl : lv_has ls 2 [(0, .ref (ad 12)), (1, .int a1)] := hl
  have g1 := jrg t1
  obtain ⟨i1, w2⟩ : (0 ≤ (σ 12 0).toInt ∧ (σ 12 0).toInt ≤ 160) ∧ (∀ k : Nat, k < 160 → 0 ≤ (σ 13 k).toInt ∧ (σ 13 k).toInt ≤ 30000) := id hI12
  refine lv_aload_n hx hb dX10_add_0 rfl (lv_at hl 0 rfl) ?_
  refine va_get (D := D) hx hb hts inlX10 hown hK hP 12 (jc_12 cI cL ad σ τ) rfl 0 (by decide) (hts _ kw_16_20) (fun _ h9 => h9) rfl dX10_add_1 ?_
  refine lv_sipush (v := 160) hx hb dX10_add_4 (by decide) ?_
  refine lv_icmp_lt (tgt := 11) hx hb dX10_add_7 (by decide) (fun c3 => ?_) (fun c3 => ?_)
  · have kc3 := jlt c3 rfl jz_160
    refine lv_aload_n hx hb dX10_add_11 rfl (lv_at hl 0 rfl) ?_
    refine va_get (D := D) hx hb hts inlX10 hown hK hP 12 (jc_12 cI cL ad σ τ) rfl 2 (by decide) (hts _ kw_4_3) (fun _ h9 => h9) rfl dX10_add_12 ?_
    refine lv_aload_n hx hb dX10_add_15 rfl (lv_at hl 0 rfl) ?_
    refine lv_dup hx hb dX10_add_16 rfl ?_
    refine va_get (D := D) hx hb hts inlX10 hown hK hP 12 (jc_12 cI cL ad σ τ) rfl 0 (by decide) (hts _ kw_16_20) (fun _ h9 => h9) rfl dX10_add_17 ?_
    refine lv_dup_x1 hx hb dX10_add_20 rfl rfl ?_
    refine lv_iconst (v := 1) hx hb dX10_add_21 (by decide) ?_
    have g4 := jrg (rfl : (σ 12 0).toInt = (σ 12 0).toInt)
    refine lv_iadd hx hb dX10_add_22 ?_
    refine lv_topi (fun x5 ex5 => ?_)
    have tx5 : x5.toInt = (σ 12 0).toInt + 1 := (jadd ex5 rfl jz_1 (by omega) (by omega)).trans (by omega)
    refine jput (ty := .int) hx hb hts inlX10 tyX10 tyX10_ok nmX10 hown hK hP hJ hA hS (jc_12 cI cL ad σ τ) rfl (k := 0) (by decide) (Nat.le_of_ble_eq_true rfl) (jp_12_0 cI cL ad σ τ x5) (hts _ kw_16_20) (fun _ h9 => h9) rfl (by decide +kernel) rfl rfl dX10_add_23 (fun σ6 H locs eσ6 hP hS => ?_)
    refine lv_iload_n hx hb dX10_add_26 rfl (lv_at hl 1 rfl) ?_
    refine jast hx hb hK hP hJ hA hS (jc_13 cI cL ad σ6 τ) (ja_13 cI cL ad σ6 τ _ _) (jin rfl (by omega) (by omega)) dX10_add_27 (fun σ7 H locs eσ7 hP hS => ?_)
    refine lv_iload_n hx hb dX10_add_28 rfl (lv_at hl 1 rfl) ?_
    refine lv_sipush (v := 10000) hx hb dX10_add_29 (by decide) ?_
    refine lv_icmp_lt (tgt := 58) hx hb dX10_add_32 (by decide) (fun c8 => ?_) (fun c8 => ?_)
    · have kc8 := jlt c8 t1 jz_10000
      have z9 : (σ7 12 0).toInt = (σ 12 0).toInt + 1 := ((congrArg Int32.toInt (show σ7 12 0 = x5 from ((congrFun (jnp 12 eσ7 (by decide)) 0).trans (jsp eσ6)))).trans tx5)
      have w10 : ∀ k : Nat, k < 160 → 0 ≤ (σ7 13 k).toInt ∧ (σ7 13 k).toInt ≤ 30000 := (by rw [eσ7]; exact jrr_up (jrr_fr (jnp 13 eσ6 (by decide)) w2) (by have h9 := t1; omega) (by have h9 := t1; omega))
      have I11 : jI12 σ7 := ⟨(by omega), w10⟩
      exact hret σ7 τ _ _ _ _ ⟨rfl, (fun i hi => ((jnp i eσ7 (imp_25 i hi)).trans (jnp i eσ6 (imp_26 i hi)))), (fun i hi => ((congrFun (jnp 12 eσ7 (by decide)) i).trans (jkp i eσ6 (imp_24 i hi)))), I11, trivial⟩ hP hS dX10_add_58
    · have kc8 := jnlt c8 t1 jz_10000
      refine lv_iload_n hx hb dX10_add_35 rfl (lv_at hl 1 rfl) ?_
      refine lv_sipush (v := 10008) hx hb dX10_add_36 (by decide) ?_
      refine lv_icmp_ge (tgt := 58) hx hb dX10_add_39 (by decide) (fun c12 => ?_) (fun c12 => ?_)
      · have kc12 := jle c12 jz_10008 t1
        have z13 : (σ7 12 0).toInt = (σ 12 0).toInt + 1 := ((congrArg Int32.toInt (show σ7 12 0 = x5 from ((congrFun (jnp 12 eσ7 (by decide)) 0).trans (jsp eσ6)))).trans tx5)
        have w14 : ∀ k : Nat, k < 160 → 0 ≤ (σ7 13 k).toInt ∧ (σ7 13 k).toInt ≤ 30000 := (by rw [eσ7]; exact jrr_up (jrr_fr (jnp 13 eσ6 (by decide)) w2) (by have h9 := t1; omega) (by have h9 := t1; omega))
        have I15 : jI12 σ7 := ⟨(by omega), w14⟩
        exact hret σ7 τ _ _ _ _ ⟨rfl, (fun i hi => ((jnp i eσ7 (imp_25 i hi)).trans (jnp i eσ6 (imp_26 i hi)))), (fun i hi => ((congrFun (jnp 12 eσ7 (by decide)) i).trans (jkp i eσ6 (imp_24 i hi)))), I15, trivial⟩ hP hS dX10_add_58
      · have kc12 := jnle c12 jz_10008 t1
        refine lv_aload_n hx hb dX10_add_42 rfl (lv_at hl 0 rfl) ?_
        refine lv_dup hx hb dX10_add_43 rfl ?_
        refine va_get (D := D) hx hb hts inlX10 hown hK hP 12 (jc_12 cI cL ad σ7 τ) rfl 1 (by decide) (hts _ kw_16_21) (fun _ h9 => h9) rfl dX10_add_44 ?_
        have m16 : σ7 12 1 = (σ 12 1) := ((congrFun (jnp 12 eσ7 (by decide)) 1).trans (jkp 1 eσ6 (by decide)))
        refine jtopr m16 ?_
        refine lv_iconst (v := 1) hx hb dX10_add_47 (by decide) ?_
        refine lv_iload_n hx hb dX10_add_48 rfl (lv_at hl 1 rfl) ?_
        refine lv_sipush (v := 10000) hx hb dX10_add_49 (by decide) ?_
        refine lv_isub hx hb dX10_add_52 ?_
        refine lv_topi (fun x17 ex17 => ?_)
        have tx17 : x17.toInt = A1 - 10000 := (jsub ex17 t1 jz_10000 (by omega) (by omega)).trans (by omega)
        refine lv_ishl hx hb dX10_add_53 ?_
        refine lv_topi (fun x18 ex18 => ?_)
        have gx18 := jrg (rfl : x18.toInt = x18.toInt)
        refine lv_ior hx hb dX10_add_54 ?_
        refine lv_topi (fun x19 ex19 => ?_)
        have gx19 := jrg (rfl : x19.toInt = x19.toInt)
        refine jput (ty := .int) hx hb hts inlX10 tyX10 tyX10_ok nmX10 hown hK hP hJ hA hS (jc_12 cI cL ad σ7 τ) rfl (k := 1) (by decide) (Nat.le_of_ble_eq_true rfl) (jp_12_1 cI cL ad σ7 τ x19) (hts _ kw_16_21) (fun _ h9 => h9) rfl (by decide +kernel) rfl rfl dX10_add_55 (fun σ20 H locs eσ20 hP hS => ?_)
        have z21 : (σ20 12 0).toInt = (σ 12 0).toInt + 1 := ((congrArg Int32.toInt (show σ20 12 0 = x5 from ((jkp 0 eσ20 (by decide)).trans ((congrFun (jnp 12 eσ7 (by decide)) 0).trans (jsp eσ6))))).trans tx5)
        have w22 : ∀ k : Nat, k < 160 → 0 ≤ (σ20 13 k).toInt ∧ (σ20 13 k).toInt ≤ 30000 := (jrr_fr (jnp 13 eσ20 (by decide)) (by rw [eσ7]; exact jrr_up (jrr_fr (jnp 13 eσ6 (by decide)) w2) (by have h9 := t1; omega) (by have h9 := t1; omega)))
        have I23 : jI12 σ20 := ⟨(by omega), w22⟩
        exact hret σ20 τ _ _ _ _ ⟨rfl, (fun i hi => ((jnp i eσ20 (imp_26 i hi)).trans ((jnp i eσ7 (imp_25 i hi)).trans (jnp i eσ6 (imp_26 i hi))))), (fun i hi => ((jkp i eσ20 (imp_23 i hi)).trans ((congrFun (jnp 12 eσ7 (by decide)) i).trans (jkp i eσ6 (imp_24 i hi))))), I23, trivial⟩ hP hS dX10_add_58
  · have kc3 := jnlt c3 rfl jz_160
    exact hret σ τ _ _ _ _ ⟨rfl, (fun _ _ => rfl), (fun _ _ => rfl), hI12, trivial⟩ hP hS dX10_add_10
set_option maxHeartbeats 4000000 in
set_option maxRecDepth 100000 in
theorem c_X10_copyFrom_18 (l : Launch) (D : va_G) (cI cL : ClassId) (ad zz : Nat → Nat) (hJ : jD ad) (σ : Nat → Nat → Int32) (τ : Nat → Nat → Int64) (hI12 : jI12 σ) (hI18 : jI18 σ) : jMv l yX10_copyFrom cX10_copyFrom 2 none ({ frames := 1, cells := 0, slots := 0, locals := 40 }) D cI cL ad zz [.ref (ad 18), .ref (ad 12)] σ τ (fun σ' τ' => τ = τ' ∧ (∀ i : Nat, (i < 18 ∨ 19 < i) → σ' i = σ i) ∧ (∀ k : Nat, (k < 0 ∨ 0 < k) ∧ (k < 1 ∨ 1 < k) → σ' 18 k = σ 18 k) ∧ (jI18 σ') ∧ True) := by
  refine jMv.of hJ (by decide +kernel) rfl (Nat.le_of_ble_eq_true rfl) ?_
  intro p e s m args below meth c Q ls hC hret hl hP
  obtain ⟨hx, hb, hr, hml, hown, hts, hK, -, hlocks, hZ⟩ := hC
  have hown : s.vm.findClass RX10 = some m.cls := hown
  have hS : va_S (jA ad) s.heap s.heap [] := va_S.rf
  have hA : ∀ q, jA ad q → jA ad q := fun _ h => h
  have hl : lv_has ls 2 [(0, .ref (ad 18)), (1, .ref (ad 12))] := hl
  obtain ⟨i1, w2⟩ : (0 ≤ (σ 12 0).toInt ∧ (σ 12 0).toInt ≤ 160) ∧ (∀ k : Nat, k < 160 → 0 ≤ (σ 13 k).toInt ∧ (σ 13 k).toInt ≤ 30000) := id hI12
  obtain ⟨i3, w4⟩ : (0 ≤ (σ 18 0).toInt ∧ (σ 18 0).toInt ≤ 160) ∧ (∀ k : Nat, k < 160 → 0 ≤ (σ 19 k).toInt ∧ (σ 19 k).toInt ≤ 30000) := id hI18
  refine lv_aload_n hx hb dX10_copyFrom_0 rfl (lv_at hl 0 rfl) ?_
  refine lv_aload_n hx hb dX10_copyFrom_1 rfl (lv_at hl 1 rfl) ?_
  refine va_get (D := D) hx hb hts inlX10 hown hK hP 12 (jc_12 cI cL ad σ τ) rfl 0 (by decide) (hts _ kw_16_20) (fun _ h9 => h9) rfl dX10_copyFrom_2 ?_
  refine jput (ty := .int) hx hb hts inlX10 tyX10 tyX10_ok nmX10 hown hK hP hJ hA hS (jc_18 cI cL ad σ τ) rfl (k := 0) (by decide) (Nat.le_of_ble_eq_true rfl) (jp_18_0 cI cL ad σ τ (σ 12 0)) (hts _ kw_16_20) (fun _ h9 => h9) rfl (by decide +kernel) rfl rfl dX10_copyFrom_5 (fun σ5 H locs eσ5 hP hS => ?_)
  refine lv_aload_n hx hb dX10_copyFrom_8 rfl (lv_at hl 0 rfl) ?_
  refine lv_aload_n hx hb dX10_copyFrom_9 rfl (lv_at hl 1 rfl) ?_
  refine va_get (D := D) hx hb hts inlX10 hown hK hP 12 (jc_12 cI cL ad σ5 τ) rfl 1 (by decide) (hts _ kw_16_21) (fun _ h9 => h9) rfl dX10_copyFrom_10 ?_
  have m6 : σ5 12 1 = (σ 12 1) := (congrFun (jnp 12 eσ5 (by decide)) 1)
  refine jtopr m6 ?_
  refine jput (ty := .int) hx hb hts inlX10 tyX10 tyX10_ok nmX10 hown hK hP hJ hA hS (jc_18 cI cL ad σ5 τ) rfl (k := 1) (by decide) (Nat.le_of_ble_eq_true rfl) (jp_18_1 cI cL ad σ5 τ (σ 12 1)) (hts _ kw_16_21) (fun _ h9 => h9) rfl (by decide +kernel) rfl rfl dX10_copyFrom_13 (fun σ7 H locs eσ7 hP hS => ?_)
  refine lv_aload_n hx hb dX10_copyFrom_16 rfl (lv_at hl 1 rfl) ?_
  refine va_get (D := D) hx hb hts inlX10 hown hK hP 12 (jc_12 cI cL ad σ7 τ) rfl 2 (by decide) (hts _ kw_4_3) (fun _ h9 => h9) rfl dX10_copyFrom_17 ?_
  refine lv_iconst (v := 0) hx hb dX10_copyFrom_20 (by decide) ?_
  refine lv_aload_n hx hb dX10_copyFrom_21 rfl (lv_at hl 0 rfl) ?_
  refine va_get (D := D) hx hb hts inlX10 hown hK hP 18 (jc_18 cI cL ad σ7 τ) rfl 2 (by decide) (hts _ kw_4_3) (fun _ h9 => h9) rfl dX10_copyFrom_22 ?_
  refine lv_iconst (v := 0) hx hb dX10_copyFrom_25 (by decide) ?_
  refine lv_aload_n hx hb dX10_copyFrom_26 rfl (lv_at hl 0 rfl) ?_
  refine va_get (D := D) hx hb hts inlX10 hown hK hP 18 (jc_18 cI cL ad σ7 τ) rfl 0 (by decide) (hts _ kw_16_20) (fun _ h9 => h9) rfl dX10_copyFrom_27 ?_
  have m8 : σ7 18 0 = (σ 12 0) := ((jkp 0 eσ7 (by decide)).trans (jsp eσ5))
  refine jtopr m8 ?_
  refine jcpyI (q0 := 13) (q1 := 19) hx hb (hml.trans hl.1.symm) hown (hts _ kw_18_2) (hts _ kw_13_23) (hts _ kw_14_0) (hts _ kw_14_1) hK hP hJ hA hS (jc_13 cI cL ad σ7 τ) (jc_19 cI cL ad σ7 τ) (fun _ => rfl) jz_0 jz_0 rfl (by omega) (by omega) (by omega) (by omega) (by omega) (Nat.le_of_ble_eq_true rfl) (Nat.le_of_ble_eq_true rfl) dX10_copyFrom_30 (fun σ9 H locs eσ9 hP hS => ?_)
  have w10 : ∀ k : Nat, k < 160 → 0 ≤ (σ7 13 k).toInt ∧ (σ7 13 k).toInt ≤ 30000 := (jrr_fr (jnp 13 eσ7 (by decide)) (jrr_fr (jnp 13 eσ5 (by decide)) w2))
  have w11 : ∀ k : Nat, k < 160 → 0 ≤ (σ7 19 k).toInt ∧ (σ7 19 k).toInt ≤ 30000 := (jrr_fr (jnp 19 eσ7 (by decide)) (jrr_fr (jnp 19 eσ5 (by decide)) w4))
  have f12 : (∀ i : Nat, (i < 19 ∨ 19 < i) → σ9 i = σ7 i) := by rw [eσ9]; exact jrow_n
  have w13 : ∀ k : Nat, k < 160 → 0 ≤ (σ9 19 k).toInt ∧ (σ9 19 k).toInt ≤ 30000 := by rw [eσ9]; exact jrow_rr w10 w11 jz_0 rfl (n0 := 160) (by omega) (by omega) (by omega)
  have z14 : (σ9 18 0).toInt = (σ 12 0).toInt := (congrArg Int32.toInt (show σ9 18 0 = (σ 12 0) from ((congrFun (f12 18 (by decide)) 0).trans m8)))
  have I15 : jI18 σ9 := ⟨(by omega), w13⟩
  exact hret σ9 τ _ _ _ _ ⟨rfl, (fun i hi => ((f12 i (imp_27 i hi)).trans ((jnp i eσ7 (imp_28 i hi)).trans (jnp i eσ5 (imp_28 i hi))))), (fun i hi => ((congrFun (f12 18 (by decide)) i).trans ((jkp i eσ7 (imp_23 i hi)).trans (jkp i eσ5 (imp_24 i hi))))), I15, trivial⟩ hP hS dX10_copyFrom_33
set_option maxHeartbeats 4000000 in
set_option maxRecDepth 100000 in
theorem c_X10_say_18 (l : Launch) (D : va_G) (cI cL : ClassId) (ad zz : Nat → Nat) (hJ : jD ad) (σ : Nat → Nat → Int32) (τ : Nat → Nat → Int64) (a1 : Int32) (A1 : Int) (t1 : a1.toInt = A1) (a2 : Int32) (A2 : Int) (t2 : a2.toInt = A2) (a3 : Int32) (A3 : Int) (t3 : a3.toInt = A3) (a4 : Int32) (A4 : Int) (t4 : a4.toInt = A4) (a5 : Int32) (A5 : Int) (t5 : a5.toInt = A5) (a6 : Int32) (A6 : Int) (t6 : a6.toInt = A6) : jMv l yX10_say cX10_say 7 none ({ frames := 0, cells := 0, slots := 0, locals := 0 }) D cI cL ad zz [.ref (ad 18), .int a1, .int a2, .int a3, .int a4, .int a5, .int a6] σ τ (fun σ' τ' => τ = τ' ∧ (∀ i : Nat, (i < 20 ∨ 20 < i) → σ' i = σ i) ∧ True) := by
  refine jMv.of hJ (by decide +kernel) rfl (Nat.le_of_ble_eq_true rfl) ?_
  intro p e s m args below meth c Q ls hC hret hl hP
  obtain ⟨hx, hb, hr, hml, hown, hts, hK, -, hlocks, hZ⟩ := hC
  have hown : s.vm.findClass RX10 = some m.cls := hown
  have hS : va_S (jA ad) s.heap s.heap [] := va_S.rf
  have hA : ∀ q, jA ad q → jA ad q := fun _ h => h
  have hl : lv_has ls 7 [(0, .ref (ad 18)), (1, .int a1), (2, .int a2), (3, .int a3), (4, .int a4), (5, .int a5), (6, .int a6)] := hl
  have g1 := jrg t1
  have g2 := jrg t2
  have g3 := jrg t3
  have g4 := jrg t4
  have g5 := jrg t5
  have g6 := jrg t6
  refine lv_aload_n hx hb dX10_say_0 rfl (lv_at hl 0 rfl) ?_
  refine va_get (D := D) hx hb hts inlX10 hown hK hP 18 (jc_18 cI cL ad σ τ) rfl 3 (by decide) (hts _ kw_4_4) (fun _ h9 => h9) rfl dX10_say_1 ?_
  refine lv_iconst (v := 0) hx hb dX10_say_4 (by decide) ?_
  refine lv_iload_n hx hb dX10_say_5 rfl (lv_at hl 1 rfl) ?_
  refine jast hx hb hK hP hJ hA hS (jc_20 cI cL ad σ τ) (ja_20 cI cL ad σ τ _ _) (jin jz_0 (by omega) (by omega)) dX10_say_6 (fun σ1 H locs eσ1 hP hS => ?_)
  have eσ1 : σ1 = jup σ 20 0 a1 := eσ1
  refine lv_aload_n hx hb dX10_say_7 rfl (lv_at hl 0 rfl) ?_
  refine va_get (D := D) hx hb hts inlX10 hown hK hP 18 (jc_18 cI cL ad σ1 τ) rfl 3 (by decide) (hts _ kw_4_4) (fun _ h9 => h9) rfl dX10_say_8 ?_
  refine lv_iconst (v := 1) hx hb dX10_say_11 (by decide) ?_
  refine lv_iload_n hx hb dX10_say_12 rfl (lv_at hl 2 rfl) ?_
  refine jast hx hb hK hP hJ hA hS (jc_20 cI cL ad σ1 τ) (ja_20 cI cL ad σ1 τ _ _) (jin jz_1 (by omega) (by omega)) dX10_say_13 (fun σ2 H locs eσ2 hP hS => ?_)
  have eσ2 : σ2 = jup σ1 20 1 a2 := eσ2
  refine lv_aload_n hx hb dX10_say_14 rfl (lv_at hl 0 rfl) ?_
  refine va_get (D := D) hx hb hts inlX10 hown hK hP 18 (jc_18 cI cL ad σ2 τ) rfl 3 (by decide) (hts _ kw_4_4) (fun _ h9 => h9) rfl dX10_say_15 ?_
  refine lv_iconst (v := 2) hx hb dX10_say_18 (by decide) ?_
  refine lv_iload_n hx hb dX10_say_19 rfl (lv_at hl 3 rfl) ?_
  refine jast hx hb hK hP hJ hA hS (jc_20 cI cL ad σ2 τ) (ja_20 cI cL ad σ2 τ _ _) (jin jz_2 (by omega) (by omega)) dX10_say_20 (fun σ3 H locs eσ3 hP hS => ?_)
  have eσ3 : σ3 = jup σ2 20 2 a3 := eσ3
  refine lv_aload_n hx hb dX10_say_21 rfl (lv_at hl 0 rfl) ?_
  refine va_get (D := D) hx hb hts inlX10 hown hK hP 18 (jc_18 cI cL ad σ3 τ) rfl 3 (by decide) (hts _ kw_4_4) (fun _ h9 => h9) rfl dX10_say_22 ?_
  refine lv_iconst (v := 3) hx hb dX10_say_25 (by decide) ?_
  refine lv_iload hx hb dX10_say_26 (lv_at hl 4 rfl) ?_
  refine jast hx hb hK hP hJ hA hS (jc_20 cI cL ad σ3 τ) (ja_20 cI cL ad σ3 τ _ _) (jin jz_3 (by omega) (by omega)) dX10_say_28 (fun σ4 H locs eσ4 hP hS => ?_)
  have eσ4 : σ4 = jup σ3 20 3 a4 := eσ4
  refine lv_aload_n hx hb dX10_say_29 rfl (lv_at hl 0 rfl) ?_
  refine va_get (D := D) hx hb hts inlX10 hown hK hP 18 (jc_18 cI cL ad σ4 τ) rfl 3 (by decide) (hts _ kw_4_4) (fun _ h9 => h9) rfl dX10_say_30 ?_
  refine lv_iconst (v := 4) hx hb dX10_say_33 (by decide) ?_
  refine lv_iload hx hb dX10_say_34 (lv_at hl 5 rfl) ?_
  refine jast hx hb hK hP hJ hA hS (jc_20 cI cL ad σ4 τ) (ja_20 cI cL ad σ4 τ _ _) (jin jz_4 (by omega) (by omega)) dX10_say_36 (fun σ5 H locs eσ5 hP hS => ?_)
  have eσ5 : σ5 = jup σ4 20 4 a5 := eσ5
  refine lv_aload_n hx hb dX10_say_37 rfl (lv_at hl 0 rfl) ?_
  refine va_get (D := D) hx hb hts inlX10 hown hK hP 18 (jc_18 cI cL ad σ5 τ) rfl 3 (by decide) (hts _ kw_4_4) (fun _ h9 => h9) rfl dX10_say_38 ?_
  refine lv_iconst (v := 5) hx hb dX10_say_41 (by decide) ?_
  refine lv_iload hx hb dX10_say_42 (lv_at hl 6 rfl) ?_
  refine jast hx hb hK hP hJ hA hS (jc_20 cI cL ad σ5 τ) (ja_20 cI cL ad σ5 τ _ _) (jin jz_5 (by omega) (by omega)) dX10_say_44 (fun σ6 H locs eσ6 hP hS => ?_)
  have eσ6 : σ6 = jup σ5 20 5 a6 := eσ6
  exact hret σ6 τ _ _ _ _ ⟨rfl, (fun i hi => ((jnp i eσ6 (imp_29 i hi)).trans ((jnp i eσ5 (imp_29 i hi)).trans ((jnp i eσ4 (imp_29 i hi)).trans ((jnp i eσ3 (imp_29 i hi)).trans ((jnp i eσ2 (imp_29 i hi)).trans (jnp i eσ1 (imp_29 i hi)))))))), trivial⟩ hP hS dX10_say_45
set_option maxHeartbeats 4000000 in
set_option maxRecDepth 100000 in
theorem c_X10_sayChance_18 (l : Launch) (D : va_G) (cI cL : ClassId) (ad zz : Nat → Nat) (hJ : jD ad) (σ : Nat → Nat → Int32) (τ : Nat → Nat → Int64) (a1 : Int32) (A1 : Int) (t1 : a1.toInt = A1) (a2 : Int32) (A2 : Int) (t2 : a2.toInt = A2) : jMv l yX10_sayChance cX10_sayChance 3 none ({ frames := 0, cells := 0, slots := 0, locals := 0 }) D cI cL ad zz [.ref (ad 18), .int a1, .int a2] σ τ (fun σ' τ' => τ = τ' ∧ (∀ i : Nat, (i < 20 ∨ 20 < i) → σ' i = σ i) ∧ True) := by
  refine jMv.of hJ (by decide +kernel) rfl (Nat.le_of_ble_eq_true rfl) ?_
  intro p e s m args below meth c Q ls hC hret hl hP
  obtain ⟨hx, hb, hr, hml, hown, hts, hK, -, hlocks, hZ⟩ := hC
  have hown : s.vm.findClass RX10 = some m.cls := hown
  have hS : va_S (jA ad) s.heap s.heap [] := va_S.rf
  have hA : ∀ q, jA ad q → jA ad q := fun _ h => h
  have hl : lv_has ls 3 [(0, .ref (ad 18)), (1, .int a1), (2, .int a2)] := hl
  have g1 := jrg t1
  have g2 := jrg t2
  refine lv_aload_n hx hb dX10_sayChance_0 rfl (lv_at hl 0 rfl) ?_
  refine va_get (D := D) hx hb hts inlX10 hown hK hP 18 (jc_18 cI cL ad σ τ) rfl 3 (by decide) (hts _ kw_4_4) (fun _ h9 => h9) rfl dX10_sayChance_1 ?_
  refine lv_bipush (v := 6) hx hb dX10_sayChance_4 (by decide) ?_
  refine lv_iload_n hx hb dX10_sayChance_6 rfl (lv_at hl 1 rfl) ?_
  refine jast hx hb hK hP hJ hA hS (jc_20 cI cL ad σ τ) (ja_20 cI cL ad σ τ _ _) (jin jz_6 (by omega) (by omega)) dX10_sayChance_7 (fun σ1 H locs eσ1 hP hS => ?_)
  have eσ1 : σ1 = jup σ 20 6 a1 := eσ1
  refine lv_aload_n hx hb dX10_sayChance_8 rfl (lv_at hl 0 rfl) ?_
  refine va_get (D := D) hx hb hts inlX10 hown hK hP 18 (jc_18 cI cL ad σ1 τ) rfl 3 (by decide) (hts _ kw_4_4) (fun _ h9 => h9) rfl dX10_sayChance_9 ?_
  refine lv_bipush (v := 7) hx hb dX10_sayChance_12 (by decide) ?_
  refine lv_iload_n hx hb dX10_sayChance_14 rfl (lv_at hl 2 rfl) ?_
  refine jast hx hb hK hP hJ hA hS (jc_20 cI cL ad σ1 τ) (ja_20 cI cL ad σ1 τ _ _) (jin jz_7 (by omega) (by omega)) dX10_sayChance_15 (fun σ2 H locs eσ2 hP hS => ?_)
  have eσ2 : σ2 = jup σ1 20 7 a2 := eσ2
  exact hret σ2 τ _ _ _ _ ⟨rfl, (fun i hi => ((jnp i eσ2 (imp_29 i hi)).trans (jnp i eσ1 (imp_29 i hi)))), trivial⟩ hP hS dX10_sayChance_16
set_option maxHeartbeats 4000000 in
set_option maxRecDepth 100000 in
theorem c_X10_copyFrom_22 (l : Launch) (D : va_G) (cI cL : ClassId) (ad zz : Nat → Nat) (hJ : jD ad) (σ : Nat → Nat → Int32) (τ : Nat → Nat → Int64) (hI12 : jI12 σ) (hI22 : jI22 σ) : jMv l yX10_copyFrom cX10_copyFrom 2 none ({ frames := 1, cells := 0, slots := 0, locals := 40 }) D cI cL ad zz [.ref (ad 22), .ref (ad 12)] σ τ (fun σ' τ' => τ = τ' ∧ (∀ i : Nat, (i < 22 ∨ 23 < i) → σ' i = σ i) ∧ (∀ k : Nat, (k < 0 ∨ 0 < k) ∧ (k < 1 ∨ 1 < k) → σ' 22 k = σ 22 k) ∧ (jI22 σ') ∧ True) := by
  refine jMv.of hJ (by decide +kernel) rfl (Nat.le_of_ble_eq_true rfl) ?_
  intro p e s m args below meth c Q ls hC hret hl hP
  obtain ⟨hx, hb, hr, hml, hown, hts, hK, -, hlocks, hZ⟩ := hC
  have hown : s.vm.findClass RX10 = some m.cls := hown
  have hS : va_S (jA ad) s.heap s.heap [] := va_S.rf
  have hA : ∀ q, jA ad q → jA ad q := fun _ h => h
  have hl : lv_has ls 2 [(0, .ref (ad 22)), (1, .ref (ad 12))] := hl
  obtain ⟨i1, w2⟩ : (0 ≤ (σ 12 0).toInt ∧ (σ 12 0).toInt ≤ 160) ∧ (∀ k : Nat, k < 160 → 0 ≤ (σ 13 k).toInt ∧ (σ 13 k).toInt ≤ 30000) := id hI12
  obtain ⟨i3, w4⟩ : (0 ≤ (σ 22 0).toInt ∧ (σ 22 0).toInt ≤ 160) ∧ (∀ k : Nat, k < 160 → 0 ≤ (σ 23 k).toInt ∧ (σ 23 k).toInt ≤ 30000) := id hI22
  refine lv_aload_n hx hb dX10_copyFrom_0 rfl (lv_at hl 0 rfl) ?_
  refine lv_aload_n hx hb dX10_copyFrom_1 rfl (lv_at hl 1 rfl) ?_
  refine va_get (D := D) hx hb hts inlX10 hown hK hP 12 (jc_12 cI cL ad σ τ) rfl 0 (by decide) (hts _ kw_16_20) (fun _ h9 => h9) rfl dX10_copyFrom_2 ?_
  refine jput (ty := .int) hx hb hts inlX10 tyX10 tyX10_ok nmX10 hown hK hP hJ hA hS (jc_22 cI cL ad σ τ) rfl (k := 0) (by decide) (Nat.le_of_ble_eq_true rfl) (jp_22_0 cI cL ad σ τ (σ 12 0)) (hts _ kw_16_20) (fun _ h9 => h9) rfl (by decide +kernel) rfl rfl dX10_copyFrom_5 (fun σ5 H locs eσ5 hP hS => ?_)
  refine lv_aload_n hx hb dX10_copyFrom_8 rfl (lv_at hl 0 rfl) ?_
  refine lv_aload_n hx hb dX10_copyFrom_9 rfl (lv_at hl 1 rfl) ?_
  refine va_get (D := D) hx hb hts inlX10 hown hK hP 12 (jc_12 cI cL ad σ5 τ) rfl 1 (by decide) (hts _ kw_16_21) (fun _ h9 => h9) rfl dX10_copyFrom_10 ?_
  have m6 : σ5 12 1 = (σ 12 1) := (congrFun (jnp 12 eσ5 (by decide)) 1)
  refine jtopr m6 ?_
  refine jput (ty := .int) hx hb hts inlX10 tyX10 tyX10_ok nmX10 hown hK hP hJ hA hS (jc_22 cI cL ad σ5 τ) rfl (k := 1) (by decide) (Nat.le_of_ble_eq_true rfl) (jp_22_1 cI cL ad σ5 τ (σ 12 1)) (hts _ kw_16_21) (fun _ h9 => h9) rfl (by decide +kernel) rfl rfl dX10_copyFrom_13 (fun σ7 H locs eσ7 hP hS => ?_)
  refine lv_aload_n hx hb dX10_copyFrom_16 rfl (lv_at hl 1 rfl) ?_
  refine va_get (D := D) hx hb hts inlX10 hown hK hP 12 (jc_12 cI cL ad σ7 τ) rfl 2 (by decide) (hts _ kw_4_3) (fun _ h9 => h9) rfl dX10_copyFrom_17 ?_
  refine lv_iconst (v := 0) hx hb dX10_copyFrom_20 (by decide) ?_
  refine lv_aload_n hx hb dX10_copyFrom_21 rfl (lv_at hl 0 rfl) ?_
  refine va_get (D := D) hx hb hts inlX10 hown hK hP 22 (jc_22 cI cL ad σ7 τ) rfl 2 (by decide) (hts _ kw_4_3) (fun _ h9 => h9) rfl dX10_copyFrom_22 ?_
  refine lv_iconst (v := 0) hx hb dX10_copyFrom_25 (by decide) ?_
  refine lv_aload_n hx hb dX10_copyFrom_26 rfl (lv_at hl 0 rfl) ?_
  refine va_get (D := D) hx hb hts inlX10 hown hK hP 22 (jc_22 cI cL ad σ7 τ) rfl 0 (by decide) (hts _ kw_16_20) (fun _ h9 => h9) rfl dX10_copyFrom_27 ?_
  have m8 : σ7 22 0 = (σ 12 0) := ((jkp 0 eσ7 (by decide)).trans (jsp eσ5))
  refine jtopr m8 ?_
  refine jcpyI (q0 := 13) (q1 := 23) hx hb (hml.trans hl.1.symm) hown (hts _ kw_18_2) (hts _ kw_13_23) (hts _ kw_14_0) (hts _ kw_14_1) hK hP hJ hA hS (jc_13 cI cL ad σ7 τ) (jc_23 cI cL ad σ7 τ) (fun _ => rfl) jz_0 jz_0 rfl (by omega) (by omega) (by omega) (by omega) (by omega) (Nat.le_of_ble_eq_true rfl) (Nat.le_of_ble_eq_true rfl) dX10_copyFrom_30 (fun σ9 H locs eσ9 hP hS => ?_)
  have w10 : ∀ k : Nat, k < 160 → 0 ≤ (σ7 13 k).toInt ∧ (σ7 13 k).toInt ≤ 30000 := (jrr_fr (jnp 13 eσ7 (by decide)) (jrr_fr (jnp 13 eσ5 (by decide)) w2))
  have w11 : ∀ k : Nat, k < 160 → 0 ≤ (σ7 23 k).toInt ∧ (σ7 23 k).toInt ≤ 30000 := (jrr_fr (jnp 23 eσ7 (by decide)) (jrr_fr (jnp 23 eσ5 (by decide)) w4))
  have f12 : (∀ i : Nat, (i < 23 ∨ 23 < i) → σ9 i = σ7 i) := by rw [eσ9]; exact jrow_n
  have w13 : ∀ k : Nat, k < 160 → 0 ≤ (σ9 23 k).toInt ∧ (σ9 23 k).toInt ≤ 30000 := by rw [eσ9]; exact jrow_rr w10 w11 jz_0 rfl (n0 := 160) (by omega) (by omega) (by omega)
  have z14 : (σ9 22 0).toInt = (σ 12 0).toInt := (congrArg Int32.toInt (show σ9 22 0 = (σ 12 0) from ((congrFun (f12 22 (by decide)) 0).trans m8)))
  have I15 : jI22 σ9 := ⟨(by omega), w13⟩
  exact hret σ9 τ _ _ _ _ ⟨rfl, (fun i hi => ((f12 i (imp_30 i hi)).trans ((jnp i eσ7 (imp_31 i hi)).trans (jnp i eσ5 (imp_31 i hi))))), (fun i hi => ((congrFun (f12 22 (by decide)) i).trans ((jkp i eσ7 (imp_23 i hi)).trans (jkp i eσ5 (imp_24 i hi))))), I15, trivial⟩ hP hS dX10_copyFrom_33
set_option maxHeartbeats 4000000 in
set_option maxRecDepth 100000 in
theorem c_X10_say_22 (l : Launch) (D : va_G) (cI cL : ClassId) (ad zz : Nat → Nat) (hJ : jD ad) (σ : Nat → Nat → Int32) (τ : Nat → Nat → Int64) (a1 : Int32) (A1 : Int) (t1 : a1.toInt = A1) (a2 : Int32) (A2 : Int) (t2 : a2.toInt = A2) (a3 : Int32) (A3 : Int) (t3 : a3.toInt = A3) (a4 : Int32) (A4 : Int) (t4 : a4.toInt = A4) (a5 : Int32) (A5 : Int) (t5 : a5.toInt = A5) (a6 : Int32) (A6 : Int) (t6 : a6.toInt = A6) : jMv l yX10_say cX10_say 7 none ({ frames := 0, cells := 0, slots := 0, locals := 0 }) D cI cL ad zz [.ref (ad 22), .int a1, .int a2, .int a3, .int a4, .int a5, .int a6] σ τ (fun σ' τ' => τ = τ' ∧ (∀ i : Nat, (i < 24 ∨ 24 < i) → σ' i = σ i) ∧ True) := by
  refine jMv.of hJ (by decide +kernel) rfl (Nat.le_of_ble_eq_true rfl) ?_
  intro p e s m args below meth c Q ls hC hret hl hP
  obtain ⟨hx, hb, hr, hml, hown, hts, hK, -, hlocks, hZ⟩ := hC
  have hown : s.vm.findClass RX10 = some m.cls := hown
  have hS : va_S (jA ad) s.heap s.heap [] := va_S.rf
  have hA : ∀ q, jA ad q → jA ad q := fun _ h => h
  have hl : lv_has ls 7 [(0, .ref (ad 22)), (1, .int a1), (2, .int a2), (3, .int a3), (4, .int a4), (5, .int a5), (6, .int a6)] := hl
  have g1 := jrg t1
  have g2 := jrg t2
  have g3 := jrg t3
  have g4 := jrg t4
  have g5 := jrg t5
  have g6 := jrg t6
  refine lv_aload_n hx hb dX10_say_0 rfl (lv_at hl 0 rfl) ?_
  refine va_get (D := D) hx hb hts inlX10 hown hK hP 22 (jc_22 cI cL ad σ τ) rfl 3 (by decide) (hts _ kw_4_4) (fun _ h9 => h9) rfl dX10_say_1 ?_
  refine lv_iconst (v := 0) hx hb dX10_say_4 (by decide) ?_
  refine lv_iload_n hx hb dX10_say_5 rfl (lv_at hl 1 rfl) ?_
  refine jast hx hb hK hP hJ hA hS (jc_24 cI cL ad σ τ) (ja_24 cI cL ad σ τ _ _) (jin jz_0 (by omega) (by omega)) dX10_say_6 (fun σ1 H locs eσ1 hP hS => ?_)
  have eσ1 : σ1 = jup σ 24 0 a1 := eσ1
  refine lv_aload_n hx hb dX10_say_7 rfl (lv_at hl 0 rfl) ?_
  refine va_get (D := D) hx hb hts inlX10 hown hK hP 22 (jc_22 cI cL ad σ1 τ) rfl 3 (by decide) (hts _ kw_4_4) (fun _ h9 => h9) rfl dX10_say_8 ?_
  refine lv_iconst (v := 1) hx hb dX10_say_11 (by decide) ?_
  refine lv_iload_n hx hb dX10_say_12 rfl (lv_at hl 2 rfl) ?_
  refine jast hx hb hK hP hJ hA hS (jc_24 cI cL ad σ1 τ) (ja_24 cI cL ad σ1 τ _ _) (jin jz_1 (by omega) (by omega)) dX10_say_13 (fun σ2 H locs eσ2 hP hS => ?_)
  have eσ2 : σ2 = jup σ1 24 1 a2 := eσ2
  refine lv_aload_n hx hb dX10_say_14 rfl (lv_at hl 0 rfl) ?_
  refine va_get (D := D) hx hb hts inlX10 hown hK hP 22 (jc_22 cI cL ad σ2 τ) rfl 3 (by decide) (hts _ kw_4_4) (fun _ h9 => h9) rfl dX10_say_15 ?_
  refine lv_iconst (v := 2) hx hb dX10_say_18 (by decide) ?_
  refine lv_iload_n hx hb dX10_say_19 rfl (lv_at hl 3 rfl) ?_
  refine jast hx hb hK hP hJ hA hS (jc_24 cI cL ad σ2 τ) (ja_24 cI cL ad σ2 τ _ _) (jin jz_2 (by omega) (by omega)) dX10_say_20 (fun σ3 H locs eσ3 hP hS => ?_)
  have eσ3 : σ3 = jup σ2 24 2 a3 := eσ3
  refine lv_aload_n hx hb dX10_say_21 rfl (lv_at hl 0 rfl) ?_
  refine va_get (D := D) hx hb hts inlX10 hown hK hP 22 (jc_22 cI cL ad σ3 τ) rfl 3 (by decide) (hts _ kw_4_4) (fun _ h9 => h9) rfl dX10_say_22 ?_
  refine lv_iconst (v := 3) hx hb dX10_say_25 (by decide) ?_
  refine lv_iload hx hb dX10_say_26 (lv_at hl 4 rfl) ?_
  refine jast hx hb hK hP hJ hA hS (jc_24 cI cL ad σ3 τ) (ja_24 cI cL ad σ3 τ _ _) (jin jz_3 (by omega) (by omega)) dX10_say_28 (fun σ4 H locs eσ4 hP hS => ?_)
  have eσ4 : σ4 = jup σ3 24 3 a4 := eσ4
  refine lv_aload_n hx hb dX10_say_29 rfl (lv_at hl 0 rfl) ?_
  refine va_get (D := D) hx hb hts inlX10 hown hK hP 22 (jc_22 cI cL ad σ4 τ) rfl 3 (by decide) (hts _ kw_4_4) (fun _ h9 => h9) rfl dX10_say_30 ?_
  refine lv_iconst (v := 4) hx hb dX10_say_33 (by decide) ?_
  refine lv_iload hx hb dX10_say_34 (lv_at hl 5 rfl) ?_
  refine jast hx hb hK hP hJ hA hS (jc_24 cI cL ad σ4 τ) (ja_24 cI cL ad σ4 τ _ _) (jin jz_4 (by omega) (by omega)) dX10_say_36 (fun σ5 H locs eσ5 hP hS => ?_)
  have eσ5 : σ5 = jup σ4 24 4 a5 := eσ5
  refine lv_aload_n hx hb dX10_say_37 rfl (lv_at hl 0 rfl) ?_
  refine va_get (D := D) hx hb hts inlX10 hown hK hP 22 (jc_22 cI cL ad σ5 τ) rfl 3 (by decide) (hts _ kw_4_4) (fun _ h9 => h9) rfl dX10_say_38 ?_
  refine lv_iconst (v := 5) hx hb dX10_say_41 (by decide) ?_
  refine lv_iload hx hb dX10_say_42 (lv_at hl 6 rfl) ?_
  refine jast hx hb hK hP hJ hA hS (jc_24 cI cL ad σ5 τ) (ja_24 cI cL ad σ5 τ _ _) (jin jz_5 (by omega) (by omega)) dX10_say_44 (fun σ6 H locs eσ6 hP hS => ?_)
  have eσ6 : σ6 = jup σ5 24 5 a6 := eσ6
  exact hret σ6 τ _ _ _ _ ⟨rfl, (fun i hi => ((jnp i eσ6 (imp_32 i hi)).trans ((jnp i eσ5 (imp_32 i hi)).trans ((jnp i eσ4 (imp_32 i hi)).trans ((jnp i eσ3 (imp_32 i hi)).trans ((jnp i eσ2 (imp_32 i hi)).trans (jnp i eσ1 (imp_32 i hi)))))))), trivial⟩ hP hS dX10_say_45
set_option maxHeartbeats 4000000 in
set_option maxRecDepth 100000 in
theorem c_X10_joined (l : Launch) (D : va_G) (cI cL : ClassId) (ad zz : Nat → Nat) (hJ : jD ad) (σ : Nat → Nat → Int32) (τ : Nat → Nat → Int64) (a1 : Int32) (A1 : Int) (t1 : a1.toInt = A1) (a2 : Int32) (A2 : Int) (t2 : a2.toInt = A2) (a3 : Int32) (A3 : Int) (t3 : a3.toInt = A3) : jM l yX10_joined cX10_joined 3 (some .int) ({ frames := 0, cells := 0, slots := 0, locals := 0 }) D cI cL ad zz [.int a1, .int a2, .int a3] σ τ (fun r σ' τ' => (σ = σ' ∧ τ = τ') ∧ True) := by
  refine jM.of hJ (by decide +kernel) (nt := .int) rfl (Nat.le_of_ble_eq_true rfl) ?_
  intro p e s m args below meth c Q ls hC hret hl hP
  obtain ⟨hx, hb, hr, hml, hown, hts, hK, -, hlocks, hZ⟩ := hC
  have hown : s.vm.findClass RX10 = some m.cls := hown
  have hS : va_S (jA ad) s.heap s.heap [] := va_S.rf
  have hA : ∀ q, jA ad q → jA ad q := fun _ h => h
  have hl : lv_has ls 3 [(0, .int a1), (1, .int a2), (2, .int a3)] := hl
  have g1 := jrg t1
  have g2 := jrg t2
  have g3 := jrg t3
  refine lv_iload_n hx hb dX10_joined_0 rfl (lv_at hl 0 rfl) ?_
  by_cases c1 : a1 = 37
  · have kc1 := jeq c1 t1 jz_37
    refine jtopr c1 ?_
    refine lv_lookup (off := 176) (tgt := 177) hx hb dX10_joined_1 (by decide) (by decide) (by decide) ?_
    refine lv_iload_n hx hb dX10_joined_177 rfl (lv_at hl 2 rfl) ?_
    refine lv_if_ne (tgt := 185) hx hb dX10_joined_178 (by decide) (fun c2 => ?_) (fun c2 => ?_)
    · have kc2 := jne c2 t3 jz_0
      refine lv_iload_n hx hb dX10_joined_185 rfl (lv_at hl 1 rfl) ?_
      refine lv_iload_n hx hb dX10_joined_186 rfl (lv_at hl 2 rfl) ?_
      refine lv_irem hx hb dX10_joined_187 (fun h => absurd (jeq h t3 jz_0) (by omega)) ?_
      refine lv_topi (fun x3 ex3 => ?_)
      have gx3 := jrg (rfl : x3.toInt = x3.toInt)
      exact hret x3 σ τ _ _ _ _ rfl ⟨⟨rfl, rfl⟩, trivial⟩ hP hS dX10_joined_188
    · have kc2 := jeq c2 t3 jz_0
      refine lv_iconst (v := 0) hx hb dX10_joined_181 (by decide) ?_
      refine lv_goto (tgt := 188) hx hb dX10_joined_182 (by decide) ?_
      exact hret 0 σ τ _ _ _ _ rfl ⟨⟨rfl, rfl⟩, trivial⟩ hP hS dX10_joined_188
  have kc1 := jne c1 t1 jz_37
  by_cases c4 : a1 = 38
  · have kc4 := jeq c4 t1 jz_38
    refine jtopr c4 ?_
    refine lv_lookup (off := 105) (tgt := 106) hx hb dX10_joined_1 (by decide) (by decide) (by decide) ?_
    refine lv_iload_n hx hb dX10_joined_106 rfl (lv_at hl 1 rfl) ?_
    refine lv_if_eq (tgt := 118) hx hb dX10_joined_107 (by decide) (fun c5 => ?_) (fun c5 => ?_)
    · have kc5 := jeq c5 t2 jz_0
      refine lv_iconst (v := 0) hx hb dX10_joined_118 (by decide) ?_
      exact hret 0 σ τ _ _ _ _ rfl ⟨⟨rfl, rfl⟩, trivial⟩ hP hS dX10_joined_119
    · have kc5 := jne c5 t2 jz_0
      refine lv_iload_n hx hb dX10_joined_110 rfl (lv_at hl 2 rfl) ?_
      refine lv_if_eq (tgt := 118) hx hb dX10_joined_111 (by decide) (fun c6 => ?_) (fun c6 => ?_)
      · have kc6 := jeq c6 t3 jz_0
        refine lv_iconst (v := 0) hx hb dX10_joined_118 (by decide) ?_
        exact hret 0 σ τ _ _ _ _ rfl ⟨⟨rfl, rfl⟩, trivial⟩ hP hS dX10_joined_119
      · have kc6 := jne c6 t3 jz_0
        refine lv_iconst (v := 1) hx hb dX10_joined_114 (by decide) ?_
        refine lv_goto (tgt := 119) hx hb dX10_joined_115 (by decide) ?_
        exact hret 1 σ τ _ _ _ _ rfl ⟨⟨rfl, rfl⟩, trivial⟩ hP hS dX10_joined_119
  have kc4 := jne c4 t1 jz_38
  by_cases c7 : a1 = 42
  · have kc7 := jeq c7 t1 jz_42
    refine jtopr c7 ?_
    refine lv_lookup (off := 160) (tgt := 161) hx hb dX10_joined_1 (by decide) (by decide) (by decide) ?_
    refine lv_iload_n hx hb dX10_joined_161 rfl (lv_at hl 1 rfl) ?_
    refine lv_iload_n hx hb dX10_joined_162 rfl (lv_at hl 2 rfl) ?_
    refine lv_imul hx hb dX10_joined_163 ?_
    refine lv_topi (fun x8 ex8 => ?_)
    have gx8 := jrg (rfl : x8.toInt = x8.toInt)
    exact hret x8 σ τ _ _ _ _ rfl ⟨⟨rfl, rfl⟩, trivial⟩ hP hS dX10_joined_164
  have kc7 := jne c7 t1 jz_42
  by_cases c9 : a1 = 43
  · have kc9 := jeq c9 t1 jz_43
    refine jtopr c9 ?_
    refine lv_lookup (off := 152) (tgt := 153) hx hb dX10_joined_1 (by decide) (by decide) (by decide) ?_
    refine lv_iload_n hx hb dX10_joined_153 rfl (lv_at hl 1 rfl) ?_
    refine lv_iload_n hx hb dX10_joined_154 rfl (lv_at hl 2 rfl) ?_
    refine lv_iadd hx hb dX10_joined_155 ?_
    refine lv_topi (fun x10 ex10 => ?_)
    have gx10 := jrg (rfl : x10.toInt = x10.toInt)
    exact hret x10 σ τ _ _ _ _ rfl ⟨⟨rfl, rfl⟩, trivial⟩ hP hS dX10_joined_156
  have kc9 := jne c9 t1 jz_43
  by_cases c11 : a1 = 45
  · have kc11 := jeq c11 t1 jz_45
    refine jtopr c11 ?_
    refine lv_lookup (off := 156) (tgt := 157) hx hb dX10_joined_1 (by decide) (by decide) (by decide) ?_
    refine lv_iload_n hx hb dX10_joined_157 rfl (lv_at hl 1 rfl) ?_
    refine lv_iload_n hx hb dX10_joined_158 rfl (lv_at hl 2 rfl) ?_
    refine lv_isub hx hb dX10_joined_159 ?_
    refine lv_topi (fun x12 ex12 => ?_)
    have gx12 := jrg (rfl : x12.toInt = x12.toInt)
    exact hret x12 σ τ _ _ _ _ rfl ⟨⟨rfl, rfl⟩, trivial⟩ hP hS dX10_joined_160
  have kc11 := jne c11 t1 jz_45
  by_cases c13 : a1 = 47
  · have kc13 := jeq c13 t1 jz_47
    refine jtopr c13 ?_
    refine lv_lookup (off := 164) (tgt := 165) hx hb dX10_joined_1 (by decide) (by decide) (by decide) ?_
    refine lv_iload_n hx hb dX10_joined_165 rfl (lv_at hl 2 rfl) ?_
    refine lv_if_ne (tgt := 173) hx hb dX10_joined_166 (by decide) (fun c14 => ?_) (fun c14 => ?_)
    · have kc14 := jne c14 t3 jz_0
      refine lv_iload_n hx hb dX10_joined_173 rfl (lv_at hl 1 rfl) ?_
      refine lv_iload_n hx hb dX10_joined_174 rfl (lv_at hl 2 rfl) ?_
      refine lv_idiv hx hb dX10_joined_175 (fun h => absurd (jeq h t3 jz_0) (by omega)) ?_
      refine lv_topi (fun x15 ex15 => ?_)
      have gx15 := jrg (rfl : x15.toInt = x15.toInt)
      exact hret x15 σ τ _ _ _ _ rfl ⟨⟨rfl, rfl⟩, trivial⟩ hP hS dX10_joined_176
    · have kc14 := jeq c14 t3 jz_0
      refine lv_iconst (v := 0) hx hb dX10_joined_169 (by decide) ?_
      refine lv_goto (tgt := 176) hx hb dX10_joined_170 (by decide) ?_
      exact hret 0 σ τ _ _ _ _ rfl ⟨⟨rfl, rfl⟩, trivial⟩ hP hS dX10_joined_176
  have kc13 := jne c13 t1 jz_47
  by_cases c16 : a1 = 60
  · have kc16 := jeq c16 t1 jz_60
    refine jtopr c16 ?_
    refine lv_lookup (off := 119) (tgt := 120) hx hb dX10_joined_1 (by decide) (by decide) (by decide) ?_
    refine lv_iload_n hx hb dX10_joined_120 rfl (lv_at hl 1 rfl) ?_
    refine lv_iload_n hx hb dX10_joined_121 rfl (lv_at hl 2 rfl) ?_
    refine lv_icmp_ge (tgt := 129) hx hb dX10_joined_122 (by decide) (fun c17 => ?_) (fun c17 => ?_)
    · have kc17 := jle c17 t3 t2
      refine lv_iconst (v := 0) hx hb dX10_joined_129 (by decide) ?_
      exact hret 0 σ τ _ _ _ _ rfl ⟨⟨rfl, rfl⟩, trivial⟩ hP hS dX10_joined_130
    · have kc17 := jnle c17 t3 t2
      refine lv_iconst (v := 1) hx hb dX10_joined_125 (by decide) ?_
      refine lv_goto (tgt := 130) hx hb dX10_joined_126 (by decide) ?_
      exact hret 1 σ τ _ _ _ _ rfl ⟨⟨rfl, rfl⟩, trivial⟩ hP hS dX10_joined_130
  have kc16 := jne c16 t1 jz_60
  by_cases c18 : a1 = 61
  · have kc18 := jeq c18 t1 jz_61
    refine jtopr c18 ?_
    refine lv_lookup (off := 130) (tgt := 131) hx hb dX10_joined_1 (by decide) (by decide) (by decide) ?_
    refine lv_iload_n hx hb dX10_joined_131 rfl (lv_at hl 1 rfl) ?_
    refine lv_iload_n hx hb dX10_joined_132 rfl (lv_at hl 2 rfl) ?_
    refine lv_icmp_ne (tgt := 140) hx hb dX10_joined_133 (by decide) (fun c19 => ?_) (fun c19 => ?_)
    · have kc19 := jne c19 t2 t3
      refine lv_iconst (v := 0) hx hb dX10_joined_140 (by decide) ?_
      exact hret 0 σ τ _ _ _ _ rfl ⟨⟨rfl, rfl⟩, trivial⟩ hP hS dX10_joined_141
    · have kc19 := jeq c19 t2 t3
      refine lv_iconst (v := 1) hx hb dX10_joined_136 (by decide) ?_
      refine lv_goto (tgt := 141) hx hb dX10_joined_137 (by decide) ?_
      exact hret 1 σ τ _ _ _ _ rfl ⟨⟨rfl, rfl⟩, trivial⟩ hP hS dX10_joined_141
  have kc18 := jne c18 t1 jz_61
  by_cases c20 : a1 = 62
  · have kc20 := jeq c20 t1 jz_62
    refine jtopr c20 ?_
    refine lv_lookup (off := 141) (tgt := 142) hx hb dX10_joined_1 (by decide) (by decide) (by decide) ?_
    refine lv_iload_n hx hb dX10_joined_142 rfl (lv_at hl 1 rfl) ?_
    refine lv_iload_n hx hb dX10_joined_143 rfl (lv_at hl 2 rfl) ?_
    refine lv_icmp_le (tgt := 151) hx hb dX10_joined_144 (by decide) (fun c21 => ?_) (fun c21 => ?_)
    · have kc21 := jle c21 t2 t3
      refine lv_iconst (v := 0) hx hb dX10_joined_151 (by decide) ?_
      exact hret 0 σ τ _ _ _ _ rfl ⟨⟨rfl, rfl⟩, trivial⟩ hP hS dX10_joined_152
    · have kc21 := jnle c21 t2 t3
      refine lv_iconst (v := 1) hx hb dX10_joined_147 (by decide) ?_
      refine lv_goto (tgt := 152) hx hb dX10_joined_148 (by decide) ?_
      exact hret 1 σ τ _ _ _ _ rfl ⟨⟨rfl, rfl⟩, trivial⟩ hP hS dX10_joined_152
  have kc20 := jne c20 t1 jz_62
  by_cases c22 : a1 = 124
  · have kc22 := jeq c22 t1 jz_124
    refine jtopr c22 ?_
    refine lv_lookup (off := 91) (tgt := 92) hx hb dX10_joined_1 (by decide) (by decide) (by decide) ?_
    refine lv_iload_n hx hb dX10_joined_92 rfl (lv_at hl 1 rfl) ?_
    refine lv_if_ne (tgt := 100) hx hb dX10_joined_93 (by decide) (fun c23 => ?_) (fun c23 => ?_)
    · have kc23 := jne c23 t2 jz_0
      refine lv_iconst (v := 1) hx hb dX10_joined_100 (by decide) ?_
      refine lv_goto (tgt := 105) hx hb dX10_joined_101 (by decide) ?_
      exact hret 1 σ τ _ _ _ _ rfl ⟨⟨rfl, rfl⟩, trivial⟩ hP hS dX10_joined_105
    · have kc23 := jeq c23 t2 jz_0
      refine lv_iload_n hx hb dX10_joined_96 rfl (lv_at hl 2 rfl) ?_
      refine lv_if_eq (tgt := 104) hx hb dX10_joined_97 (by decide) (fun c24 => ?_) (fun c24 => ?_)
      · have kc24 := jeq c24 t3 jz_0
        refine lv_iconst (v := 0) hx hb dX10_joined_104 (by decide) ?_
        exact hret 0 σ τ _ _ _ _ rfl ⟨⟨rfl, rfl⟩, trivial⟩ hP hS dX10_joined_105
      · have kc24 := jne c24 t3 jz_0
        refine lv_iconst (v := 1) hx hb dX10_joined_100 (by decide) ?_
        refine lv_goto (tgt := 105) hx hb dX10_joined_101 (by decide) ?_
        exact hret 1 σ τ _ _ _ _ rfl ⟨⟨rfl, rfl⟩, trivial⟩ hP hS dX10_joined_105
  have kc22 := jne c22 t1 jz_124
  refine lv_lookup (off := 188) (tgt := 189) hx hb dX10_joined_1 (by decide) (jlook (fun p hp => by have h9 := t1; simp only [List.mem_cons, List.not_mem_nil, or_false] at hp; rcases hp with hp | hp | hp | hp | hp | hp | hp | hp | hp | hp <;> subst hp <;> simp only [] <;> omega)) (by decide) ?_
  refine lv_iconst (v := 0) hx hb dX10_joined_189 (by decide) ?_
  exact hret 0 σ τ _ _ _ _ rfl ⟨⟨rfl, rfl⟩, trivial⟩ hP hS dX10_joined_190
set_option maxHeartbeats 4000000 in
set_option maxRecDepth 100000 in
theorem c_X10_worked_18 (l : Launch) (D : va_G) (cI cL : ClassId) (ad zz : Nat → Nat) (hJ : jD ad) (σ : Nat → Nat → Int32) (τ : Nat → Nat → Int64) (hI18 : jI18 σ) : jM l yX10_worked cX10_worked 5 (some .int) ({ frames := 1, cells := 0, slots := 0, locals := 22 }) D cI cL ad zz [.ref (ad 18)] σ τ (fun r σ' τ' => τ = τ' ∧ (∀ i : Nat, (i < 21 ∨ 21 < i) → σ' i = σ i) ∧ True) := by
  refine jM.of hJ (by decide +kernel) (nt := .int) rfl (Nat.le_of_ble_eq_true rfl) ?_
  intro p e s m args below meth c Q ls hC hret hl hP
  obtain ⟨hx, hb, hr, hml, hown, hts, hK, -, hlocks, hZ⟩ := hC
  have hown : s.vm.findClass RX10 = some m.cls := hown
  have hS : va_S (jA ad) s.heap s.heap [] := va_S.rf
  have hA : ∀ q, jA ad q → jA ad q := fun _ h => h
  have hl : lv_has ls 5 [(0, .ref (ad 18))] := hl
  obtain ⟨i1, w2⟩ : (0 ≤ (σ 18 0).toInt ∧ (σ 18 0).toInt ≤ 160) ∧ (∀ k : Nat, k < 160 → 0 ≤ (σ 19 k).toInt ∧ (σ 19 k).toInt ≤ 30000) := id hI18
  refine lv_iconst (v := 0) hx hb dX10_worked_0 (by decide) ?_
  refine lv_istore_n (lv' := [(1, .int 0), (0, .ref (ad 18))]) hx hb dX10_worked_1 rfl hl (by decide) rfl (fun ls hl => ?_)
  refine lv_iconst (v := 0) hx hb dX10_worked_2 (by decide) ?_
  refine lv_istore_n (lv' := [(2, .int 0), (1, .int 0), (0, .ref (ad 18))]) hx hb dX10_worked_3 rfl hl (by decide) rfl (fun ls hl => ?_)
  have lp3 : ∀ (n4 : Nat) (x5 : Int32) (x6 : Int32) (σ9 : Nat → Nat → Int32) (H : Heap) (locs : List Loc) (ls : Array Slot), (-x6.toInt + 30001 : Int) < n4 → 0 ≤ x5.toInt → x5.toInt ≤ 160 → 0 ≤ x6.toInt → x6.toInt ≤ 30000 → (∀ i : Nat, (i < 21 ∨ 21 < i) → σ9 i = σ i) → jH D cI cL ad σ9 τ H → va_S (jA ad) s.heap H locs → lv_has ls 5 [(2, .int x6), (1, .int x5), (0, .ref (ad 18))] → W p l e ({ frames := 1, cells := 0, slots := 0, locals := 22 }) s m args below meth c H locs 0 0 Q (F0 m 4 ls []) := by
    intro n4
    induction n4 with
    | zero => intro x5 x6 σ9 H locs ls h10 h11 h12 h13 h14; exact absurd h10 (by omega)
    | succ n4 ihlp3 =>
      intro x5 x6 σ9 H locs ls h10 h11 h12 h13 h14 f15 hP hS hl
      refine lv_iload_n hx hb dX10_worked_4 rfl (lv_at hl 0 rfl) ?_
      refine lv_aload_n hx hb dX10_worked_5 rfl (lv_at hl 2 rfl) ?_
      refine va_get (D := D) hx hb hts inlX10 hown hK hP 18 (jc_18 cI cL ad σ9 τ) rfl 0 (by decide) (hts _ kw_16_20) (fun _ h9 => h9) rfl dX10_worked_6 ?_
      have m16 : σ9 18 0 = (σ 18 0) := (congrFun (f15 18 (by decide)) 0)
      refine jtopr m16 ?_
      refine lv_icmp_ge (tgt := 265) hx hb dX10_worked_9 (by decide) (fun c17 => ?_) (fun c17 => ?_)
      · have kc17 := jle c17 rfl rfl
        refine lv_iconst (v := 0) hx hb dX10_worked_265 (by decide) ?_
        exact hret 0 σ9 τ _ _ _ _ rfl ⟨rfl, (fun i hi => (f15 i hi)), trivial⟩ hP hS dX10_worked_266
      · have kc17 := jnle c17 rfl rfl
        refine lv_aload_n hx hb dX10_worked_12 rfl (lv_at hl 2 rfl) ?_
        refine va_get (D := D) hx hb hts inlX10 hown hK hP 18 (jc_18 cI cL ad σ9 τ) rfl 2 (by decide) (hts _ kw_4_3) (fun _ h9 => h9) rfl dX10_worked_13 ?_
        refine lv_iload_n hx hb dX10_worked_16 rfl (lv_at hl 0 rfl) ?_
        refine jald hx hb hK hP (jc_19 cI cL ad σ9 τ) (jin rfl (by omega) (by omega)) dX10_worked_17 ?_
        have w18 : ∀ k : Nat, k < 160 → 0 ≤ (σ9 19 k).toInt ∧ (σ9 19 k).toInt ≤ 30000 := (jrr_fr (f15 19 (by decide)) w2)
        have g19 := w18 _ (jnat (x := x6) rfl (n := 160) (by omega) (by decide))
        refine lv_topi (fun x20 ex20 => ?_)
        rw [← ex20] at g19
        refine lv_istore_n (lv' := [(3, .int x20), (2, .int x6), (1, .int x5), (0, .ref (ad 18))]) hx hb dX10_worked_18 rfl hl (by decide) rfl (fun ls hl => ?_)
        refine lv_iload_n hx hb dX10_worked_19 rfl (lv_at hl 0 rfl) ?_
        refine lv_sipush (v := 20000) hx hb dX10_worked_20 (by decide) ?_
        refine lv_icmp_ge (tgt := 71) hx hb dX10_worked_23 (by decide) (fun c21 => ?_) (fun c21 => ?_)
        · have kc21 := jle c21 jz_20000 rfl
          refine lv_iload_n hx hb dX10_worked_71 rfl (lv_at hl 2 rfl) ?_
          refine lv_iconst (v := 1) hx hb dX10_worked_72 (by decide) ?_
          refine lv_icmp_lt (tgt := 83) hx hb dX10_worked_73 (by decide) (fun c22 => ?_) (fun c22 => ?_)
          · have kc22 := jlt c22 rfl jz_1
            refine lv_iload_n hx hb dX10_worked_83 rfl (lv_at hl 2 rfl) ?_
            refine lv_iconst (v := 1) hx hb dX10_worked_84 (by decide) ?_
            refine lv_icmp_ge (tgt := 92) hx hb dX10_worked_85 (by decide) (fun c => absurd (jle c jz_1 rfl) (by omega)) (fun c23 => ?_)
            have kc23 := jnle c23 jz_1 rfl
            refine lv_iconst (v := 0) hx hb dX10_worked_88 (by decide) ?_
            refine lv_goto (tgt := 100) hx hb dX10_worked_89 (by decide) ?_
            exact hret 0 σ9 τ _ _ _ _ rfl ⟨rfl, (fun i hi => (f15 i hi)), trivial⟩ hP hS dX10_worked_100
          · have kc22 := jnlt c22 rfl jz_1
            refine lv_iload_n hx hb dX10_worked_76 rfl (lv_at hl 0 rfl) ?_
            refine lv_sipush (v := 20059) hx hb dX10_worked_77 (by decide) ?_
            refine lv_icmp_ne (tgt := 101) hx hb dX10_worked_80 (by decide) (fun c24 => ?_) (fun c24 => ?_)
            · have kc24 := jne c24 rfl jz_20059
              refine lv_iload_n hx hb dX10_worked_101 rfl (lv_at hl 0 rfl) ?_
              refine lv_sipush (v := 20063) hx hb dX10_worked_102 (by decide) ?_
              refine lv_icmp_ne (tgt := 160) hx hb dX10_worked_105 (by decide) (fun c25 => ?_) (fun c25 => ?_)
              · have kc25 := jne c25 rfl jz_20063
                refine lv_iload_n hx hb dX10_worked_160 rfl (lv_at hl 0 rfl) ?_
                refine lv_sipush (v := 20033) hx hb dX10_worked_161 (by decide) ?_
                refine lv_icmp_ne (tgt := 194) hx hb dX10_worked_164 (by decide) (fun c26 => ?_) (fun c26 => ?_)
                · have kc26 := jne c26 rfl jz_20033
                  refine lv_iload_n hx hb dX10_worked_194 rfl (lv_at hl 0 rfl) ?_
                  refine lv_sipush (v := 20126) hx hb dX10_worked_195 (by decide) ?_
                  refine lv_icmp_ne (tgt := 221) hx hb dX10_worked_198 (by decide) (fun c27 => ?_) (fun c27 => ?_)
                  · have kc27 := jne c27 rfl jz_20126
                    refine lv_iload_n hx hb dX10_worked_221 rfl (lv_at hl 2 rfl) ?_
                    refine lv_iconst (v := 1) hx hb dX10_worked_222 (by decide) ?_
                    refine lv_icmp_le (tgt := 259) hx hb dX10_worked_223 (by decide) (fun c28 => ?_) (fun c28 => ?_)
                    · have kc28 := jle c28 rfl jz_1
                      obtain ⟨x29, ex29⟩ : ∃ y : Int32, y = x6 + 1 := ⟨_, rfl⟩
                      have tx29 : x29.toInt = x6.toInt + 1 := (jadd ex29 rfl jz_1 (by omega) (by omega)).trans (by omega)
                      refine lv_iinc (v := x29) (lv' := [(2, .int x29), (3, .int x20), (1, .int x5), (0, .ref (ad 18))]) hx hb dX10_worked_259 hl (k := 1) rfl (by rw [ex29]; rfl) (by decide) rfl (fun ls hl => ?_)
                      refine lv_goto (tgt := 4) hx hb dX10_worked_262 (by decide) ?_
                      exact ihlp3 x5 x29 σ9 _ _ ls (by have h91 := tx29; omega) (by have h91 := tx29; omega) (by have h91 := tx29; omega) (by have h91 := tx29; omega) (by have h91 := tx29; omega) (fun i hi => (f15 i hi))    hP hS (lv_sub hl [0, 2, 3] rfl)
                    · have kc28 := jnle c28 rfl jz_1
                      obtain ⟨x30, ex30⟩ : ∃ y : Int32, y = x5 + (-1) := ⟨_, rfl⟩
                      have tx30 : x30.toInt = x5.toInt - 1 := (jadd ex30 rfl jz_m1 (by omega) (by omega)).trans (by omega)
                      refine lv_iinc (v := x30) (lv' := [(1, .int x30), (3, .int x20), (2, .int x6), (0, .ref (ad 18))]) hx hb dX10_worked_226 hl (k := 2) rfl (by rw [ex30]; rfl) (by decide) rfl (fun ls hl => ?_)
                      refine lv_aload_n hx hb dX10_worked_229 rfl (lv_at hl 3 rfl) ?_
                      refine va_get (D := D) hx hb hts inlX10 hown hK hP 18 (jc_18 cI cL ad σ9 τ) rfl 4 (by decide) (hts _ kw_4_5) (fun _ h9 => h9) rfl dX10_worked_230 ?_
                      refine lv_iload_n hx hb dX10_worked_233 rfl (lv_at hl 0 rfl) ?_
                      refine lv_iconst (v := 1) hx hb dX10_worked_234 (by decide) ?_
                      refine lv_isub hx hb dX10_worked_235 ?_
                      refine lv_topi (fun x31 ex31 => ?_)
                      have tx31 : x31.toInt = x5.toInt - 2 := (jsub ex31 tx30 jz_1 (by omega) (by omega)).trans (by omega)
                      refine lv_iload_n hx hb dX10_worked_236 rfl (lv_at hl 1 rfl) ?_
                      refine lv_sipush (v := 20000) hx hb dX10_worked_237 (by decide) ?_
                      have g32 := jrg (rfl : x20.toInt = x20.toInt)
                      refine lv_isub hx hb dX10_worked_240 ?_
                      refine lv_topi (fun x33 ex33 => ?_)
                      have tx33 : x33.toInt = x20.toInt - 20000 := (jsub ex33 rfl jz_20000 (by omega) (by omega)).trans (by omega)
                      refine lv_aload_n hx hb dX10_worked_241 rfl (lv_at hl 3 rfl) ?_
                      refine va_get (D := D) hx hb hts inlX10 hown hK hP 18 (jc_18 cI cL ad σ9 τ) rfl 4 (by decide) (hts _ kw_4_5) (fun _ h9 => h9) rfl dX10_worked_242 ?_
                      refine lv_iload_n hx hb dX10_worked_245 rfl (lv_at hl 0 rfl) ?_
                      refine lv_iconst (v := 1) hx hb dX10_worked_246 (by decide) ?_
                      refine lv_isub hx hb dX10_worked_247 ?_
                      refine lv_topi (fun x34 ex34 => ?_)
                      have tx34 : x34.toInt = x5.toInt - 2 := (jsub ex34 tx30 jz_1 (by omega) (by omega)).trans (by omega)
                      refine jald hx hb hK hP (jc_21 cI cL ad σ9 τ) (jin tx34 (by omega) (by omega)) dX10_worked_248 ?_
                      refine lv_topi (fun x35 ex35 => ?_)
                      refine lv_aload_n hx hb dX10_worked_249 rfl (lv_at hl 3 rfl) ?_
                      refine va_get (D := D) hx hb hts inlX10 hown hK hP 18 (jc_18 cI cL ad σ9 τ) rfl 4 (by decide) (hts _ kw_4_5) (fun _ h9 => h9) rfl dX10_worked_250 ?_
                      refine lv_iload_n hx hb dX10_worked_253 rfl (lv_at hl 0 rfl) ?_
                      refine jald hx hb hK hP (jc_21 cI cL ad σ9 τ) (jin tx30 (by omega) (by omega)) dX10_worked_254 ?_
                      refine lv_topi (fun x36 ex36 => ?_)
                      refine jcallS (As := [.int x33, .int x35, .int x36]) (rest := [.int x31, .ref (ad 21)]) ⟨hx, hb, hml, hown, hts⟩ hK hP hA hS hZ (c_X10_joined l D cI cL ad zz hJ σ9 τ x33 (x20.toInt - 20000) tx33 x35 (x35.toInt) rfl x36 (x36.toInt) rfl) cw_RX10_38 ⟨Nat.le_of_ble_eq_true rfl, Nat.le_of_ble_eq_true rfl⟩ rfl rfl rfl hl.1 rfl (Nat.le_of_ble_eq_true rfl) dX10_worked_255 ⟨Nat.zero_le _, Nat.zero_le _⟩ (fun r38 σ37 τ37 H locs h37 hP hS => ?_)
                      obtain ⟨⟨rfl, rfl⟩, h37⟩ := h37
                      refine jast hx hb hK hP hJ hA hS (jc_21 cI cL ad σ9 τ) (ja_21 cI cL ad σ9 τ _ _) (jin tx31 (by omega) (by omega)) dX10_worked_258 (fun σ39 H locs eσ39 hP hS => ?_)
                      obtain ⟨x40, ex40⟩ : ∃ y : Int32, y = x6 + 1 := ⟨_, rfl⟩
                      have tx40 : x40.toInt = x6.toInt + 1 := (jadd ex40 rfl jz_1 (by omega) (by omega)).trans (by omega)
                      refine lv_iinc (v := x40) (lv' := [(2, .int x40), (1, .int x30), (3, .int x20), (0, .ref (ad 18))]) hx hb dX10_worked_259 hl (k := 2) rfl (by rw [ex40]; rfl) (by decide) rfl (fun ls hl => ?_)
                      refine lv_goto (tgt := 4) hx hb dX10_worked_262 (by decide) ?_
                      exact ihlp3 x30 x40 σ39 _ _ ls (by have h90 := tx30; have h91 := tx40; omega) (by have h90 := tx30; have h91 := tx40; omega) (by have h90 := tx30; have h91 := tx40; omega) (by have h90 := tx30; have h91 := tx40; omega) (by have h90 := tx30; have h91 := tx40; omega) (fun i hi => ((jnp i eσ39 (imp_33 i hi)).trans (f15 i hi)))    hP hS (lv_sub hl [0, 1, 3] rfl)
                  · have kc27 := jeq c27 rfl jz_20126
                    refine lv_aload_n hx hb dX10_worked_201 rfl (lv_at hl 3 rfl) ?_
                    refine va_get (D := D) hx hb hts inlX10 hown hK hP 18 (jc_18 cI cL ad σ9 τ) rfl 4 (by decide) (hts _ kw_4_5) (fun _ h9 => h9) rfl dX10_worked_202 ?_
                    refine lv_iload_n hx hb dX10_worked_205 rfl (lv_at hl 2 rfl) ?_
                    refine lv_iconst (v := 1) hx hb dX10_worked_206 (by decide) ?_
                    have g41 := jrg (rfl : x5.toInt = x5.toInt)
                    refine lv_isub hx hb dX10_worked_207 ?_
                    refine lv_topi (fun x42 ex42 => ?_)
                    have tx42 : x42.toInt = x5.toInt - 1 := (jsub ex42 rfl jz_1 (by omega) (by omega)).trans (by omega)
                    refine lv_aload_n hx hb dX10_worked_208 rfl (lv_at hl 3 rfl) ?_
                    refine va_get (D := D) hx hb hts inlX10 hown hK hP 18 (jc_18 cI cL ad σ9 τ) rfl 4 (by decide) (hts _ kw_4_5) (fun _ h9 => h9) rfl dX10_worked_209 ?_
                    refine lv_iload_n hx hb dX10_worked_212 rfl (lv_at hl 2 rfl) ?_
                    refine lv_iconst (v := 1) hx hb dX10_worked_213 (by decide) ?_
                    refine lv_isub hx hb dX10_worked_214 ?_
                    refine lv_topi (fun x43 ex43 => ?_)
                    have tx43 : x43.toInt = x5.toInt - 1 := (jsub ex43 rfl jz_1 (by omega) (by omega)).trans (by omega)
                    refine jald hx hb hK hP (jc_21 cI cL ad σ9 τ) (jin tx43 (by omega) (by omega)) dX10_worked_215 ?_
                    refine lv_topi (fun x44 ex44 => ?_)
                    refine lv_ineg hx hb dX10_worked_216 ?_
                    refine lv_topi (fun x45 ex45 => ?_)
                    have gx45 := jrg (rfl : x45.toInt = x45.toInt)
                    refine jast hx hb hK hP hJ hA hS (jc_21 cI cL ad σ9 τ) (ja_21 cI cL ad σ9 τ _ _) (jin tx42 (by omega) (by omega)) dX10_worked_217 (fun σ46 H locs eσ46 hP hS => ?_)
                    refine lv_goto (tgt := 259) hx hb dX10_worked_218 (by decide) ?_
                    obtain ⟨x47, ex47⟩ : ∃ y : Int32, y = x6 + 1 := ⟨_, rfl⟩
                    have tx47 : x47.toInt = x6.toInt + 1 := (jadd ex47 rfl jz_1 (by omega) (by omega)).trans (by omega)
                    refine lv_iinc (v := x47) (lv' := [(2, .int x47), (3, .int x20), (1, .int x5), (0, .ref (ad 18))]) hx hb dX10_worked_259 hl (k := 1) rfl (by rw [ex47]; rfl) (by decide) rfl (fun ls hl => ?_)
                    refine lv_goto (tgt := 4) hx hb dX10_worked_262 (by decide) ?_
                    exact ihlp3 x5 x47 σ46 _ _ ls (by have h91 := tx47; omega) (by have h91 := tx47; omega) (by have h91 := tx47; omega) (by have h91 := tx47; omega) (by have h91 := tx47; omega) (fun i hi => ((jnp i eσ46 (imp_33 i hi)).trans (f15 i hi)))    hP hS (lv_sub hl [0, 2, 3] rfl)
                · have kc26 := jeq c26 rfl jz_20033
                  refine lv_aload_n hx hb dX10_worked_167 rfl (lv_at hl 3 rfl) ?_
                  refine va_get (D := D) hx hb hts inlX10 hown hK hP 18 (jc_18 cI cL ad σ9 τ) rfl 4 (by decide) (hts _ kw_4_5) (fun _ h9 => h9) rfl dX10_worked_168 ?_
                  refine lv_iload_n hx hb dX10_worked_171 rfl (lv_at hl 2 rfl) ?_
                  refine lv_iconst (v := 1) hx hb dX10_worked_172 (by decide) ?_
                  have g48 := jrg (rfl : x5.toInt = x5.toInt)
                  refine lv_isub hx hb dX10_worked_173 ?_
                  refine lv_topi (fun x49 ex49 => ?_)
                  have tx49 : x49.toInt = x5.toInt - 1 := (jsub ex49 rfl jz_1 (by omega) (by omega)).trans (by omega)
                  refine lv_aload_n hx hb dX10_worked_174 rfl (lv_at hl 3 rfl) ?_
                  refine va_get (D := D) hx hb hts inlX10 hown hK hP 18 (jc_18 cI cL ad σ9 τ) rfl 4 (by decide) (hts _ kw_4_5) (fun _ h9 => h9) rfl dX10_worked_175 ?_
                  refine lv_iload_n hx hb dX10_worked_178 rfl (lv_at hl 2 rfl) ?_
                  refine lv_iconst (v := 1) hx hb dX10_worked_179 (by decide) ?_
                  refine lv_isub hx hb dX10_worked_180 ?_
                  refine lv_topi (fun x50 ex50 => ?_)
                  have tx50 : x50.toInt = x5.toInt - 1 := (jsub ex50 rfl jz_1 (by omega) (by omega)).trans (by omega)
                  refine jald hx hb hK hP (jc_21 cI cL ad σ9 τ) (jin tx50 (by omega) (by omega)) dX10_worked_181 ?_
                  refine lv_topi (fun x51 ex51 => ?_)
                  refine lv_if_ne (tgt := 189) hx hb dX10_worked_182 (by decide) (fun c52 => ?_) (fun c52 => ?_)
                  · have kc52 := jne c52 rfl jz_0
                    refine lv_iconst (v := 0) hx hb dX10_worked_189 (by decide) ?_
                    refine jast hx hb hK hP hJ hA hS (jc_21 cI cL ad σ9 τ) (ja_21 cI cL ad σ9 τ _ _) (jin tx49 (by omega) (by omega)) dX10_worked_190 (fun σ53 H locs eσ53 hP hS => ?_)
                    refine lv_goto (tgt := 259) hx hb dX10_worked_191 (by decide) ?_
                    obtain ⟨x54, ex54⟩ : ∃ y : Int32, y = x6 + 1 := ⟨_, rfl⟩
                    have tx54 : x54.toInt = x6.toInt + 1 := (jadd ex54 rfl jz_1 (by omega) (by omega)).trans (by omega)
                    refine lv_iinc (v := x54) (lv' := [(2, .int x54), (3, .int x20), (1, .int x5), (0, .ref (ad 18))]) hx hb dX10_worked_259 hl (k := 1) rfl (by rw [ex54]; rfl) (by decide) rfl (fun ls hl => ?_)
                    refine lv_goto (tgt := 4) hx hb dX10_worked_262 (by decide) ?_
                    exact ihlp3 x5 x54 σ53 _ _ ls (by have h91 := tx54; omega) (by have h91 := tx54; omega) (by have h91 := tx54; omega) (by have h91 := tx54; omega) (by have h91 := tx54; omega) (fun i hi => ((jnp i eσ53 (imp_33 i hi)).trans (f15 i hi)))    hP hS (lv_sub hl [0, 2, 3] rfl)
                  · have kc52 := jeq c52 rfl jz_0
                    refine lv_iconst (v := 1) hx hb dX10_worked_185 (by decide) ?_
                    refine lv_goto (tgt := 190) hx hb dX10_worked_186 (by decide) ?_
                    refine jast hx hb hK hP hJ hA hS (jc_21 cI cL ad σ9 τ) (ja_21 cI cL ad σ9 τ _ _) (jin tx49 (by omega) (by omega)) dX10_worked_190 (fun σ55 H locs eσ55 hP hS => ?_)
                    refine lv_goto (tgt := 259) hx hb dX10_worked_191 (by decide) ?_
                    obtain ⟨x56, ex56⟩ : ∃ y : Int32, y = x6 + 1 := ⟨_, rfl⟩
                    have tx56 : x56.toInt = x6.toInt + 1 := (jadd ex56 rfl jz_1 (by omega) (by omega)).trans (by omega)
                    refine lv_iinc (v := x56) (lv' := [(2, .int x56), (3, .int x20), (1, .int x5), (0, .ref (ad 18))]) hx hb dX10_worked_259 hl (k := 1) rfl (by rw [ex56]; rfl) (by decide) rfl (fun ls hl => ?_)
                    refine lv_goto (tgt := 4) hx hb dX10_worked_262 (by decide) ?_
                    exact ihlp3 x5 x56 σ55 _ _ ls (by have h91 := tx56; omega) (by have h91 := tx56; omega) (by have h91 := tx56; omega) (by have h91 := tx56; omega) (by have h91 := tx56; omega) (fun i hi => ((jnp i eσ55 (imp_33 i hi)).trans (f15 i hi)))    hP hS (lv_sub hl [0, 2, 3] rfl)
              · have kc25 := jeq c25 rfl jz_20063
                refine lv_aload_n hx hb dX10_worked_108 rfl (lv_at hl 3 rfl) ?_
                refine va_get (D := D) hx hb hts inlX10 hown hK hP 18 (jc_18 cI cL ad σ9 τ) rfl 4 (by decide) (hts _ kw_4_5) (fun _ h9 => h9) rfl dX10_worked_109 ?_
                refine lv_iload_n hx hb dX10_worked_112 rfl (lv_at hl 2 rfl) ?_
                refine lv_iconst (v := 1) hx hb dX10_worked_113 (by decide) ?_
                have g57 := jrg (rfl : x5.toInt = x5.toInt)
                refine lv_isub hx hb dX10_worked_114 ?_
                refine lv_topi (fun x58 ex58 => ?_)
                have tx58 : x58.toInt = x5.toInt - 1 := (jsub ex58 rfl jz_1 (by omega) (by omega)).trans (by omega)
                refine jald hx hb hK hP (jc_21 cI cL ad σ9 τ) (jin tx58 (by omega) (by omega)) dX10_worked_115 ?_
                refine lv_topi (fun x59 ex59 => ?_)
                refine lv_if_eq (tgt := 123) hx hb dX10_worked_116 (by decide) (fun c60 => ?_) (fun c60 => ?_)
                · have kc60 := jeq c60 rfl jz_0
                  refine lv_iconst (v := 0) hx hb dX10_worked_123 (by decide) ?_
                  refine lv_istore (lv' := [(4, .int 0), (3, .int x20), (2, .int x6), (1, .int x5), (0, .ref (ad 18))]) hx hb dX10_worked_124 hl (by decide) rfl (fun ls hl => ?_)
                  refine lv_iconst (v := 0) hx hb dX10_worked_126 (by decide) ?_
                  refine lv_istore_n (lv' := [(1, .int 0), (4, .int 0), (3, .int x20), (2, .int x6), (0, .ref (ad 18))]) hx hb dX10_worked_127 rfl hl (by decide) rfl (fun ls hl => ?_)
                  obtain ⟨x61, ex61⟩ : ∃ y : Int32, y = x6 + 1 := ⟨_, rfl⟩
                  have tx61 : x61.toInt = x6.toInt + 1 := (jadd ex61 rfl jz_1 (by omega) (by omega)).trans (by omega)
                  refine lv_iinc (v := x61) (lv' := [(2, .int x61), (1, .int 0), (4, .int 0), (3, .int x20), (0, .ref (ad 18))]) hx hb dX10_worked_128 hl (k := 3) rfl (by rw [ex61]; rfl) (by decide) rfl (fun ls hl => ?_)
                  refine lv_iload hx hb dX10_worked_131 (lv_at hl 2 rfl) ?_
                  refine lv_if_ne (tgt := 157) hx hb dX10_worked_133 (by decide) (fun c => absurd (by decide) c) (fun _ => ?_)
                  refine lv_iload_n hx hb dX10_worked_136 rfl (lv_at hl 0 rfl) ?_
                  refine lv_aload_n hx hb dX10_worked_137 rfl (lv_at hl 4 rfl) ?_
                  refine va_get (D := D) hx hb hts inlX10 hown hK hP 18 (jc_18 cI cL ad σ9 τ) rfl 0 (by decide) (hts _ kw_16_20) (fun _ h9 => h9) rfl dX10_worked_138 ?_
                  refine jtopr m16 ?_
                  refine lv_icmp_ge (tgt := 157) hx hb dX10_worked_141 (by decide) (fun c62 => ?_) (fun c62 => ?_)
                  · have kc62 := jle c62 rfl tx61
                    refine lv_goto (tgt := 259) hx hb dX10_worked_157 (by decide) ?_
                    obtain ⟨x63, ex63⟩ : ∃ y : Int32, y = x61 + 1 := ⟨_, rfl⟩
                    have tx63 : x63.toInt = x6.toInt + 2 := (jadd ex63 tx61 jz_1 (by omega) (by omega)).trans (by omega)
                    refine lv_iinc (v := x63) (lv' := [(2, .int x63), (1, .int 0), (4, .int 0), (3, .int x20), (0, .ref (ad 18))]) hx hb dX10_worked_259 hl (k := 0) rfl (by rw [ex63]; rfl) (by decide) rfl (fun ls hl => ?_)
                    refine lv_goto (tgt := 4) hx hb dX10_worked_262 (by decide) ?_
                    exact ihlp3 0 x63 σ9 _ _ ls (by have h90 := jz_0; have h91 := tx63; omega) (by have h90 := jz_0; have h91 := tx63; omega) (by have h90 := jz_0; have h91 := tx63; omega) (by have h90 := jz_0; have h91 := tx63; omega) (by have h90 := jz_0; have h91 := tx63; omega) (fun i hi => (f15 i hi))    hP hS (lv_sub hl [0, 1, 4] rfl)
                  · have kc62 := jnle c62 rfl tx61
                    refine lv_iload_n hx hb dX10_worked_144 rfl (lv_at hl 0 rfl) ?_
                    refine lv_aload_n hx hb dX10_worked_145 rfl (lv_at hl 4 rfl) ?_
                    refine va_get (D := D) hx hb hts inlX10 hown hK hP 18 (jc_18 cI cL ad σ9 τ) rfl 2 (by decide) (hts _ kw_4_3) (fun _ h9 => h9) rfl dX10_worked_146 ?_
                    refine lv_iload_n hx hb dX10_worked_149 rfl (lv_at hl 0 rfl) ?_
                    refine jald hx hb hK hP (jc_19 cI cL ad σ9 τ) (jin tx61 (by omega) (by omega)) dX10_worked_150 ?_
                    have g64 := w18 _ (jnat (x := x61) tx61 (n := 160) (by omega) (by decide))
                    refine lv_topi (fun x65 ex65 => ?_)
                    rw [← ex65] at g64
                    refine lv_iconst (v := 1) hx hb dX10_worked_151 (by decide) ?_
                    have g66 := jrg (rfl : x65.toInt = x65.toInt)
                    refine lv_isub hx hb dX10_worked_152 ?_
                    refine lv_topi (fun x67 ex67 => ?_)
                    have tx67 : x67.toInt = x65.toInt - 1 := (jsub ex67 rfl jz_1 (by omega) (by omega)).trans (by omega)
                    refine va_mmax hx hb (hml.trans hl.1.symm) hown (hts _ kw_22_21) (hts _ kw_21_0) (hts _ kw_21_1) (hts _ kw_21_2) (Nat.le_of_ble_eq_true rfl) (Nat.le_of_ble_eq_true rfl) (Nat.le_of_ble_eq_true rfl) (Nat.le_of_ble_eq_true rfl) dX10_worked_153 ?_
                    refine lv_topi (fun x68 ex68 => ?_)
                    have g69 := jmax ex68 tx61 tx67
                    refine lv_istore_n (lv' := [(2, .int x68), (1, .int 0), (4, .int 0), (3, .int x20), (0, .ref (ad 18))]) hx hb dX10_worked_156 rfl hl (by decide) rfl (fun ls hl => ?_)
                    refine lv_goto (tgt := 259) hx hb dX10_worked_157 (by decide) ?_
                    obtain ⟨x70, ex70⟩ : ∃ y : Int32, y = x68 + 1 := ⟨_, rfl⟩
                    have tx70 : x70.toInt = x68.toInt + 1 := (jadd ex70 rfl jz_1 (by omega) (by omega)).trans (by omega)
                    refine lv_iinc (v := x70) (lv' := [(2, .int x70), (1, .int 0), (4, .int 0), (3, .int x20), (0, .ref (ad 18))]) hx hb dX10_worked_259 hl (k := 0) rfl (by rw [ex70]; rfl) (by decide) rfl (fun ls hl => ?_)
                    refine lv_goto (tgt := 4) hx hb dX10_worked_262 (by decide) ?_
                    exact ihlp3 0 x70 σ9 _ _ ls (by have h90 := jz_0; have h91 := tx70; omega) (by have h90 := jz_0; have h91 := tx70; omega) (by have h90 := jz_0; have h91 := tx70; omega) (by have h90 := jz_0; have h91 := tx70; omega) (by have h90 := jz_0; have h91 := tx70; omega) (fun i hi => (f15 i hi))    hP hS (lv_sub hl [0, 1, 4] rfl)
                · have kc60 := jne c60 rfl jz_0
                  refine lv_iconst (v := 1) hx hb dX10_worked_119 (by decide) ?_
                  refine lv_goto (tgt := 124) hx hb dX10_worked_120 (by decide) ?_
                  refine lv_istore (lv' := [(4, .int 1), (3, .int x20), (2, .int x6), (1, .int x5), (0, .ref (ad 18))]) hx hb dX10_worked_124 hl (by decide) rfl (fun ls hl => ?_)
                  refine lv_iconst (v := 0) hx hb dX10_worked_126 (by decide) ?_
                  refine lv_istore_n (lv' := [(1, .int 0), (4, .int 1), (3, .int x20), (2, .int x6), (0, .ref (ad 18))]) hx hb dX10_worked_127 rfl hl (by decide) rfl (fun ls hl => ?_)
                  obtain ⟨x71, ex71⟩ : ∃ y : Int32, y = x6 + 1 := ⟨_, rfl⟩
                  have tx71 : x71.toInt = x6.toInt + 1 := (jadd ex71 rfl jz_1 (by omega) (by omega)).trans (by omega)
                  refine lv_iinc (v := x71) (lv' := [(2, .int x71), (1, .int 0), (4, .int 1), (3, .int x20), (0, .ref (ad 18))]) hx hb dX10_worked_128 hl (k := 3) rfl (by rw [ex71]; rfl) (by decide) rfl (fun ls hl => ?_)
                  refine lv_iload hx hb dX10_worked_131 (lv_at hl 2 rfl) ?_
                  refine lv_if_ne (tgt := 157) hx hb dX10_worked_133 (by decide) (fun _ => ?_) (fun c => absurd c (by decide))
                  refine lv_goto (tgt := 259) hx hb dX10_worked_157 (by decide) ?_
                  obtain ⟨x72, ex72⟩ : ∃ y : Int32, y = x71 + 1 := ⟨_, rfl⟩
                  have tx72 : x72.toInt = x6.toInt + 2 := (jadd ex72 tx71 jz_1 (by omega) (by omega)).trans (by omega)
                  refine lv_iinc (v := x72) (lv' := [(2, .int x72), (1, .int 0), (4, .int 1), (3, .int x20), (0, .ref (ad 18))]) hx hb dX10_worked_259 hl (k := 0) rfl (by rw [ex72]; rfl) (by decide) rfl (fun ls hl => ?_)
                  refine lv_goto (tgt := 4) hx hb dX10_worked_262 (by decide) ?_
                  exact ihlp3 0 x72 σ9 _ _ ls (by have h90 := jz_0; have h91 := tx72; omega) (by have h90 := jz_0; have h91 := tx72; omega) (by have h90 := jz_0; have h91 := tx72; omega) (by have h90 := jz_0; have h91 := tx72; omega) (by have h90 := jz_0; have h91 := tx72; omega) (fun i hi => (f15 i hi))    hP hS (lv_sub hl [0, 1, 4] rfl)
            · have kc24 := jeq c24 rfl jz_20059
              refine lv_iload_n hx hb dX10_worked_83 rfl (lv_at hl 2 rfl) ?_
              refine lv_iconst (v := 1) hx hb dX10_worked_84 (by decide) ?_
              refine lv_icmp_ge (tgt := 92) hx hb dX10_worked_85 (by decide) (fun c73 => ?_) (fun c => absurd (jnle c jz_1 rfl) (by omega))
              have kc73 := jle c73 jz_1 rfl
              refine lv_aload_n hx hb dX10_worked_92 rfl (lv_at hl 3 rfl) ?_
              refine va_get (D := D) hx hb hts inlX10 hown hK hP 18 (jc_18 cI cL ad σ9 τ) rfl 4 (by decide) (hts _ kw_4_5) (fun _ h9 => h9) rfl dX10_worked_93 ?_
              refine lv_iload_n hx hb dX10_worked_96 rfl (lv_at hl 2 rfl) ?_
              refine lv_iconst (v := 1) hx hb dX10_worked_97 (by decide) ?_
              have g74 := jrg (rfl : x5.toInt = x5.toInt)
              refine lv_isub hx hb dX10_worked_98 ?_
              refine lv_topi (fun x75 ex75 => ?_)
              have tx75 : x75.toInt = x5.toInt - 1 := (jsub ex75 rfl jz_1 (by omega) (by omega)).trans (by omega)
              refine jald hx hb hK hP (jc_21 cI cL ad σ9 τ) (jin tx75 (by omega) (by omega)) dX10_worked_99 ?_
              refine lv_topi (fun x76 ex76 => ?_)
              exact hret x76 σ9 τ _ _ _ _ rfl ⟨rfl, (fun i hi => (f15 i hi)), trivial⟩ hP hS dX10_worked_100
        · have kc21 := jnle c21 jz_20000 rfl
          refine lv_iload_n hx hb dX10_worked_26 rfl (lv_at hl 2 rfl) ?_
          refine lv_sipush (v := 160) hx hb dX10_worked_27 (by decide) ?_
          refine lv_icmp_lt (tgt := 35) hx hb dX10_worked_30 (by decide) (fun c77 => ?_) (fun c77 => ?_)
          · have kc77 := jlt c77 rfl jz_160
            refine lv_aload_n hx hb dX10_worked_35 rfl (lv_at hl 3 rfl) ?_
            refine va_get (D := D) hx hb hts inlX10 hown hK hP 18 (jc_18 cI cL ad σ9 τ) rfl 4 (by decide) (hts _ kw_4_5) (fun _ h9 => h9) rfl dX10_worked_36 ?_
            refine lv_iload_n hx hb dX10_worked_39 rfl (lv_at hl 2 rfl) ?_
            obtain ⟨x78, ex78⟩ : ∃ y : Int32, y = x5 + 1 := ⟨_, rfl⟩
            have tx78 : x78.toInt = x5.toInt + 1 := (jadd ex78 rfl jz_1 (by omega) (by omega)).trans (by omega)
            refine lv_iinc (v := x78) (lv' := [(1, .int x78), (3, .int x20), (2, .int x6), (0, .ref (ad 18))]) hx hb dX10_worked_40 hl (k := 2) rfl (by rw [ex78]; rfl) (by decide) rfl (fun ls hl => ?_)
            refine lv_iload_n hx hb dX10_worked_43 rfl (lv_at hl 1 rfl) ?_
            refine lv_sipush (v := 10000) hx hb dX10_worked_44 (by decide) ?_
            refine lv_icmp_ge (tgt := 54) hx hb dX10_worked_47 (by decide) (fun c79 => ?_) (fun c79 => ?_)
            · have kc79 := jle c79 jz_10000 rfl
              refine lv_aload_n hx hb dX10_worked_54 rfl (lv_at hl 3 rfl) ?_
              refine va_get (D := D) hx hb hts inlX10 hown hK hP 18 (jc_18 cI cL ad σ9 τ) rfl 3 (by decide) (hts _ kw_4_4) (fun _ h9 => h9) rfl dX10_worked_55 ?_
              refine lv_iload_n hx hb dX10_worked_58 rfl (lv_at hl 1 rfl) ?_
              refine lv_sipush (v := 10000) hx hb dX10_worked_59 (by decide) ?_
              have g80 := jrg (rfl : x20.toInt = x20.toInt)
              refine lv_isub hx hb dX10_worked_62 ?_
              refine lv_topi (fun x81 ex81 => ?_)
              have tx81 : x81.toInt = x20.toInt - 10000 := (jsub ex81 rfl jz_10000 (by omega) (by omega)).trans (by omega)
              refine lv_bipush (v := 7) hx hb dX10_worked_63 (by decide) ?_
              refine lv_iand hx hb dX10_worked_65 ?_
              refine lv_topi (fun x82 ex82 => ?_)
              have gx82 := jrg (rfl : x82.toInt = x82.toInt)
              have g83 : 0 ≤ x82.toInt ∧ x82.toInt ≤ 7 := jmask ex82 3 (by decide) (by decide)
              refine jald hx hb hK hP (jc_20 cI cL ad σ9 τ) (jin rfl (by omega) (by omega)) dX10_worked_66 ?_
              refine lv_topi (fun x84 ex84 => ?_)
              refine jast hx hb hK hP hJ hA hS (jc_21 cI cL ad σ9 τ) (ja_21 cI cL ad σ9 τ _ _) (jin rfl (by omega) (by omega)) dX10_worked_67 (fun σ85 H locs eσ85 hP hS => ?_)
              refine lv_goto (tgt := 259) hx hb dX10_worked_68 (by decide) ?_
              obtain ⟨x86, ex86⟩ : ∃ y : Int32, y = x6 + 1 := ⟨_, rfl⟩
              have tx86 : x86.toInt = x6.toInt + 1 := (jadd ex86 rfl jz_1 (by omega) (by omega)).trans (by omega)
              refine lv_iinc (v := x86) (lv' := [(2, .int x86), (1, .int x78), (3, .int x20), (0, .ref (ad 18))]) hx hb dX10_worked_259 hl (k := 2) rfl (by rw [ex86]; rfl) (by decide) rfl (fun ls hl => ?_)
              refine lv_goto (tgt := 4) hx hb dX10_worked_262 (by decide) ?_
              exact ihlp3 x78 x86 σ85 _ _ ls (by have h90 := tx78; have h91 := tx86; omega) (by have h90 := tx78; have h91 := tx86; omega) (by have h90 := tx78; have h91 := tx86; omega) (by have h90 := tx78; have h91 := tx86; omega) (by have h90 := tx78; have h91 := tx86; omega) (fun i hi => ((jnp i eσ85 (imp_33 i hi)).trans (f15 i hi)))    hP hS (lv_sub hl [0, 1, 3] rfl)
            · have kc79 := jnle c79 jz_10000 rfl
              refine lv_iload_n hx hb dX10_worked_50 rfl (lv_at hl 1 rfl) ?_
              refine lv_goto (tgt := 67) hx hb dX10_worked_51 (by decide) ?_
              refine jast hx hb hK hP hJ hA hS (jc_21 cI cL ad σ9 τ) (ja_21 cI cL ad σ9 τ _ _) (jin rfl (by omega) (by omega)) dX10_worked_67 (fun σ87 H locs eσ87 hP hS => ?_)
              refine lv_goto (tgt := 259) hx hb dX10_worked_68 (by decide) ?_
              obtain ⟨x88, ex88⟩ : ∃ y : Int32, y = x6 + 1 := ⟨_, rfl⟩
              have tx88 : x88.toInt = x6.toInt + 1 := (jadd ex88 rfl jz_1 (by omega) (by omega)).trans (by omega)
              refine lv_iinc (v := x88) (lv' := [(2, .int x88), (1, .int x78), (3, .int x20), (0, .ref (ad 18))]) hx hb dX10_worked_259 hl (k := 2) rfl (by rw [ex88]; rfl) (by decide) rfl (fun ls hl => ?_)
              refine lv_goto (tgt := 4) hx hb dX10_worked_262 (by decide) ?_
              exact ihlp3 x78 x88 σ87 _ _ ls (by have h90 := tx78; have h91 := tx88; omega) (by have h90 := tx78; have h91 := tx88; omega) (by have h90 := tx78; have h91 := tx88; omega) (by have h90 := tx78; have h91 := tx88; omega) (by have h90 := tx78; have h91 := tx88; omega) (fun i hi => ((jnp i eσ87 (imp_33 i hi)).trans (f15 i hi)))    hP hS (lv_sub hl [0, 1, 3] rfl)
          · have kc77 := jnlt c77 rfl jz_160
            refine lv_iconst (v := 0) hx hb dX10_worked_33 (by decide) ?_
            exact hret 0 σ9 τ _ _ _ _ rfl ⟨rfl, (fun i hi => (f15 i hi)), trivial⟩ hP hS dX10_worked_34
  exact lp3 1000000 0 0 σ _ _ ls (by have h90 := jz_0; have h91 := jz_0; omega) (by have h90 := jz_0; have h91 := jz_0; omega) (by have h90 := jz_0; have h91 := jz_0; omega) (by have h90 := jz_0; have h91 := jz_0; omega) (by have h90 := jz_0; have h91 := jz_0; omega) (fun _ _ => rfl)   hP hS hl
set_option maxHeartbeats 4000000 in
set_option maxRecDepth 100000 in
theorem c_X10_worked_22 (l : Launch) (D : va_G) (cI cL : ClassId) (ad zz : Nat → Nat) (hJ : jD ad) (σ : Nat → Nat → Int32) (τ : Nat → Nat → Int64) (hI22 : jI22 σ) : jM l yX10_worked cX10_worked 5 (some .int) ({ frames := 1, cells := 0, slots := 0, locals := 22 }) D cI cL ad zz [.ref (ad 22)] σ τ (fun r σ' τ' => τ = τ' ∧ (∀ i : Nat, (i < 25 ∨ 25 < i) → σ' i = σ i) ∧ True) := by
  refine jM.of hJ (by decide +kernel) (nt := .int) rfl (Nat.le_of_ble_eq_true rfl) ?_
  intro p e s m args below meth c Q ls hC hret hl hP
  obtain ⟨hx, hb, hr, hml, hown, hts, hK, -, hlocks, hZ⟩ := hC
  have hown : s.vm.findClass RX10 = some m.cls := hown
  have hS : va_S (jA ad) s.heap s.heap [] := va_S.rf
  have hA : ∀ q, jA ad q → jA ad q := fun _ h => h
  have hl : lv_has ls 5 [(0, .ref (ad 22))] := hl
  obtain ⟨i1, w2⟩ : (0 ≤ (σ 22 0).toInt ∧ (σ 22 0).toInt ≤ 160) ∧ (∀ k : Nat, k < 160 → 0 ≤ (σ 23 k).toInt ∧ (σ 23 k).toInt ≤ 30000) := id hI22
  refine lv_iconst (v := 0) hx hb dX10_worked_0 (by decide) ?_
  refine lv_istore_n (lv' := [(1, .int 0), (0, .ref (ad 22))]) hx hb dX10_worked_1 rfl hl (by decide) rfl (fun ls hl => ?_)
  refine lv_iconst (v := 0) hx hb dX10_worked_2 (by decide) ?_
  refine lv_istore_n (lv' := [(2, .int 0), (1, .int 0), (0, .ref (ad 22))]) hx hb dX10_worked_3 rfl hl (by decide) rfl (fun ls hl => ?_)
  have lp3 : ∀ (n4 : Nat) (x5 : Int32) (x6 : Int32) (σ9 : Nat → Nat → Int32) (H : Heap) (locs : List Loc) (ls : Array Slot), (-x6.toInt + 30001 : Int) < n4 → 0 ≤ x5.toInt → x5.toInt ≤ 160 → 0 ≤ x6.toInt → x6.toInt ≤ 30000 → (∀ i : Nat, (i < 25 ∨ 25 < i) → σ9 i = σ i) → jH D cI cL ad σ9 τ H → va_S (jA ad) s.heap H locs → lv_has ls 5 [(2, .int x6), (1, .int x5), (0, .ref (ad 22))] → W p l e ({ frames := 1, cells := 0, slots := 0, locals := 22 }) s m args below meth c H locs 0 0 Q (F0 m 4 ls []) := by
    intro n4
    induction n4 with
    | zero => intro x5 x6 σ9 H locs ls h10 h11 h12 h13 h14; exact absurd h10 (by omega)
    | succ n4 ihlp3 =>
      intro x5 x6 σ9 H locs ls h10 h11 h12 h13 h14 f15 hP hS hl
      refine lv_iload_n hx hb dX10_worked_4 rfl (lv_at hl 0 rfl) ?_
      refine lv_aload_n hx hb dX10_worked_5 rfl (lv_at hl 2 rfl) ?_
      refine va_get (D := D) hx hb hts inlX10 hown hK hP 22 (jc_22 cI cL ad σ9 τ) rfl 0 (by decide) (hts _ kw_16_20) (fun _ h9 => h9) rfl dX10_worked_6 ?_
      have m16 : σ9 22 0 = (σ 22 0) := (congrFun (f15 22 (by decide)) 0)
      refine jtopr m16 ?_
      refine lv_icmp_ge (tgt := 265) hx hb dX10_worked_9 (by decide) (fun c17 => ?_) (fun c17 => ?_)
      · have kc17 := jle c17 rfl rfl
        refine lv_iconst (v := 0) hx hb dX10_worked_265 (by decide) ?_
        exact hret 0 σ9 τ _ _ _ _ rfl ⟨rfl, (fun i hi => (f15 i hi)), trivial⟩ hP hS dX10_worked_266
      · have kc17 := jnle c17 rfl rfl
        refine lv_aload_n hx hb dX10_worked_12 rfl (lv_at hl 2 rfl) ?_
        refine va_get (D := D) hx hb hts inlX10 hown hK hP 22 (jc_22 cI cL ad σ9 τ) rfl 2 (by decide) (hts _ kw_4_3) (fun _ h9 => h9) rfl dX10_worked_13 ?_
        refine lv_iload_n hx hb dX10_worked_16 rfl (lv_at hl 0 rfl) ?_
        refine jald hx hb hK hP (jc_23 cI cL ad σ9 τ) (jin rfl (by omega) (by omega)) dX10_worked_17 ?_
        have w18 : ∀ k : Nat, k < 160 → 0 ≤ (σ9 23 k).toInt ∧ (σ9 23 k).toInt ≤ 30000 := (jrr_fr (f15 23 (by decide)) w2)
        have g19 := w18 _ (jnat (x := x6) rfl (n := 160) (by omega) (by decide))
        refine lv_topi (fun x20 ex20 => ?_)
        rw [← ex20] at g19
        refine lv_istore_n (lv' := [(3, .int x20), (2, .int x6), (1, .int x5), (0, .ref (ad 22))]) hx hb dX10_worked_18 rfl hl (by decide) rfl (fun ls hl => ?_)
        refine lv_iload_n hx hb dX10_worked_19 rfl (lv_at hl 0 rfl) ?_
        refine lv_sipush (v := 20000) hx hb dX10_worked_20 (by decide) ?_
        refine lv_icmp_ge (tgt := 71) hx hb dX10_worked_23 (by decide) (fun c21 => ?_) (fun c21 => ?_)
        · have kc21 := jle c21 jz_20000 rfl
          refine lv_iload_n hx hb dX10_worked_71 rfl (lv_at hl 2 rfl) ?_
          refine lv_iconst (v := 1) hx hb dX10_worked_72 (by decide) ?_
          refine lv_icmp_lt (tgt := 83) hx hb dX10_worked_73 (by decide) (fun c22 => ?_) (fun c22 => ?_)
          · have kc22 := jlt c22 rfl jz_1
            refine lv_iload_n hx hb dX10_worked_83 rfl (lv_at hl 2 rfl) ?_
            refine lv_iconst (v := 1) hx hb dX10_worked_84 (by decide) ?_
            refine lv_icmp_ge (tgt := 92) hx hb dX10_worked_85 (by decide) (fun c => absurd (jle c jz_1 rfl) (by omega)) (fun c23 => ?_)
            have kc23 := jnle c23 jz_1 rfl
            refine lv_iconst (v := 0) hx hb dX10_worked_88 (by decide) ?_
            refine lv_goto (tgt := 100) hx hb dX10_worked_89 (by decide) ?_
            exact hret 0 σ9 τ _ _ _ _ rfl ⟨rfl, (fun i hi => (f15 i hi)), trivial⟩ hP hS dX10_worked_100
          · have kc22 := jnlt c22 rfl jz_1
            refine lv_iload_n hx hb dX10_worked_76 rfl (lv_at hl 0 rfl) ?_
            refine lv_sipush (v := 20059) hx hb dX10_worked_77 (by decide) ?_
            refine lv_icmp_ne (tgt := 101) hx hb dX10_worked_80 (by decide) (fun c24 => ?_) (fun c24 => ?_)
            · have kc24 := jne c24 rfl jz_20059
              refine lv_iload_n hx hb dX10_worked_101 rfl (lv_at hl 0 rfl) ?_
              refine lv_sipush (v := 20063) hx hb dX10_worked_102 (by decide) ?_
              refine lv_icmp_ne (tgt := 160) hx hb dX10_worked_105 (by decide) (fun c25 => ?_) (fun c25 => ?_)
              · have kc25 := jne c25 rfl jz_20063
                refine lv_iload_n hx hb dX10_worked_160 rfl (lv_at hl 0 rfl) ?_
                refine lv_sipush (v := 20033) hx hb dX10_worked_161 (by decide) ?_
                refine lv_icmp_ne (tgt := 194) hx hb dX10_worked_164 (by decide) (fun c26 => ?_) (fun c26 => ?_)
                · have kc26 := jne c26 rfl jz_20033
                  refine lv_iload_n hx hb dX10_worked_194 rfl (lv_at hl 0 rfl) ?_
                  refine lv_sipush (v := 20126) hx hb dX10_worked_195 (by decide) ?_
                  refine lv_icmp_ne (tgt := 221) hx hb dX10_worked_198 (by decide) (fun c27 => ?_) (fun c27 => ?_)
                  · have kc27 := jne c27 rfl jz_20126
                    refine lv_iload_n hx hb dX10_worked_221 rfl (lv_at hl 2 rfl) ?_
                    refine lv_iconst (v := 1) hx hb dX10_worked_222 (by decide) ?_
                    refine lv_icmp_le (tgt := 259) hx hb dX10_worked_223 (by decide) (fun c28 => ?_) (fun c28 => ?_)
                    · have kc28 := jle c28 rfl jz_1
                      obtain ⟨x29, ex29⟩ : ∃ y : Int32, y = x6 + 1 := ⟨_, rfl⟩
                      have tx29 : x29.toInt = x6.toInt + 1 := (jadd ex29 rfl jz_1 (by omega) (by omega)).trans (by omega)
                      refine lv_iinc (v := x29) (lv' := [(2, .int x29), (3, .int x20), (1, .int x5), (0, .ref (ad 22))]) hx hb dX10_worked_259 hl (k := 1) rfl (by rw [ex29]; rfl) (by decide) rfl (fun ls hl => ?_)
                      refine lv_goto (tgt := 4) hx hb dX10_worked_262 (by decide) ?_
                      exact ihlp3 x5 x29 σ9 _ _ ls (by have h91 := tx29; omega) (by have h91 := tx29; omega) (by have h91 := tx29; omega) (by have h91 := tx29; omega) (by have h91 := tx29; omega) (fun i hi => (f15 i hi))    hP hS (lv_sub hl [0, 2, 3] rfl)
                    · have kc28 := jnle c28 rfl jz_1
                      obtain ⟨x30, ex30⟩ : ∃ y : Int32, y = x5 + (-1) := ⟨_, rfl⟩
                      have tx30 : x30.toInt = x5.toInt - 1 := (jadd ex30 rfl jz_m1 (by omega) (by omega)).trans (by omega)
                      refine lv_iinc (v := x30) (lv' := [(1, .int x30), (3, .int x20), (2, .int x6), (0, .ref (ad 22))]) hx hb dX10_worked_226 hl (k := 2) rfl (by rw [ex30]; rfl) (by decide) rfl (fun ls hl => ?_)
                      refine lv_aload_n hx hb dX10_worked_229 rfl (lv_at hl 3 rfl) ?_
                      refine va_get (D := D) hx hb hts inlX10 hown hK hP 22 (jc_22 cI cL ad σ9 τ) rfl 4 (by decide) (hts _ kw_4_5) (fun _ h9 => h9) rfl dX10_worked_230 ?_
                      refine lv_iload_n hx hb dX10_worked_233 rfl (lv_at hl 0 rfl) ?_
                      refine lv_iconst (v := 1) hx hb dX10_worked_234 (by decide) ?_
                      refine lv_isub hx hb dX10_worked_235 ?_
                      refine lv_topi (fun x31 ex31 => ?_)
                      have tx31 : x31.toInt = x5.toInt - 2 := (jsub ex31 tx30 jz_1 (by omega) (by omega)).trans (by omega)
                      refine lv_iload_n hx hb dX10_worked_236 rfl (lv_at hl 1 rfl) ?_
                      refine lv_sipush (v := 20000) hx hb dX10_worked_237 (by decide) ?_
                      have g32 := jrg (rfl : x20.toInt = x20.toInt)
                      refine lv_isub hx hb dX10_worked_240 ?_
                      refine lv_topi (fun x33 ex33 => ?_)
                      have tx33 : x33.toInt = x20.toInt - 20000 := (jsub ex33 rfl jz_20000 (by omega) (by omega)).trans (by omega)
                      refine lv_aload_n hx hb dX10_worked_241 rfl (lv_at hl 3 rfl) ?_
                      refine va_get (D := D) hx hb hts inlX10 hown hK hP 22 (jc_22 cI cL ad σ9 τ) rfl 4 (by decide) (hts _ kw_4_5) (fun _ h9 => h9) rfl dX10_worked_242 ?_
                      refine lv_iload_n hx hb dX10_worked_245 rfl (lv_at hl 0 rfl) ?_
                      refine lv_iconst (v := 1) hx hb dX10_worked_246 (by decide) ?_
                      refine lv_isub hx hb dX10_worked_247 ?_
                      refine lv_topi (fun x34 ex34 => ?_)
                      have tx34 : x34.toInt = x5.toInt - 2 := (jsub ex34 tx30 jz_1 (by omega) (by omega)).trans (by omega)
                      refine jald hx hb hK hP (jc_25 cI cL ad σ9 τ) (jin tx34 (by omega) (by omega)) dX10_worked_248 ?_
                      refine lv_topi (fun x35 ex35 => ?_)
                      refine lv_aload_n hx hb dX10_worked_249 rfl (lv_at hl 3 rfl) ?_
                      refine va_get (D := D) hx hb hts inlX10 hown hK hP 22 (jc_22 cI cL ad σ9 τ) rfl 4 (by decide) (hts _ kw_4_5) (fun _ h9 => h9) rfl dX10_worked_250 ?_
                      refine lv_iload_n hx hb dX10_worked_253 rfl (lv_at hl 0 rfl) ?_
                      refine jald hx hb hK hP (jc_25 cI cL ad σ9 τ) (jin tx30 (by omega) (by omega)) dX10_worked_254 ?_
                      refine lv_topi (fun x36 ex36 => ?_)
                      refine jcallS (As := [.int x33, .int x35, .int x36]) (rest := [.int x31, .ref (ad 25)]) ⟨hx, hb, hml, hown, hts⟩ hK hP hA hS hZ (c_X10_joined l D cI cL ad zz hJ σ9 τ x33 (x20.toInt - 20000) tx33 x35 (x35.toInt) rfl x36 (x36.toInt) rfl) cw_RX10_38 ⟨Nat.le_of_ble_eq_true rfl, Nat.le_of_ble_eq_true rfl⟩ rfl rfl rfl hl.1 rfl (Nat.le_of_ble_eq_true rfl) dX10_worked_255 ⟨Nat.zero_le _, Nat.zero_le _⟩ (fun r38 σ37 τ37 H locs h37 hP hS => ?_)
                      obtain ⟨⟨rfl, rfl⟩, h37⟩ := h37
                      refine jast hx hb hK hP hJ hA hS (jc_25 cI cL ad σ9 τ) (ja_25 cI cL ad σ9 τ _ _) (jin tx31 (by omega) (by omega)) dX10_worked_258 (fun σ39 H locs eσ39 hP hS => ?_)
                      obtain ⟨x40, ex40⟩ : ∃ y : Int32, y = x6 + 1 := ⟨_, rfl⟩
                      have tx40 : x40.toInt = x6.toInt + 1 := (jadd ex40 rfl jz_1 (by omega) (by omega)).trans (by omega)
                      refine lv_iinc (v := x40) (lv' := [(2, .int x40), (1, .int x30), (3, .int x20), (0, .ref (ad 22))]) hx hb dX10_worked_259 hl (k := 2) rfl (by rw [ex40]; rfl) (by decide) rfl (fun ls hl => ?_)
                      refine lv_goto (tgt := 4) hx hb dX10_worked_262 (by decide) ?_
                      exact ihlp3 x30 x40 σ39 _ _ ls (by have h90 := tx30; have h91 := tx40; omega) (by have h90 := tx30; have h91 := tx40; omega) (by have h90 := tx30; have h91 := tx40; omega) (by have h90 := tx30; have h91 := tx40; omega) (by have h90 := tx30; have h91 := tx40; omega) (fun i hi => ((jnp i eσ39 (imp_34 i hi)).trans (f15 i hi)))    hP hS (lv_sub hl [0, 1, 3] rfl)
                  · have kc27 := jeq c27 rfl jz_20126
                    refine lv_aload_n hx hb dX10_worked_201 rfl (lv_at hl 3 rfl) ?_
                    refine va_get (D := D) hx hb hts inlX10 hown hK hP 22 (jc_22 cI cL ad σ9 τ) rfl 4 (by decide) (hts _ kw_4_5) (fun _ h9 => h9) rfl dX10_worked_202 ?_
                    refine lv_iload_n hx hb dX10_worked_205 rfl (lv_at hl 2 rfl) ?_
                    refine lv_iconst (v := 1) hx hb dX10_worked_206 (by decide) ?_
                    have g41 := jrg (rfl : x5.toInt = x5.toInt)
                    refine lv_isub hx hb dX10_worked_207 ?_
                    refine lv_topi (fun x42 ex42 => ?_)
                    have tx42 : x42.toInt = x5.toInt - 1 := (jsub ex42 rfl jz_1 (by omega) (by omega)).trans (by omega)
                    refine lv_aload_n hx hb dX10_worked_208 rfl (lv_at hl 3 rfl) ?_
                    refine va_get (D := D) hx hb hts inlX10 hown hK hP 22 (jc_22 cI cL ad σ9 τ) rfl 4 (by decide) (hts _ kw_4_5) (fun _ h9 => h9) rfl dX10_worked_209 ?_
                    refine lv_iload_n hx hb dX10_worked_212 rfl (lv_at hl 2 rfl) ?_
                    refine lv_iconst (v := 1) hx hb dX10_worked_213 (by decide) ?_
                    refine lv_isub hx hb dX10_worked_214 ?_
                    refine lv_topi (fun x43 ex43 => ?_)
                    have tx43 : x43.toInt = x5.toInt - 1 := (jsub ex43 rfl jz_1 (by omega) (by omega)).trans (by omega)
                    refine jald hx hb hK hP (jc_25 cI cL ad σ9 τ) (jin tx43 (by omega) (by omega)) dX10_worked_215 ?_
                    refine lv_topi (fun x44 ex44 => ?_)
                    refine lv_ineg hx hb dX10_worked_216 ?_
                    refine lv_topi (fun x45 ex45 => ?_)
                    have gx45 := jrg (rfl : x45.toInt = x45.toInt)
                    refine jast hx hb hK hP hJ hA hS (jc_25 cI cL ad σ9 τ) (ja_25 cI cL ad σ9 τ _ _) (jin tx42 (by omega) (by omega)) dX10_worked_217 (fun σ46 H locs eσ46 hP hS => ?_)
                    refine lv_goto (tgt := 259) hx hb dX10_worked_218 (by decide) ?_
                    obtain ⟨x47, ex47⟩ : ∃ y : Int32, y = x6 + 1 := ⟨_, rfl⟩
                    have tx47 : x47.toInt = x6.toInt + 1 := (jadd ex47 rfl jz_1 (by omega) (by omega)).trans (by omega)
                    refine lv_iinc (v := x47) (lv' := [(2, .int x47), (3, .int x20), (1, .int x5), (0, .ref (ad 22))]) hx hb dX10_worked_259 hl (k := 1) rfl (by rw [ex47]; rfl) (by decide) rfl (fun ls hl => ?_)
                    refine lv_goto (tgt := 4) hx hb dX10_worked_262 (by decide) ?_
                    exact ihlp3 x5 x47 σ46 _ _ ls (by have h91 := tx47; omega) (by have h91 := tx47; omega) (by have h91 := tx47; omega) (by have h91 := tx47; omega) (by have h91 := tx47; omega) (fun i hi => ((jnp i eσ46 (imp_34 i hi)).trans (f15 i hi)))    hP hS (lv_sub hl [0, 2, 3] rfl)
                · have kc26 := jeq c26 rfl jz_20033
                  refine lv_aload_n hx hb dX10_worked_167 rfl (lv_at hl 3 rfl) ?_
                  refine va_get (D := D) hx hb hts inlX10 hown hK hP 22 (jc_22 cI cL ad σ9 τ) rfl 4 (by decide) (hts _ kw_4_5) (fun _ h9 => h9) rfl dX10_worked_168 ?_
                  refine lv_iload_n hx hb dX10_worked_171 rfl (lv_at hl 2 rfl) ?_
                  refine lv_iconst (v := 1) hx hb dX10_worked_172 (by decide) ?_
                  have g48 := jrg (rfl : x5.toInt = x5.toInt)
                  refine lv_isub hx hb dX10_worked_173 ?_
                  refine lv_topi (fun x49 ex49 => ?_)
                  have tx49 : x49.toInt = x5.toInt - 1 := (jsub ex49 rfl jz_1 (by omega) (by omega)).trans (by omega)
                  refine lv_aload_n hx hb dX10_worked_174 rfl (lv_at hl 3 rfl) ?_
                  refine va_get (D := D) hx hb hts inlX10 hown hK hP 22 (jc_22 cI cL ad σ9 τ) rfl 4 (by decide) (hts _ kw_4_5) (fun _ h9 => h9) rfl dX10_worked_175 ?_
                  refine lv_iload_n hx hb dX10_worked_178 rfl (lv_at hl 2 rfl) ?_
                  refine lv_iconst (v := 1) hx hb dX10_worked_179 (by decide) ?_
                  refine lv_isub hx hb dX10_worked_180 ?_
                  refine lv_topi (fun x50 ex50 => ?_)
                  have tx50 : x50.toInt = x5.toInt - 1 := (jsub ex50 rfl jz_1 (by omega) (by omega)).trans (by omega)
                  refine jald hx hb hK hP (jc_25 cI cL ad σ9 τ) (jin tx50 (by omega) (by omega)) dX10_worked_181 ?_
                  refine lv_topi (fun x51 ex51 => ?_)
                  refine lv_if_ne (tgt := 189) hx hb dX10_worked_182 (by decide) (fun c52 => ?_) (fun c52 => ?_)
                  · have kc52 := jne c52 rfl jz_0
                    refine lv_iconst (v := 0) hx hb dX10_worked_189 (by decide) ?_
                    refine jast hx hb hK hP hJ hA hS (jc_25 cI cL ad σ9 τ) (ja_25 cI cL ad σ9 τ _ _) (jin tx49 (by omega) (by omega)) dX10_worked_190 (fun σ53 H locs eσ53 hP hS => ?_)
                    refine lv_goto (tgt := 259) hx hb dX10_worked_191 (by decide) ?_
                    obtain ⟨x54, ex54⟩ : ∃ y : Int32, y = x6 + 1 := ⟨_, rfl⟩
                    have tx54 : x54.toInt = x6.toInt + 1 := (jadd ex54 rfl jz_1 (by omega) (by omega)).trans (by omega)
                    refine lv_iinc (v := x54) (lv' := [(2, .int x54), (3, .int x20), (1, .int x5), (0, .ref (ad 22))]) hx hb dX10_worked_259 hl (k := 1) rfl (by rw [ex54]; rfl) (by decide) rfl (fun ls hl => ?_)
                    refine lv_goto (tgt := 4) hx hb dX10_worked_262 (by decide) ?_
                    exact ihlp3 x5 x54 σ53 _ _ ls (by have h91 := tx54; omega) (by have h91 := tx54; omega) (by have h91 := tx54; omega) (by have h91 := tx54; omega) (by have h91 := tx54; omega) (fun i hi => ((jnp i eσ53 (imp_34 i hi)).trans (f15 i hi)))    hP hS (lv_sub hl [0, 2, 3] rfl)
                  · have kc52 := jeq c52 rfl jz_0
                    refine lv_iconst (v := 1) hx hb dX10_worked_185 (by decide) ?_
                    refine lv_goto (tgt := 190) hx hb dX10_worked_186 (by decide) ?_
                    refine jast hx hb hK hP hJ hA hS (jc_25 cI cL ad σ9 τ) (ja_25 cI cL ad σ9 τ _ _) (jin tx49 (by omega) (by omega)) dX10_worked_190 (fun σ55 H locs eσ55 hP hS => ?_)
                    refine lv_goto (tgt := 259) hx hb dX10_worked_191 (by decide) ?_
                    obtain ⟨x56, ex56⟩ : ∃ y : Int32, y = x6 + 1 := ⟨_, rfl⟩
                    have tx56 : x56.toInt = x6.toInt + 1 := (jadd ex56 rfl jz_1 (by omega) (by omega)).trans (by omega)
                    refine lv_iinc (v := x56) (lv' := [(2, .int x56), (3, .int x20), (1, .int x5), (0, .ref (ad 22))]) hx hb dX10_worked_259 hl (k := 1) rfl (by rw [ex56]; rfl) (by decide) rfl (fun ls hl => ?_)
                    refine lv_goto (tgt := 4) hx hb dX10_worked_262 (by decide) ?_
                    exact ihlp3 x5 x56 σ55 _ _ ls (by have h91 := tx56; omega) (by have h91 := tx56; omega) (by have h91 := tx56; omega) (by have h91 := tx56; omega) (by have h91 := tx56; omega) (fun i hi => ((jnp i eσ55 (imp_34 i hi)).trans (f15 i hi)))    hP hS (lv_sub hl [0, 2, 3] rfl)
              · have kc25 := jeq c25 rfl jz_20063
                refine lv_aload_n hx hb dX10_worked_108 rfl (lv_at hl 3 rfl) ?_
                refine va_get (D := D) hx hb hts inlX10 hown hK hP 22 (jc_22 cI cL ad σ9 τ) rfl 4 (by decide) (hts _ kw_4_5) (fun _ h9 => h9) rfl dX10_worked_109 ?_
                refine lv_iload_n hx hb dX10_worked_112 rfl (lv_at hl 2 rfl) ?_
                refine lv_iconst (v := 1) hx hb dX10_worked_113 (by decide) ?_
                have g57 := jrg (rfl : x5.toInt = x5.toInt)
                refine lv_isub hx hb dX10_worked_114 ?_
                refine lv_topi (fun x58 ex58 => ?_)
                have tx58 : x58.toInt = x5.toInt - 1 := (jsub ex58 rfl jz_1 (by omega) (by omega)).trans (by omega)
                refine jald hx hb hK hP (jc_25 cI cL ad σ9 τ) (jin tx58 (by omega) (by omega)) dX10_worked_115 ?_
                refine lv_topi (fun x59 ex59 => ?_)
                refine lv_if_eq (tgt := 123) hx hb dX10_worked_116 (by decide) (fun c60 => ?_) (fun c60 => ?_)
                · have kc60 := jeq c60 rfl jz_0
                  refine lv_iconst (v := 0) hx hb dX10_worked_123 (by decide) ?_
                  refine lv_istore (lv' := [(4, .int 0), (3, .int x20), (2, .int x6), (1, .int x5), (0, .ref (ad 22))]) hx hb dX10_worked_124 hl (by decide) rfl (fun ls hl => ?_)
                  refine lv_iconst (v := 0) hx hb dX10_worked_126 (by decide) ?_
                  refine lv_istore_n (lv' := [(1, .int 0), (4, .int 0), (3, .int x20), (2, .int x6), (0, .ref (ad 22))]) hx hb dX10_worked_127 rfl hl (by decide) rfl (fun ls hl => ?_)
                  obtain ⟨x61, ex61⟩ : ∃ y : Int32, y = x6 + 1 := ⟨_, rfl⟩
                  have tx61 : x61.toInt = x6.toInt + 1 := (jadd ex61 rfl jz_1 (by omega) (by omega)).trans (by omega)
                  refine lv_iinc (v := x61) (lv' := [(2, .int x61), (1, .int 0), (4, .int 0), (3, .int x20), (0, .ref (ad 22))]) hx hb dX10_worked_128 hl (k := 3) rfl (by rw [ex61]; rfl) (by decide) rfl (fun ls hl => ?_)
                  refine lv_iload hx hb dX10_worked_131 (lv_at hl 2 rfl) ?_
                  refine lv_if_ne (tgt := 157) hx hb dX10_worked_133 (by decide) (fun c => absurd (by decide) c) (fun _ => ?_)
                  refine lv_iload_n hx hb dX10_worked_136 rfl (lv_at hl 0 rfl) ?_
                  refine lv_aload_n hx hb dX10_worked_137 rfl (lv_at hl 4 rfl) ?_
                  refine va_get (D := D) hx hb hts inlX10 hown hK hP 22 (jc_22 cI cL ad σ9 τ) rfl 0 (by decide) (hts _ kw_16_20) (fun _ h9 => h9) rfl dX10_worked_138 ?_
                  refine jtopr m16 ?_
                  refine lv_icmp_ge (tgt := 157) hx hb dX10_worked_141 (by decide) (fun c62 => ?_) (fun c62 => ?_)
                  · have kc62 := jle c62 rfl tx61
                    refine lv_goto (tgt := 259) hx hb dX10_worked_157 (by decide) ?_
                    obtain ⟨x63, ex63⟩ : ∃ y : Int32, y = x61 + 1 := ⟨_, rfl⟩
                    have tx63 : x63.toInt = x6.toInt + 2 := (jadd ex63 tx61 jz_1 (by omega) (by omega)).trans (by omega)
                    refine lv_iinc (v := x63) (lv' := [(2, .int x63), (1, .int 0), (4, .int 0), (3, .int x20), (0, .ref (ad 22))]) hx hb dX10_worked_259 hl (k := 0) rfl (by rw [ex63]; rfl) (by decide) rfl (fun ls hl => ?_)
                    refine lv_goto (tgt := 4) hx hb dX10_worked_262 (by decide) ?_
                    exact ihlp3 0 x63 σ9 _ _ ls (by have h90 := jz_0; have h91 := tx63; omega) (by have h90 := jz_0; have h91 := tx63; omega) (by have h90 := jz_0; have h91 := tx63; omega) (by have h90 := jz_0; have h91 := tx63; omega) (by have h90 := jz_0; have h91 := tx63; omega) (fun i hi => (f15 i hi))    hP hS (lv_sub hl [0, 1, 4] rfl)
                  · have kc62 := jnle c62 rfl tx61
                    refine lv_iload_n hx hb dX10_worked_144 rfl (lv_at hl 0 rfl) ?_
                    refine lv_aload_n hx hb dX10_worked_145 rfl (lv_at hl 4 rfl) ?_
                    refine va_get (D := D) hx hb hts inlX10 hown hK hP 22 (jc_22 cI cL ad σ9 τ) rfl 2 (by decide) (hts _ kw_4_3) (fun _ h9 => h9) rfl dX10_worked_146 ?_
                    refine lv_iload_n hx hb dX10_worked_149 rfl (lv_at hl 0 rfl) ?_
                    refine jald hx hb hK hP (jc_23 cI cL ad σ9 τ) (jin tx61 (by omega) (by omega)) dX10_worked_150 ?_
                    have g64 := w18 _ (jnat (x := x61) tx61 (n := 160) (by omega) (by decide))
                    refine lv_topi (fun x65 ex65 => ?_)
                    rw [← ex65] at g64
                    refine lv_iconst (v := 1) hx hb dX10_worked_151 (by decide) ?_
                    have g66 := jrg (rfl : x65.toInt = x65.toInt)
                    refine lv_isub hx hb dX10_worked_152 ?_
                    refine lv_topi (fun x67 ex67 => ?_)
                    have tx67 : x67.toInt = x65.toInt - 1 := (jsub ex67 rfl jz_1 (by omega) (by omega)).trans (by omega)
                    refine va_mmax hx hb (hml.trans hl.1.symm) hown (hts _ kw_22_21) (hts _ kw_21_0) (hts _ kw_21_1) (hts _ kw_21_2) (Nat.le_of_ble_eq_true rfl) (Nat.le_of_ble_eq_true rfl) (Nat.le_of_ble_eq_true rfl) (Nat.le_of_ble_eq_true rfl) dX10_worked_153 ?_
                    refine lv_topi (fun x68 ex68 => ?_)
                    have g69 := jmax ex68 tx61 tx67
                    refine lv_istore_n (lv' := [(2, .int x68), (1, .int 0), (4, .int 0), (3, .int x20), (0, .ref (ad 22))]) hx hb dX10_worked_156 rfl hl (by decide) rfl (fun ls hl => ?_)
                    refine lv_goto (tgt := 259) hx hb dX10_worked_157 (by decide) ?_
                    obtain ⟨x70, ex70⟩ : ∃ y : Int32, y = x68 + 1 := ⟨_, rfl⟩
                    have tx70 : x70.toInt = x68.toInt + 1 := (jadd ex70 rfl jz_1 (by omega) (by omega)).trans (by omega)
                    refine lv_iinc (v := x70) (lv' := [(2, .int x70), (1, .int 0), (4, .int 0), (3, .int x20), (0, .ref (ad 22))]) hx hb dX10_worked_259 hl (k := 0) rfl (by rw [ex70]; rfl) (by decide) rfl (fun ls hl => ?_)
                    refine lv_goto (tgt := 4) hx hb dX10_worked_262 (by decide) ?_
                    exact ihlp3 0 x70 σ9 _ _ ls (by have h90 := jz_0; have h91 := tx70; omega) (by have h90 := jz_0; have h91 := tx70; omega) (by have h90 := jz_0; have h91 := tx70; omega) (by have h90 := jz_0; have h91 := tx70; omega) (by have h90 := jz_0; have h91 := tx70; omega) (fun i hi => (f15 i hi))    hP hS (lv_sub hl [0, 1, 4] rfl)
                · have kc60 := jne c60 rfl jz_0
                  refine lv_iconst (v := 1) hx hb dX10_worked_119 (by decide) ?_
                  refine lv_goto (tgt := 124) hx hb dX10_worked_120 (by decide) ?_
                  refine lv_istore (lv' := [(4, .int 1), (3, .int x20), (2, .int x6), (1, .int x5), (0, .ref (ad 22))]) hx hb dX10_worked_124 hl (by decide) rfl (fun ls hl => ?_)
                  refine lv_iconst (v := 0) hx hb dX10_worked_126 (by decide) ?_
                  refine lv_istore_n (lv' := [(1, .int 0), (4, .int 1), (3, .int x20), (2, .int x6), (0, .ref (ad 22))]) hx hb dX10_worked_127 rfl hl (by decide) rfl (fun ls hl => ?_)
                  obtain ⟨x71, ex71⟩ : ∃ y : Int32, y = x6 + 1 := ⟨_, rfl⟩
                  have tx71 : x71.toInt = x6.toInt + 1 := (jadd ex71 rfl jz_1 (by omega) (by omega)).trans (by omega)
                  refine lv_iinc (v := x71) (lv' := [(2, .int x71), (1, .int 0), (4, .int 1), (3, .int x20), (0, .ref (ad 22))]) hx hb dX10_worked_128 hl (k := 3) rfl (by rw [ex71]; rfl) (by decide) rfl (fun ls hl => ?_)
                  refine lv_iload hx hb dX10_worked_131 (lv_at hl 2 rfl) ?_
                  refine lv_if_ne (tgt := 157) hx hb dX10_worked_133 (by decide) (fun _ => ?_) (fun c => absurd c (by decide))
                  refine lv_goto (tgt := 259) hx hb dX10_worked_157 (by decide) ?_
                  obtain ⟨x72, ex72⟩ : ∃ y : Int32, y = x71 + 1 := ⟨_, rfl⟩
                  have tx72 : x72.toInt = x6.toInt + 2 := (jadd ex72 tx71 jz_1 (by omega) (by omega)).trans (by omega)
                  refine lv_iinc (v := x72) (lv' := [(2, .int x72), (1, .int 0), (4, .int 1), (3, .int x20), (0, .ref (ad 22))]) hx hb dX10_worked_259 hl (k := 0) rfl (by rw [ex72]; rfl) (by decide) rfl (fun ls hl => ?_)
                  refine lv_goto (tgt := 4) hx hb dX10_worked_262 (by decide) ?_
                  exact ihlp3 0 x72 σ9 _ _ ls (by have h90 := jz_0; have h91 := tx72; omega) (by have h90 := jz_0; have h91 := tx72; omega) (by have h90 := jz_0; have h91 := tx72; omega) (by have h90 := jz_0; have h91 := tx72; omega) (by have h90 := jz_0; have h91 := tx72; omega) (fun i hi => (f15 i hi))    hP hS (lv_sub hl [0, 1, 4] rfl)
            · have kc24 := jeq c24 rfl jz_20059
              refine lv_iload_n hx hb dX10_worked_83 rfl (lv_at hl 2 rfl) ?_
              refine lv_iconst (v := 1) hx hb dX10_worked_84 (by decide) ?_
              refine lv_icmp_ge (tgt := 92) hx hb dX10_worked_85 (by decide) (fun c73 => ?_) (fun c => absurd (jnle c jz_1 rfl) (by omega))
              have kc73 := jle c73 jz_1 rfl
              refine lv_aload_n hx hb dX10_worked_92 rfl (lv_at hl 3 rfl) ?_
              refine va_get (D := D) hx hb hts inlX10 hown hK hP 22 (jc_22 cI cL ad σ9 τ) rfl 4 (by decide) (hts _ kw_4_5) (fun _ h9 => h9) rfl dX10_worked_93 ?_
              refine lv_iload_n hx hb dX10_worked_96 rfl (lv_at hl 2 rfl) ?_
              refine lv_iconst (v := 1) hx hb dX10_worked_97 (by decide) ?_
              have g74 := jrg (rfl : x5.toInt = x5.toInt)
              refine lv_isub hx hb dX10_worked_98 ?_
              refine lv_topi (fun x75 ex75 => ?_)
              have tx75 : x75.toInt = x5.toInt - 1 := (jsub ex75 rfl jz_1 (by omega) (by omega)).trans (by omega)
              refine jald hx hb hK hP (jc_25 cI cL ad σ9 τ) (jin tx75 (by omega) (by omega)) dX10_worked_99 ?_
              refine lv_topi (fun x76 ex76 => ?_)
              exact hret x76 σ9 τ _ _ _ _ rfl ⟨rfl, (fun i hi => (f15 i hi)), trivial⟩ hP hS dX10_worked_100
        · have kc21 := jnle c21 jz_20000 rfl
          refine lv_iload_n hx hb dX10_worked_26 rfl (lv_at hl 2 rfl) ?_
          refine lv_sipush (v := 160) hx hb dX10_worked_27 (by decide) ?_
          refine lv_icmp_lt (tgt := 35) hx hb dX10_worked_30 (by decide) (fun c77 => ?_) (fun c77 => ?_)
          · have kc77 := jlt c77 rfl jz_160
            refine lv_aload_n hx hb dX10_worked_35 rfl (lv_at hl 3 rfl) ?_
            refine va_get (D := D) hx hb hts inlX10 hown hK hP 22 (jc_22 cI cL ad σ9 τ) rfl 4 (by decide) (hts _ kw_4_5) (fun _ h9 => h9) rfl dX10_worked_36 ?_
            refine lv_iload_n hx hb dX10_worked_39 rfl (lv_at hl 2 rfl) ?_
            obtain ⟨x78, ex78⟩ : ∃ y : Int32, y = x5 + 1 := ⟨_, rfl⟩
            have tx78 : x78.toInt = x5.toInt + 1 := (jadd ex78 rfl jz_1 (by omega) (by omega)).trans (by omega)
            refine lv_iinc (v := x78) (lv' := [(1, .int x78), (3, .int x20), (2, .int x6), (0, .ref (ad 22))]) hx hb dX10_worked_40 hl (k := 2) rfl (by rw [ex78]; rfl) (by decide) rfl (fun ls hl => ?_)
            refine lv_iload_n hx hb dX10_worked_43 rfl (lv_at hl 1 rfl) ?_
            refine lv_sipush (v := 10000) hx hb dX10_worked_44 (by decide) ?_
            refine lv_icmp_ge (tgt := 54) hx hb dX10_worked_47 (by decide) (fun c79 => ?_) (fun c79 => ?_)
            · have kc79 := jle c79 jz_10000 rfl
              refine lv_aload_n hx hb dX10_worked_54 rfl (lv_at hl 3 rfl) ?_
              refine va_get (D := D) hx hb hts inlX10 hown hK hP 22 (jc_22 cI cL ad σ9 τ) rfl 3 (by decide) (hts _ kw_4_4) (fun _ h9 => h9) rfl dX10_worked_55 ?_
              refine lv_iload_n hx hb dX10_worked_58 rfl (lv_at hl 1 rfl) ?_
              refine lv_sipush (v := 10000) hx hb dX10_worked_59 (by decide) ?_
              have g80 := jrg (rfl : x20.toInt = x20.toInt)
              refine lv_isub hx hb dX10_worked_62 ?_
              refine lv_topi (fun x81 ex81 => ?_)
              have tx81 : x81.toInt = x20.toInt - 10000 := (jsub ex81 rfl jz_10000 (by omega) (by omega)).trans (by omega)
              refine lv_bipush (v := 7) hx hb dX10_worked_63 (by decide) ?_
              refine lv_iand hx hb dX10_worked_65 ?_
              refine lv_topi (fun x82 ex82 => ?_)
              have gx82 := jrg (rfl : x82.toInt = x82.toInt)
              have g83 : 0 ≤ x82.toInt ∧ x82.toInt ≤ 7 := jmask ex82 3 (by decide) (by decide)
              refine jald hx hb hK hP (jc_24 cI cL ad σ9 τ) (jin rfl (by omega) (by omega)) dX10_worked_66 ?_
              refine lv_topi (fun x84 ex84 => ?_)
              refine jast hx hb hK hP hJ hA hS (jc_25 cI cL ad σ9 τ) (ja_25 cI cL ad σ9 τ _ _) (jin rfl (by omega) (by omega)) dX10_worked_67 (fun σ85 H locs eσ85 hP hS => ?_)
              refine lv_goto (tgt := 259) hx hb dX10_worked_68 (by decide) ?_
              obtain ⟨x86, ex86⟩ : ∃ y : Int32, y = x6 + 1 := ⟨_, rfl⟩
              have tx86 : x86.toInt = x6.toInt + 1 := (jadd ex86 rfl jz_1 (by omega) (by omega)).trans (by omega)
              refine lv_iinc (v := x86) (lv' := [(2, .int x86), (1, .int x78), (3, .int x20), (0, .ref (ad 22))]) hx hb dX10_worked_259 hl (k := 2) rfl (by rw [ex86]; rfl) (by decide) rfl (fun ls hl => ?_)
              refine lv_goto (tgt := 4) hx hb dX10_worked_262 (by decide) ?_
              exact ihlp3 x78 x86 σ85 _ _ ls (by have h90 := tx78; have h91 := tx86; omega) (by have h90 := tx78; have h91 := tx86; omega) (by have h90 := tx78; have h91 := tx86; omega) (by have h90 := tx78; have h91 := tx86; omega) (by have h90 := tx78; have h91 := tx86; omega) (fun i hi => ((jnp i eσ85 (imp_34 i hi)).trans (f15 i hi)))    hP hS (lv_sub hl [0, 1, 3] rfl)
            · have kc79 := jnle c79 jz_10000 rfl
              refine lv_iload_n hx hb dX10_worked_50 rfl (lv_at hl 1 rfl) ?_
              refine lv_goto (tgt := 67) hx hb dX10_worked_51 (by decide) ?_
              refine jast hx hb hK hP hJ hA hS (jc_25 cI cL ad σ9 τ) (ja_25 cI cL ad σ9 τ _ _) (jin rfl (by omega) (by omega)) dX10_worked_67 (fun σ87 H locs eσ87 hP hS => ?_)
              refine lv_goto (tgt := 259) hx hb dX10_worked_68 (by decide) ?_
              obtain ⟨x88, ex88⟩ : ∃ y : Int32, y = x6 + 1 := ⟨_, rfl⟩
              have tx88 : x88.toInt = x6.toInt + 1 := (jadd ex88 rfl jz_1 (by omega) (by omega)).trans (by omega)
              refine lv_iinc (v := x88) (lv' := [(2, .int x88), (1, .int x78), (3, .int x20), (0, .ref (ad 22))]) hx hb dX10_worked_259 hl (k := 2) rfl (by rw [ex88]; rfl) (by decide) rfl (fun ls hl => ?_)
              refine lv_goto (tgt := 4) hx hb dX10_worked_262 (by decide) ?_
              exact ihlp3 x78 x88 σ87 _ _ ls (by have h90 := tx78; have h91 := tx88; omega) (by have h90 := tx78; have h91 := tx88; omega) (by have h90 := tx78; have h91 := tx88; omega) (by have h90 := tx78; have h91 := tx88; omega) (by have h90 := tx78; have h91 := tx88; omega) (fun i hi => ((jnp i eσ87 (imp_34 i hi)).trans (f15 i hi)))    hP hS (lv_sub hl [0, 1, 3] rfl)
          · have kc77 := jnlt c77 rfl jz_160
            refine lv_iconst (v := 0) hx hb dX10_worked_33 (by decide) ?_
            exact hret 0 σ9 τ _ _ _ _ rfl ⟨rfl, (fun i hi => (f15 i hi)), trivial⟩ hP hS dX10_worked_34
  exact lp3 1000000 0 0 σ _ _ ls (by have h90 := jz_0; have h91 := jz_0; omega) (by have h90 := jz_0; have h91 := jz_0; omega) (by have h90 := jz_0; have h91 := jz_0; omega) (by have h90 := jz_0; have h91 := jz_0; omega) (by have h90 := jz_0; have h91 := jz_0; omega) (fun _ _ => rfl)   hP hS hl
set_option maxHeartbeats 4000000 in
set_option maxRecDepth 100000 in
theorem c_X10_uses_22 (l : Launch) (D : va_G) (cI cL : ClassId) (ad zz : Nat → Nat) (hJ : jD ad) (σ : Nat → Nat → Int32) (τ : Nat → Nat → Int64) (a1 : Int32) (A1 : Int) (t1 : a1.toInt = A1) : jM l yX10_uses cX10_uses 2 (some .boolean) ({ frames := 0, cells := 0, slots := 0, locals := 0 }) D cI cL ad zz [.ref (ad 22), .int a1] σ τ (fun r σ' τ' => (σ = σ' ∧ τ = τ') ∧ True) := by
  refine jM.of hJ (by decide +kernel) (nt := .boolean) rfl (Nat.le_of_ble_eq_true rfl) ?_
  intro p e s m args below meth c Q ls hC hret hl hP
  obtain ⟨hx, hb, hr, hml, hown, hts, hK, -, hlocks, hZ⟩ := hC
  have hown : s.vm.findClass RX10 = some m.cls := hown
  have hS : va_S (jA ad) s.heap s.heap [] := va_S.rf
  have hA : ∀ q, jA ad q → jA ad q := fun _ h => h
  have hl : lv_has ls 2 [(0, .ref (ad 22)), (1, .int a1)] := hl
  have g1 := jrg t1
  refine lv_aload_n hx hb dX10_uses_0 rfl (lv_at hl 0 rfl) ?_
  refine va_get (D := D) hx hb hts inlX10 hown hK hP 22 (jc_22 cI cL ad σ τ) rfl 1 (by decide) (hts _ kw_16_21) (fun _ h9 => h9) rfl dX10_uses_1 ?_
  refine lv_iload_n hx hb dX10_uses_4 rfl (lv_at hl 1 rfl) ?_
  refine lv_ishr hx hb dX10_uses_5 ?_
  refine lv_topi (fun x1 ex1 => ?_)
  have gx1 := jrg (rfl : x1.toInt = x1.toInt)
  refine lv_iconst (v := 1) hx hb dX10_uses_6 (by decide) ?_
  refine lv_iand hx hb dX10_uses_7 ?_
  refine lv_topi (fun x2 ex2 => ?_)
  have gx2 := jrg (rfl : x2.toInt = x2.toInt)
  have g3 : 0 ≤ x2.toInt ∧ x2.toInt ≤ 1 := jmask ex2 1 (by decide) (by decide)
  refine lv_if_eq (tgt := 15) hx hb dX10_uses_8 (by decide) (fun c4 => ?_) (fun c4 => ?_)
  · have kc4 := jeq c4 rfl jz_0
    refine lv_iconst (v := 0) hx hb dX10_uses_15 (by decide) ?_
    exact hret 0 σ τ _ _ _ _ rfl ⟨⟨rfl, rfl⟩, trivial⟩ hP hS dX10_uses_16
  · have kc4 := jne c4 rfl jz_0
    refine lv_iconst (v := 1) hx hb dX10_uses_11 (by decide) ?_
    refine lv_goto (tgt := 16) hx hb dX10_uses_12 (by decide) ?_
    exact hret 1 σ τ _ _ _ _ rfl ⟨⟨rfl, rfl⟩, trivial⟩ hP hS dX10_uses_16
set_option maxHeartbeats 4000000 in
set_option maxRecDepth 100000 in
theorem c_X7_take_9 (l : Launch) (D : va_G) (cI cL : ClassId) (ad zz : Nat → Nat) (hJ : jD ad) (σ : Nat → Nat → Int32) (τ : Nat → Nat → Int64) (a1 : Int32) (A1 : Int) (t1 : a1.toInt = A1) (a2 : Int32) (A2 : Int) (t2 : a2.toInt = A2) (hI9 : jI9 σ) (hp0 : 1 ≤ A1 ∧ A1 ≤ 4) (hp1 : (σ 9 0).toInt + A1 ≤ 80) : jM l yX7_take cX7_take 4 (some .int) ({ frames := 0, cells := 0, slots := 0, locals := 0 }) D cI cL ad zz [.ref (ad 9), .int a1, .int a2] σ τ (fun r σ' τ' => τ = τ' ∧ (∀ i : Nat, (i < 9 ∨ 10 < i) → σ' i = σ i) ∧ (∀ k : Nat, (k < 0 ∨ 0 < k) → σ' 9 k = σ 9 k) ∧ (jI9 σ') ∧ ((True ∧ (r.toInt = (σ 9 0).toInt + A1) ∧ ((σ' 9 0).toInt = (σ 9 0).toInt + A1)))) := by
  refine jM.of hJ (by decide +kernel) (nt := .int) rfl (Nat.le_of_ble_eq_true rfl) ?_
  intro p e s m args below meth c Q ls hC hret hl hP
  obtain ⟨hx, hb, hr, hml, hown, hts, hK, -, hlocks, hZ⟩ := hC
  have hown : s.vm.findClass RX7 = some m.cls := hown
  have hS : va_S (jA ad) s.heap s.heap [] := va_S.rf
  have hA : ∀ q, jA ad q → jA ad q := fun _ h => h
  have hl : lv_has ls 4 [(0, .ref (ad 9)), (1, .int a1), (2, .int a2)] := hl
  have g1 := jrg t1
  have g2 := jrg t2
  obtain ⟨i1, w2, w3⟩ : (0 ≤ (σ 9 0).toInt ∧ (σ 9 0).toInt ≤ 80) ∧ (∀ k : Nat, k < 80 → 0 ≤ (σ 10 k).toInt ∧ (σ 10 k).toInt ≤ 255) ∧ (∀ k : Nat, k < 8 → 0 ≤ (σ 11 k).toInt ∧ (σ 11 k).toInt ≤ 3) := id hI9
  refine lv_iconst (v := 0) hx hb dX7_take_0 (by decide) ?_
  refine lv_istore_n (lv' := [(3, .int 0), (0, .ref (ad 9)), (1, .int a1), (2, .int a2)]) hx hb dX7_take_1 rfl hl (by decide) rfl (fun ls hl => ?_)
  have lp4 : ∀ (n5 : Nat) (x6 : Int32) (σ7 : Nat → Nat → Int32) (H : Heap) (locs : List Loc) (ls : Array Slot), (-x6.toInt + 4 : Int) < n5 → 0 ≤ x6.toInt → x6.toInt ≤ 4 → x6.toInt ≤ A1 → (σ7 9 0).toInt = (σ 9 0).toInt + x6.toInt → (∀ i : Nat, (i < 9 ∨ 10 < i) → σ7 i = σ i) → (∀ k : Nat, (k < 0 ∨ 0 < k) → σ7 9 k = σ 9 k) → jI9 σ7 → jH D cI cL ad σ7 τ H → va_S (jA ad) s.heap H locs → lv_has ls 4 [(3, .int x6), (0, .ref (ad 9)), (1, .int a1), (2, .int a2)] → W p l e ({ frames := 0, cells := 0, slots := 0, locals := 0 }) s m args below meth c H locs 0 0 Q (F0 m 2 ls []) := by
    intro n5
    induction n5 with
    | zero => intro x6 σ7 H locs ls h8 h9 h10 h11 h12; exact absurd h8 (by omega)
    | succ n5 ihlp4 =>
      intro x6 σ7 H locs ls h8 h9 h10 h11 h12 f13 f14 p15 hP hS hl
      obtain ⟨i16, w17, w18⟩ : (0 ≤ (σ7 9 0).toInt ∧ (σ7 9 0).toInt ≤ 80) ∧ (∀ k : Nat, k < 80 → 0 ≤ (σ7 10 k).toInt ∧ (σ7 10 k).toInt ≤ 255) ∧ (∀ k : Nat, k < 8 → 0 ≤ (σ7 11 k).toInt ∧ (σ7 11 k).toInt ≤ 3) := id p15
      refine lv_iload_n hx hb dX7_take_2 rfl (lv_at hl 0 rfl) ?_
      refine lv_iload_n hx hb dX7_take_3 rfl (lv_at hl 2 rfl) ?_
      refine lv_icmp_ge (tgt := 53) hx hb dX7_take_4 (by decide) (fun c19 => ?_) (fun c19 => ?_)
      · have kc19 := jle c19 t1 rfl
        refine lv_aload_n hx hb dX7_take_53 rfl (lv_at hl 1 rfl) ?_
        refine va_get (D := D) hx hb hts inlX7 hown hK hP 9 (jc_9 cI cL ad σ7 τ) rfl 0 (by decide) (hts _ kw_13_0) (fun _ h9 => h9) rfl dX7_take_54 ?_
        exact hret (σ7 9 0) σ7 τ _ _ _ _ rfl ⟨rfl, (fun i hi => (f13 i hi)), (fun i hi => (f14 i hi)), p15, ⟨trivial, (by omega), (by omega)⟩⟩ hP hS dX7_take_57
      · have kc19 := jnle c19 t1 rfl
        refine lv_iload_n hx hb dX7_take_7 rfl (lv_at hl 0 rfl) ?_
        refine lv_iconst (v := 4) hx hb dX7_take_8 (by decide) ?_
        refine lv_icmp_ge (tgt := 53) hx hb dX7_take_9 (by decide) (fun c => absurd (jle c jz_4 rfl) (by omega)) (fun c20 => ?_)
        have kc20 := jnle c20 jz_4 rfl
        refine lv_aload_n hx hb dX7_take_12 rfl (lv_at hl 1 rfl) ?_
        refine va_get (D := D) hx hb hts inlX7 hown hK hP 9 (jc_9 cI cL ad σ7 τ) rfl 0 (by decide) (hts _ kw_13_0) (fun _ h9 => h9) rfl dX7_take_13 ?_
        refine lv_bipush (v := 80) hx hb dX7_take_16 (by decide) ?_
        refine lv_icmp_ge (tgt := 53) hx hb dX7_take_18 (by decide) (fun c => absurd (jle c jz_80 rfl) (by omega)) (fun c21 => ?_)
        have kc21 := jnle c21 jz_80 rfl
        refine lv_aload_n hx hb dX7_take_21 rfl (lv_at hl 1 rfl) ?_
        refine va_get (D := D) hx hb hts inlX7 hown hK hP 9 (jc_9 cI cL ad σ7 τ) rfl 3 (by decide) (hts _ kw_3_20) (fun _ h9 => h9) rfl dX7_take_22 ?_
        refine lv_aload_n hx hb dX7_take_25 rfl (lv_at hl 1 rfl) ?_
        refine lv_dup hx hb dX7_take_26 rfl ?_
        refine va_get (D := D) hx hb hts inlX7 hown hK hP 9 (jc_9 cI cL ad σ7 τ) rfl 0 (by decide) (hts _ kw_13_0) (fun _ h9 => h9) rfl dX7_take_27 ?_
        refine lv_dup_x1 hx hb dX7_take_30 rfl rfl ?_
        refine lv_iconst (v := 1) hx hb dX7_take_31 (by decide) ?_
        have g22 := jrg (rfl : (σ7 9 0).toInt = (σ7 9 0).toInt)
        refine lv_iadd hx hb dX7_take_32 ?_
        refine lv_topi (fun x23 ex23 => ?_)
        have tx23 : x23.toInt = (σ7 9 0).toInt + 1 := (jadd ex23 rfl jz_1 (by omega) (by omega)).trans (by omega)
        refine jput (ty := .int) hx hb hts inlX7 tyX7 tyX7_ok nmX7 hown hK hP hJ hA hS (jc_9 cI cL ad σ7 τ) rfl (k := 0) (by decide) (Nat.le_of_ble_eq_true rfl) (jp_9_0 cI cL ad σ7 τ x23) (hts _ kw_13_0) (fun _ h9 => h9) rfl (by decide +kernel) rfl rfl dX7_take_33 (fun σ24 H locs eσ24 hP hS => ?_)
        refine lv_iload_n hx hb dX7_take_36 rfl (lv_at hl 3 rfl) ?_
        refine lv_bipush (v := 8) hx hb dX7_take_37 (by decide) ?_
        refine lv_iload_n hx hb dX7_take_39 rfl (lv_at hl 0 rfl) ?_
        have g25 := jrg (rfl : x6.toInt = x6.toInt)
        refine lv_imul hx hb dX7_take_40 ?_
        refine lv_topi (fun x26 ex26 => ?_)
        have tx26 : x26.toInt = 8 * x6.toInt := (jmul ex26 jz_8 rfl (by omega) (by omega)).trans (by omega)
        refine lv_iushr hx hb dX7_take_41 rfl ?_
        refine lv_topi (fun x27 ex27 => ?_)
        have gx27 := jrg (rfl : x27.toInt = x27.toInt)
        refine lv_sipush (v := 255) hx hb dX7_take_42 (by decide) ?_
        refine lv_iand hx hb dX7_take_45 ?_
        refine lv_topi (fun x28 ex28 => ?_)
        have gx28 := jrg (rfl : x28.toInt = x28.toInt)
        have g29 : 0 ≤ x28.toInt ∧ x28.toInt ≤ 255 := jmask ex28 8 (by decide) (by decide)
        refine jast hx hb hK hP hJ hA hS (jc_10 cI cL ad σ24 τ) (ja_10 cI cL ad σ24 τ _ _) (jin rfl (by omega) (by omega)) dX7_take_46 (fun σ30 H locs eσ30 hP hS => ?_)
        obtain ⟨x31, ex31⟩ : ∃ y : Int32, y = x6 + 1 := ⟨_, rfl⟩
        have tx31 : x31.toInt = x6.toInt + 1 := (jadd ex31 rfl jz_1 (by omega) (by omega)).trans (by omega)
        refine lv_iinc (v := x31) (lv' := [(3, .int x31), (0, .ref (ad 9)), (1, .int a1), (2, .int a2)]) hx hb dX7_take_47 hl (k := 0) rfl (by rw [ex31]; rfl) (by decide) rfl (fun ls hl => ?_)
        refine lv_goto (tgt := 2) hx hb dX7_take_50 (by decide) ?_
        have z32 : (σ30 9 0).toInt = (σ7 9 0).toInt + 1 := ((congrArg Int32.toInt (show σ30 9 0 = x23 from ((congrFun (jnp 9 eσ30 (by decide)) 0).trans (jsp eσ24)))).trans tx23)
        have w33 : ∀ k : Nat, k < 80 → 0 ≤ (σ30 10 k).toInt ∧ (σ30 10 k).toInt ≤ 255 := (by rw [eσ30]; exact jrr_up (jrr_fr (jnp 10 eσ24 (by decide)) w17) (by omega) (by omega))
        have w34 : ∀ k : Nat, k < 8 → 0 ≤ (σ30 11 k).toInt ∧ (σ30 11 k).toInt ≤ 3 := (jrr_fr (jnp 11 eσ30 (by decide)) (jrr_fr (jnp 11 eσ24 (by decide)) w18))
        have I35 : jI9 σ30 := ⟨(by omega), w33, w34⟩
        exact ihlp4 x31 σ30 _ _ ls (by have h90 := tx31; omega) (by have h90 := tx31; omega) (by have h90 := tx31; omega) (by have h90 := tx31; omega) (by have h90 := tx31; omega) (fun i hi => ((jnp i eσ30 (imp_35 i hi)).trans ((jnp i eσ24 (imp_36 i hi)).trans (f13 i hi)))) (fun i hi => ((congrFun (jnp 9 eσ30 (by decide)) i).trans ((jkp i eσ24 (imp_4 i hi)).trans (f14 i hi))))  I35 hP hS (lv_sub hl [0, 1, 2, 3] rfl)
  exact lp4 1000000 0 σ _ _ ls (by have h90 := jz_0; omega) (by have h90 := jz_0; omega) (by have h90 := jz_0; omega) (by have h90 := jz_0; omega) (by have h90 := jz_0; omega) (fun _ _ => rfl) (fun _ _ => rfl)  hI9 hP hS hl
set_option maxHeartbeats 4000000 in
set_option maxRecDepth 100000 in
theorem c_X7_begin_9 (l : Launch) (D : va_G) (cI cL : ClassId) (ad zz : Nat → Nat) (hJ : jD ad) (σ : Nat → Nat → Int32) (τ : Nat → Nat → Int64) (hI9 : jI9 σ) : jMv l yX7_begin cX7_begin 1 none ({ frames := 0, cells := 0, slots := 0, locals := 0 }) D cI cL ad zz [.ref (ad 9)] σ τ (fun σ' τ' => τ = τ' ∧ (∀ i : Nat, (i < 9 ∨ 9 < i) → σ' i = σ i) ∧ (∀ k : Nat, (k < 1 ∨ 1 < k) ∧ (k < 2 ∨ 2 < k) → σ' 9 k = σ 9 k) ∧ (jI9 σ') ∧ (jI91 σ') ∧ (jI92 σ') ∧ True) := by
  refine jMv.of hJ (by decide +kernel) rfl (Nat.le_of_ble_eq_true rfl) ?_
  intro p e s m args below meth c Q ls hC hret hl hP
  obtain ⟨hx, hb, hr, hml, hown, hts, hK, -, hlocks, hZ⟩ := hC
  have hown : s.vm.findClass RX7 = some m.cls := hown
  have hS : va_S (jA ad) s.heap s.heap [] := va_S.rf
  have hA : ∀ q, jA ad q → jA ad q := fun _ h => h
  have hl : lv_has ls 1 [(0, .ref (ad 9))] := hl
  obtain ⟨i1, w2, w3⟩ : (0 ≤ (σ 9 0).toInt ∧ (σ 9 0).toInt ≤ 80) ∧ (∀ k : Nat, k < 80 → 0 ≤ (σ 10 k).toInt ∧ (σ 10 k).toInt ≤ 255) ∧ (∀ k : Nat, k < 8 → 0 ≤ (σ 11 k).toInt ∧ (σ 11 k).toInt ≤ 3) := id hI9
  refine lv_aload_n hx hb dX7_begin_0 rfl (lv_at hl 0 rfl) ?_
  refine lv_iconst (v := 0) hx hb dX7_begin_1 (by decide) ?_
  refine jput (ty := .int) hx hb hts inlX7 tyX7 tyX7_ok nmX7 hown hK hP hJ hA hS (jc_9 cI cL ad σ τ) rfl (k := 1) (by decide) (Nat.le_of_ble_eq_true rfl) (jp_9_1 cI cL ad σ τ 0) (hts _ kw_13_17) (fun _ h9 => h9) rfl (by decide +kernel) rfl rfl dX7_begin_2 (fun σ4 H locs eσ4 hP hS => ?_)
  refine lv_aload_n hx hb dX7_begin_5 rfl (lv_at hl 0 rfl) ?_
  refine lv_iconst (v := (-1)) hx hb dX7_begin_6 (by decide) ?_
  refine jput (ty := .int) hx hb hts inlX7 tyX7 tyX7_ok nmX7 hown hK hP hJ hA hS (jc_9 cI cL ad σ4 τ) rfl (k := 2) (by decide) (Nat.le_of_ble_eq_true rfl) (jp_9_2 cI cL ad σ4 τ (-1)) (hts _ kw_14_6) (fun _ h9 => h9) rfl (by decide +kernel) rfl rfl dX7_begin_7 (fun σ5 H locs eσ5 hP hS => ?_)
  have I6 : jI9 σ5 := jI9_fr ((jkp 0 eσ5 (by decide)).trans (jkp 0 eσ4 (by decide))) ((jnp 10 eσ5 (by decide)).trans (jnp 10 eσ4 (by decide))) ((jnp 11 eσ5 (by decide)).trans (jnp 11 eσ4 (by decide))) hI9
  have z7 : (σ5 9 1).toInt = 0 := ((congrArg Int32.toInt (show σ5 9 1 = 0 from ((jkp 1 eσ5 (by decide)).trans (jsp eσ4)))).trans jz_0)
  have z8 : (σ5 9 0).toInt = (σ 9 0).toInt := (congrArg Int32.toInt (show σ5 9 0 = (σ 9 0) from ((jkp 0 eσ5 (by decide)).trans (jkp 0 eσ4 (by decide)))))
  have I9 : jI91 σ5 := ⟨(by omega), (by omega)⟩
  have z10 : (σ5 9 2).toInt = (-1) := ((congrArg Int32.toInt (show σ5 9 2 = (-1) from (jsp eσ5))).trans jz_m1)
  have I11 : jI92 σ5 := (show (-1) ≤ (σ5 9 2).toInt by omega)
  exact hret σ5 τ _ _ _ _ ⟨rfl, (fun i hi => ((jnp i eσ5 (imp_37 i hi)).trans (jnp i eσ4 (imp_37 i hi)))), (fun i hi => ((jkp i eσ5 (imp_38 i hi)).trans (jkp i eσ4 (imp_39 i hi)))), I6, I9, I11, trivial⟩ hP hS dX7_begin_10
set_option maxHeartbeats 4000000 in
set_option maxRecDepth 100000 in
theorem c_X7_isDigit (l : Launch) (D : va_G) (cI cL : ClassId) (ad zz : Nat → Nat) (hJ : jD ad) (σ : Nat → Nat → Int32) (τ : Nat → Nat → Int64) (a1 : Int32) (A1 : Int) (t1 : a1.toInt = A1) : jM l yX7_isDigit cX7_isDigit 1 (some .boolean) ({ frames := 0, cells := 0, slots := 0, locals := 0 }) D cI cL ad zz [.int a1] σ τ (fun r σ' τ' => (σ = σ' ∧ τ = τ') ∧ ((r = 1 ∧ (48 ≤ A1 ∧ A1 ≤ 57)) ∨ (r = 0 ∧ ((A1 < 48) ∨ (57 < A1))))) := by
  refine jM.of hJ (by decide +kernel) (nt := .boolean) rfl (Nat.le_of_ble_eq_true rfl) ?_
  intro p e s m args below meth c Q ls hC hret hl hP
  obtain ⟨hx, hb, hr, hml, hown, hts, hK, -, hlocks, hZ⟩ := hC
  have hown : s.vm.findClass RX7 = some m.cls := hown
  have hS : va_S (jA ad) s.heap s.heap [] := va_S.rf
  have hA : ∀ q, jA ad q → jA ad q := fun _ h => h
  have hl : lv_has ls 1 [(0, .int a1)] := hl
  have g1 := jrg t1
  refine lv_iload_n hx hb dX7_isDigit_0 rfl (lv_at hl 0 rfl) ?_
  refine lv_bipush (v := 48) hx hb dX7_isDigit_1 (by decide) ?_
  refine lv_icmp_lt (tgt := 16) hx hb dX7_isDigit_3 (by decide) (fun c1 => ?_) (fun c1 => ?_)
  · have kc1 := jlt c1 t1 jz_48
    refine lv_iconst (v := 0) hx hb dX7_isDigit_16 (by decide) ?_
    exact hret 0 σ τ _ _ _ _ rfl ⟨⟨rfl, rfl⟩, Or.inr (⟨rfl, (by have h9 := jz_0; omega)⟩)⟩ hP hS dX7_isDigit_17
  · have kc1 := jnlt c1 t1 jz_48
    refine lv_iload_n hx hb dX7_isDigit_6 rfl (lv_at hl 0 rfl) ?_
    refine lv_bipush (v := 57) hx hb dX7_isDigit_7 (by decide) ?_
    refine lv_icmp_gt (tgt := 16) hx hb dX7_isDigit_9 (by decide) (fun c2 => ?_) (fun c2 => ?_)
    · have kc2 := jlt c2 jz_57 t1
      refine lv_iconst (v := 0) hx hb dX7_isDigit_16 (by decide) ?_
      exact hret 0 σ τ _ _ _ _ rfl ⟨⟨rfl, rfl⟩, Or.inr (⟨rfl, (by have h9 := jz_0; omega)⟩)⟩ hP hS dX7_isDigit_17
    · have kc2 := jnlt c2 jz_57 t1
      refine lv_iconst (v := 1) hx hb dX7_isDigit_12 (by decide) ?_
      refine lv_goto (tgt := 17) hx hb dX7_isDigit_13 (by decide) ?_
      exact hret 1 σ τ _ _ _ _ rfl ⟨⟨rfl, rfl⟩, Or.inl ⟨rfl, (by have h9 := jz_1; omega)⟩⟩ hP hS dX7_isDigit_17
set_option maxHeartbeats 4000000 in
set_option maxRecDepth 100000 in
theorem c_X7_sign_9 (l : Launch) (D : va_G) (cI cL : ClassId) (ad zz : Nat → Nat) (hJ : jD ad) (σ : Nat → Nat → Int32) (τ : Nat → Nat → Int64) (hI9 : jI9 σ) : jM l yX7_sign cX7_sign 1 (some .int) ({ frames := 0, cells := 0, slots := 0, locals := 0 }) D cI cL ad zz [.ref (ad 9)] σ τ (fun r σ' τ' => (σ = σ' ∧ τ = τ') ∧ ((r = (σ 10 (σ 9 1).toNatClampNeg) ∧ (0 ≤ (σ 10 (σ 9 1).toNatClampNeg).toInt ∧ (σ 10 (σ 9 1).toNatClampNeg).toInt ≤ 255) ∧ (0 ≤ (σ 9 1).toInt ∧ (σ 9 1).toInt < (σ 9 0).toInt)) ∨ (r = (-1) ∧ (((σ 9 1).toInt < 0) ∨ ((σ 9 0).toInt ≤ (σ 9 1).toInt))))) := by
  refine jM.of hJ (by decide +kernel) (nt := .int) rfl (Nat.le_of_ble_eq_true rfl) ?_
  intro p e s m args below meth c Q ls hC hret hl hP
  obtain ⟨hx, hb, hr, hml, hown, hts, hK, -, hlocks, hZ⟩ := hC
  have hown : s.vm.findClass RX7 = some m.cls := hown
  have hS : va_S (jA ad) s.heap s.heap [] := va_S.rf
  have hA : ∀ q, jA ad q → jA ad q := fun _ h => h
  have hl : lv_has ls 1 [(0, .ref (ad 9))] := hl
  obtain ⟨i1, w2, w3⟩ : (0 ≤ (σ 9 0).toInt ∧ (σ 9 0).toInt ≤ 80) ∧ (∀ k : Nat, k < 80 → 0 ≤ (σ 10 k).toInt ∧ (σ 10 k).toInt ≤ 255) ∧ (∀ k : Nat, k < 8 → 0 ≤ (σ 11 k).toInt ∧ (σ 11 k).toInt ≤ 3) := id hI9
  refine lv_aload_n hx hb dX7_sign_0 rfl (lv_at hl 0 rfl) ?_
  refine va_get (D := D) hx hb hts inlX7 hown hK hP 9 (jc_9 cI cL ad σ τ) rfl 1 (by decide) (hts _ kw_13_17) (fun _ h9 => h9) rfl dX7_sign_1 ?_
  refine lv_if_lt (tgt := 30) hx hb dX7_sign_4 (by decide) (fun c4 => ?_) (fun c4 => ?_)
  · have kc4 := jlt c4 rfl jz_0
    refine lv_iconst (v := (-1)) hx hb dX7_sign_30 (by decide) ?_
    exact hret (-1) σ τ _ _ _ _ rfl ⟨⟨rfl, rfl⟩, Or.inr (⟨rfl, (by have h9 := jz_m1; omega)⟩)⟩ hP hS dX7_sign_31
  · have kc4 := jnlt c4 rfl jz_0
    refine lv_aload_n hx hb dX7_sign_7 rfl (lv_at hl 0 rfl) ?_
    refine va_get (D := D) hx hb hts inlX7 hown hK hP 9 (jc_9 cI cL ad σ τ) rfl 1 (by decide) (hts _ kw_13_17) (fun _ h9 => h9) rfl dX7_sign_8 ?_
    refine lv_aload_n hx hb dX7_sign_11 rfl (lv_at hl 0 rfl) ?_
    refine va_get (D := D) hx hb hts inlX7 hown hK hP 9 (jc_9 cI cL ad σ τ) rfl 0 (by decide) (hts _ kw_13_0) (fun _ h9 => h9) rfl dX7_sign_12 ?_
    refine lv_icmp_ge (tgt := 30) hx hb dX7_sign_15 (by decide) (fun c5 => ?_) (fun c5 => ?_)
    · have kc5 := jle c5 rfl rfl
      refine lv_iconst (v := (-1)) hx hb dX7_sign_30 (by decide) ?_
      exact hret (-1) σ τ _ _ _ _ rfl ⟨⟨rfl, rfl⟩, Or.inr (⟨rfl, (by have h9 := jz_m1; omega)⟩)⟩ hP hS dX7_sign_31
    · have kc5 := jnle c5 rfl rfl
      refine lv_aload_n hx hb dX7_sign_18 rfl (lv_at hl 0 rfl) ?_
      refine va_get (D := D) hx hb hts inlX7 hown hK hP 9 (jc_9 cI cL ad σ τ) rfl 3 (by decide) (hts _ kw_3_20) (fun _ h9 => h9) rfl dX7_sign_19 ?_
      refine lv_aload_n hx hb dX7_sign_22 rfl (lv_at hl 0 rfl) ?_
      refine va_get (D := D) hx hb hts inlX7 hown hK hP 9 (jc_9 cI cL ad σ τ) rfl 1 (by decide) (hts _ kw_13_17) (fun _ h9 => h9) rfl dX7_sign_23 ?_
      refine jald hx hb hK hP (jc_10 cI cL ad σ τ) (jin rfl (by omega) (by omega)) dX7_sign_26 ?_
      have g6 := w2 _ (jnat (x := (σ 9 1)) rfl (n := 80) (by omega) (by decide))
      refine jtopr (y := (σ 10 (σ 9 1).toNatClampNeg)) rfl ?_
      refine lv_goto (tgt := 31) hx hb dX7_sign_27 (by decide) ?_
      exact hret (σ 10 (σ 9 1).toNatClampNeg) σ τ _ _ _ _ rfl ⟨⟨rfl, rfl⟩, Or.inl ⟨rfl, (by omega), (by omega)⟩⟩ hP hS dX7_sign_31
set_option maxHeartbeats 4000000 in
set_option maxRecDepth 100000 in
theorem c_X7_fail_9 (l : Launch) (D : va_G) (cI cL : ClassId) (ad zz : Nat → Nat) (hJ : jD ad) (σ : Nat → Nat → Int32) (τ : Nat → Nat → Int64) (a1 : Int32) (A1 : Int) (t1 : a1.toInt = A1) (hI92 : jI92 σ) (hp0 : 0 ≤ A1) : jMv l yX7_fail cX7_fail 2 none ({ frames := 0, cells := 0, slots := 0, locals := 0 }) D cI cL ad zz [.ref (ad 9), .int a1] σ τ (fun σ' τ' => τ = τ' ∧ (∀ i : Nat, (i < 9 ∨ 9 < i) → σ' i = σ i) ∧ (∀ k : Nat, (k < 2 ∨ 2 < k) → σ' 9 k = σ 9 k) ∧ (0 ≤ (σ' 9 2).toInt) ∧ True) := by
  refine jMv.of hJ (by decide +kernel) rfl (Nat.le_of_ble_eq_true rfl) ?_
  intro p e s m args below meth c Q ls hC hret hl hP
  obtain ⟨hx, hb, hr, hml, hown, hts, hK, -, hlocks, hZ⟩ := hC
  have hown : s.vm.findClass RX7 = some m.cls := hown
  have hS : va_S (jA ad) s.heap s.heap [] := va_S.rf
  have hA : ∀ q, jA ad q → jA ad q := fun _ h => h
  have hl : lv_has ls 2 [(0, .ref (ad 9)), (1, .int a1)] := hl
  have g1 := jrg t1
  have i1 : (-1) ≤ (σ 9 2).toInt := hI92
  refine lv_aload_n hx hb dX7_fail_0 rfl (lv_at hl 0 rfl) ?_
  refine va_get (D := D) hx hb hts inlX7 hown hK hP 9 (jc_9 cI cL ad σ τ) rfl 2 (by decide) (hts _ kw_14_6) (fun _ h9 => h9) rfl dX7_fail_1 ?_
  refine lv_iconst (v := (-1)) hx hb dX7_fail_4 (by decide) ?_
  refine lv_icmp_ne (tgt := 13) hx hb dX7_fail_5 (by decide) (fun c2 => ?_) (fun c2 => ?_)
  · have kc2 := jne c2 rfl jz_m1
    exact hret σ τ _ _ _ _ ⟨rfl, (fun _ _ => rfl), (fun _ _ => rfl), (by omega), trivial⟩ hP hS dX7_fail_13
  · have kc2 := jeq c2 rfl jz_m1
    refine lv_aload_n hx hb dX7_fail_8 rfl (lv_at hl 0 rfl) ?_
    refine lv_iload_n hx hb dX7_fail_9 rfl (lv_at hl 1 rfl) ?_
    refine jput (ty := .int) hx hb hts inlX7 tyX7 tyX7_ok nmX7 hown hK hP hJ hA hS (jc_9 cI cL ad σ τ) rfl (k := 2) (by decide) (Nat.le_of_ble_eq_true rfl) (jp_9_2 cI cL ad σ τ a1) (hts _ kw_14_6) (fun _ h9 => h9) rfl (by decide +kernel) rfl rfl dX7_fail_10 (fun σ3 H locs eσ3 hP hS => ?_)
    have z4 : (σ3 9 2).toInt = A1 := ((congrArg Int32.toInt (show σ3 9 2 = a1 from (jsp eσ3))).trans t1)
    exact hret σ3 τ _ _ _ _ ⟨rfl, (fun i hi => (jnp i eσ3 (imp_37 i hi))), (fun i hi => (jkp i eσ3 (imp_7 i hi))), (by omega), trivial⟩ hP hS dX7_fail_13
set_option maxHeartbeats 4000000 in
set_option maxRecDepth 100000 in
theorem c_X7_end_9 (l : Launch) (D : va_G) (cI cL : ClassId) (ad zz : Nat → Nat) (hJ : jD ad) (σ : Nat → Nat → Int32) (τ : Nat → Nat → Int64) (hI9 : jI9 σ) (hI91 : jI91 σ) (hI92 : jI92 σ) : jM l yX7_end cX7_end 1 (some .int) ({ frames := 0, cells := 0, slots := 0, locals := 0 }) D cI cL ad zz [.ref (ad 9)] σ τ (fun r σ' τ' => τ = τ' ∧ (∀ i : Nat, (i < 9 ∨ 9 < i) → σ' i = σ i) ∧ (∀ k : Nat, (k < 0 ∨ 0 < k) ∧ (k < 2 ∨ 2 < k) → σ' 9 k = σ 9 k) ∧ (jI9 σ') ∧ (jI92 σ') ∧ ((σ' 9 0).toInt = 0) ∧ ((r = (-1) ∧ ((σ 9 2).toInt = (-1))) ∨ (True ∧ (0 ≤ r.toInt)))) := by
  refine jM.of hJ (by decide +kernel) (nt := .int) rfl (Nat.le_of_ble_eq_true rfl) ?_
  intro p e s m args below meth c Q ls hC hret hl hP
  obtain ⟨hx, hb, hr, hml, hown, hts, hK, -, hlocks, hZ⟩ := hC
  have hown : s.vm.findClass RX7 = some m.cls := hown
  have hS : va_S (jA ad) s.heap s.heap [] := va_S.rf
  have hA : ∀ q, jA ad q → jA ad q := fun _ h => h
  have hl : lv_has ls 1 [(0, .ref (ad 9))] := hl
  obtain ⟨i1, w2, w3⟩ : (0 ≤ (σ 9 0).toInt ∧ (σ 9 0).toInt ≤ 80) ∧ (∀ k : Nat, k < 80 → 0 ≤ (σ 10 k).toInt ∧ (σ 10 k).toInt ≤ 255) ∧ (∀ k : Nat, k < 8 → 0 ≤ (σ 11 k).toInt ∧ (σ 11 k).toInt ≤ 3) := id hI9
  obtain ⟨i4, i5⟩ : (0 ≤ (σ 9 1).toInt) ∧ ((σ 9 1).toInt ≤ (σ 9 0).toInt) := id hI91
  have i6 : (-1) ≤ (σ 9 2).toInt := hI92
  refine lv_aload_n hx hb dX7_end_0 rfl (lv_at hl 0 rfl) ?_
  refine va_get (D := D) hx hb hts inlX7 hown hK hP 9 (jc_9 cI cL ad σ τ) rfl 2 (by decide) (hts _ kw_14_6) (fun _ h9 => h9) rfl dX7_end_1 ?_
  refine lv_iconst (v := (-1)) hx hb dX7_end_4 (by decide) ?_
  refine lv_icmp_ne (tgt := 27) hx hb dX7_end_5 (by decide) (fun c7 => ?_) (fun c7 => ?_)
  · have kc7 := jne c7 rfl jz_m1
    refine lv_aload_n hx hb dX7_end_27 rfl (lv_at hl 0 rfl) ?_
    refine lv_iconst (v := 0) hx hb dX7_end_28 (by decide) ?_
    refine jput (ty := .int) hx hb hts inlX7 tyX7 tyX7_ok nmX7 hown hK hP hJ hA hS (jc_9 cI cL ad σ τ) rfl (k := 0) (by decide) (Nat.le_of_ble_eq_true rfl) (jp_9_0 cI cL ad σ τ 0) (hts _ kw_13_0) (fun _ h9 => h9) rfl (by decide +kernel) rfl rfl dX7_end_29 (fun σ8 H locs eσ8 hP hS => ?_)
    refine lv_aload_n hx hb dX7_end_32 rfl (lv_at hl 0 rfl) ?_
    refine va_get (D := D) hx hb hts inlX7 hown hK hP 9 (jc_9 cI cL ad σ8 τ) rfl 2 (by decide) (hts _ kw_14_6) (fun _ h9 => h9) rfl dX7_end_33 ?_
    have m9 : σ8 9 2 = (σ 9 2) := (jkp 2 eσ8 (by decide))
    refine jtopr m9 ?_
    have z10 : (σ8 9 0).toInt = 0 := ((congrArg Int32.toInt (show σ8 9 0 = 0 from (jsp eσ8))).trans jz_0)
    have w11 : ∀ k : Nat, k < 80 → 0 ≤ (σ8 10 k).toInt ∧ (σ8 10 k).toInt ≤ 255 := (jrr_fr (jnp 10 eσ8 (by decide)) w2)
    have w12 : ∀ k : Nat, k < 8 → 0 ≤ (σ8 11 k).toInt ∧ (σ8 11 k).toInt ≤ 3 := (jrr_fr (jnp 11 eσ8 (by decide)) w3)
    have I13 : jI9 σ8 := ⟨(by omega), w11, w12⟩
    have I14 : jI92 σ8 := jI92_fr (jkp 2 eσ8 (by decide)) hI92
    exact hret (σ 9 2) σ8 τ _ _ _ _ rfl ⟨rfl, (fun i hi => (jnp i eσ8 (imp_37 i hi))), (fun i hi => (jkp i eσ8 (imp_40 i hi))), I13, I14, (by omega), Or.inr (⟨trivial, (by omega)⟩)⟩ hP hS dX7_end_36
  · have kc7 := jeq c7 rfl jz_m1
    refine lv_aload_n hx hb dX7_end_8 rfl (lv_at hl 0 rfl) ?_
    refine va_get (D := D) hx hb hts inlX7 hown hK hP 9 (jc_9 cI cL ad σ τ) rfl 1 (by decide) (hts _ kw_13_17) (fun _ h9 => h9) rfl dX7_end_9 ?_
    refine lv_aload_n hx hb dX7_end_12 rfl (lv_at hl 0 rfl) ?_
    refine va_get (D := D) hx hb hts inlX7 hown hK hP 9 (jc_9 cI cL ad σ τ) rfl 0 (by decide) (hts _ kw_13_0) (fun _ h9 => h9) rfl dX7_end_13 ?_
    refine lv_icmp_ge (tgt := 27) hx hb dX7_end_16 (by decide) (fun c15 => ?_) (fun c15 => ?_)
    · have kc15 := jle c15 rfl rfl
      refine lv_aload_n hx hb dX7_end_27 rfl (lv_at hl 0 rfl) ?_
      refine lv_iconst (v := 0) hx hb dX7_end_28 (by decide) ?_
      refine jput (ty := .int) hx hb hts inlX7 tyX7 tyX7_ok nmX7 hown hK hP hJ hA hS (jc_9 cI cL ad σ τ) rfl (k := 0) (by decide) (Nat.le_of_ble_eq_true rfl) (jp_9_0 cI cL ad σ τ 0) (hts _ kw_13_0) (fun _ h9 => h9) rfl (by decide +kernel) rfl rfl dX7_end_29 (fun σ16 H locs eσ16 hP hS => ?_)
      refine lv_aload_n hx hb dX7_end_32 rfl (lv_at hl 0 rfl) ?_
      refine va_get (D := D) hx hb hts inlX7 hown hK hP 9 (jc_9 cI cL ad σ16 τ) rfl 2 (by decide) (hts _ kw_14_6) (fun _ h9 => h9) rfl dX7_end_33 ?_
      have m17 : σ16 9 2 = (σ 9 2) := (jkp 2 eσ16 (by decide))
      refine jtopr m17 ?_
      have z18 : (σ16 9 0).toInt = 0 := ((congrArg Int32.toInt (show σ16 9 0 = 0 from (jsp eσ16))).trans jz_0)
      have w19 : ∀ k : Nat, k < 80 → 0 ≤ (σ16 10 k).toInt ∧ (σ16 10 k).toInt ≤ 255 := (jrr_fr (jnp 10 eσ16 (by decide)) w2)
      have w20 : ∀ k : Nat, k < 8 → 0 ≤ (σ16 11 k).toInt ∧ (σ16 11 k).toInt ≤ 3 := (jrr_fr (jnp 11 eσ16 (by decide)) w3)
      have I21 : jI9 σ16 := ⟨(by omega), w19, w20⟩
      have I22 : jI92 σ16 := jI92_fr (jkp 2 eσ16 (by decide)) hI92
      exact hret (σ 9 2) σ16 τ _ _ _ _ rfl ⟨rfl, (fun i hi => (jnp i eσ16 (imp_37 i hi))), (fun i hi => (jkp i eσ16 (imp_40 i hi))), I21, I22, (by omega), Or.inl ⟨jsame rfl jz_m1 (by omega), (by omega)⟩⟩ hP hS dX7_end_36
    · have kc15 := jnle c15 rfl rfl
      refine lv_aload_n hx hb dX7_end_19 rfl (lv_at hl 0 rfl) ?_
      refine lv_aload_n hx hb dX7_end_20 rfl (lv_at hl 0 rfl) ?_
      refine va_get (D := D) hx hb hts inlX7 hown hK hP 9 (jc_9 cI cL ad σ τ) rfl 1 (by decide) (hts _ kw_13_17) (fun _ h9 => h9) rfl dX7_end_21 ?_
      refine jput (ty := .int) hx hb hts inlX7 tyX7 tyX7_ok nmX7 hown hK hP hJ hA hS (jc_9 cI cL ad σ τ) rfl (k := 2) (by decide) (Nat.le_of_ble_eq_true rfl) (jp_9_2 cI cL ad σ τ (σ 9 1)) (hts _ kw_14_6) (fun _ h9 => h9) rfl (by decide +kernel) rfl rfl dX7_end_24 (fun σ23 H locs eσ23 hP hS => ?_)
      refine lv_aload_n hx hb dX7_end_27 rfl (lv_at hl 0 rfl) ?_
      refine lv_iconst (v := 0) hx hb dX7_end_28 (by decide) ?_
      refine jput (ty := .int) hx hb hts inlX7 tyX7 tyX7_ok nmX7 hown hK hP hJ hA hS (jc_9 cI cL ad σ23 τ) rfl (k := 0) (by decide) (Nat.le_of_ble_eq_true rfl) (jp_9_0 cI cL ad σ23 τ 0) (hts _ kw_13_0) (fun _ h9 => h9) rfl (by decide +kernel) rfl rfl dX7_end_29 (fun σ24 H locs eσ24 hP hS => ?_)
      refine lv_aload_n hx hb dX7_end_32 rfl (lv_at hl 0 rfl) ?_
      refine va_get (D := D) hx hb hts inlX7 hown hK hP 9 (jc_9 cI cL ad σ24 τ) rfl 2 (by decide) (hts _ kw_14_6) (fun _ h9 => h9) rfl dX7_end_33 ?_
      have m25 : σ24 9 2 = (σ 9 1) := ((jkp 2 eσ24 (by decide)).trans (jsp eσ23))
      refine jtopr m25 ?_
      have z26 : (σ24 9 0).toInt = 0 := ((congrArg Int32.toInt (show σ24 9 0 = 0 from (jsp eσ24))).trans jz_0)
      have w27 : ∀ k : Nat, k < 80 → 0 ≤ (σ24 10 k).toInt ∧ (σ24 10 k).toInt ≤ 255 := (jrr_fr (jnp 10 eσ24 (by decide)) (jrr_fr (jnp 10 eσ23 (by decide)) w2))
      have w28 : ∀ k : Nat, k < 8 → 0 ≤ (σ24 11 k).toInt ∧ (σ24 11 k).toInt ≤ 3 := (jrr_fr (jnp 11 eσ24 (by decide)) (jrr_fr (jnp 11 eσ23 (by decide)) w3))
      have I29 : jI9 σ24 := ⟨(by omega), w27, w28⟩
      have z30 : (σ24 9 2).toInt = (σ 9 1).toInt := (congrArg Int32.toInt (show σ24 9 2 = (σ 9 1) from m25))
      have I31 : jI92 σ24 := (show (-1) ≤ (σ24 9 2).toInt by omega)
      exact hret (σ 9 1) σ24 τ _ _ _ _ rfl ⟨rfl, (fun i hi => ((jnp i eσ24 (imp_37 i hi)).trans (jnp i eσ23 (imp_37 i hi)))), (fun i hi => ((jkp i eσ24 (imp_40 i hi)).trans (jkp i eσ23 (imp_41 i hi)))), I29, I31, (by omega), Or.inr (⟨trivial, (by omega)⟩)⟩ hP hS dX7_end_36
set_option maxHeartbeats 4000000 in
set_option maxRecDepth 100000 in
theorem c_X7_skip_9 (l : Launch) (D : va_G) (cI cL : ClassId) (ad zz : Nat → Nat) (hJ : jD ad) (σ : Nat → Nat → Int32) (τ : Nat → Nat → Int64) (a1 : Int32) (A1 : Int) (t1 : a1.toInt = A1) (hI9 : jI9 σ) (hI91 : jI91 σ) (hI92 : jI92 σ) (hp0 : 0 ≤ A1) : jM l yX7_skip cX7_skip 2 (some .boolean) ({ frames := 1, cells := 0, slots := 0, locals := 20 }) D cI cL ad zz [.ref (ad 9), .int a1] σ τ (fun r σ' τ' => τ = τ' ∧ (∀ i : Nat, (i < 9 ∨ 9 < i) → σ' i = σ i) ∧ (∀ k : Nat, (k < 1 ∨ 1 < k) → σ' 9 k = σ 9 k) ∧ (jI9 σ') ∧ (jI91 σ') ∧ (jI92 σ') ∧ True) := by
  refine jM.of hJ (by decide +kernel) (nt := .boolean) rfl (Nat.le_of_ble_eq_true rfl) ?_
  intro p e s m args below meth c Q ls hC hret hl hP
  obtain ⟨hx, hb, hr, hml, hown, hts, hK, -, hlocks, hZ⟩ := hC
  have hown : s.vm.findClass RX7 = some m.cls := hown
  have hS : va_S (jA ad) s.heap s.heap [] := va_S.rf
  have hA : ∀ q, jA ad q → jA ad q := fun _ h => h
  have hl : lv_has ls 2 [(0, .ref (ad 9)), (1, .int a1)] := hl
  have g1 := jrg t1
  obtain ⟨i1, w2, w3⟩ : (0 ≤ (σ 9 0).toInt ∧ (σ 9 0).toInt ≤ 80) ∧ (∀ k : Nat, k < 80 → 0 ≤ (σ 10 k).toInt ∧ (σ 10 k).toInt ≤ 255) ∧ (∀ k : Nat, k < 8 → 0 ≤ (σ 11 k).toInt ∧ (σ 11 k).toInt ≤ 3) := id hI9
  obtain ⟨i4, i5⟩ : (0 ≤ (σ 9 1).toInt) ∧ ((σ 9 1).toInt ≤ (σ 9 0).toInt) := id hI91
  have i6 : (-1) ≤ (σ 9 2).toInt := hI92
  refine lv_aload_n hx hb dX7_skip_0 rfl (lv_at hl 0 rfl) ?_
  refine va_get (D := D) hx hb hts inlX7 hown hK hP 9 (jc_9 cI cL ad σ τ) rfl 2 (by decide) (hts _ kw_14_6) (fun _ h9 => h9) rfl dX7_skip_1 ?_
  refine lv_iconst (v := (-1)) hx hb dX7_skip_4 (by decide) ?_
  refine lv_icmp_ne (tgt := 16) hx hb dX7_skip_5 (by decide) (fun c7 => ?_) (fun c7 => ?_)
  · have kc7 := jne c7 rfl jz_m1
    refine lv_iconst (v := 0) hx hb dX7_skip_16 (by decide) ?_
    exact hret 0 σ τ _ _ _ _ rfl ⟨rfl, (fun _ _ => rfl), (fun _ _ => rfl), hI9, hI91, hI92, trivial⟩ hP hS dX7_skip_17
  · have kc7 := jeq c7 rfl jz_m1
    refine lv_aload_n hx hb dX7_skip_8 rfl (lv_at hl 0 rfl) ?_
    refine jcallV (As := []) (rest := []) ⟨hx, hb, hml, hown, hts⟩ hK hP hA hS hZ (c_X7_sign_9 l D cI cL ad zz hJ σ τ hI9) cw_RX7_35 (jc_9 cI cL ad σ τ) rfl ⟨Nat.le_of_ble_eq_true rfl, Nat.le_of_ble_eq_true rfl⟩ rfl rfl rfl hl.1 rfl (Nat.le_of_ble_eq_true rfl) dX7_skip_9 ⟨Nat.zero_le _, Nat.zero_le _⟩ (fun r9 σ8 τ8 H locs h8 hP hS => ?_)
    obtain ⟨⟨rfl, rfl⟩, h8⟩ := h8
    rcases h8 with h10 | h11
    · obtain ⟨q14, k12, k13⟩ := h10
      have q15 : r9 = (σ 10 (σ 9 1).toNatClampNeg) := q14.trans rfl
      have q15 := q15.symm
      subst q15
      refine lv_iload_n hx hb dX7_skip_12 rfl (lv_at hl 1 rfl) ?_
      refine lv_icmp_eq (tgt := 18) hx hb dX7_skip_13 (by decide) (fun c16 => ?_) (fun c16 => ?_)
      · have kc16 := jeq c16 rfl t1
        refine lv_aload_n hx hb dX7_skip_18 rfl (lv_at hl 0 rfl) ?_
        refine lv_dup hx hb dX7_skip_19 rfl ?_
        refine va_get (D := D) hx hb hts inlX7 hown hK hP 9 (jc_9 cI cL ad σ τ) rfl 1 (by decide) (hts _ kw_13_17) (fun _ h9 => h9) rfl dX7_skip_20 ?_
        refine lv_iconst (v := 1) hx hb dX7_skip_23 (by decide) ?_
        have g17 := jrg (rfl : (σ 9 1).toInt = (σ 9 1).toInt)
        refine lv_iadd hx hb dX7_skip_24 ?_
        refine lv_topi (fun x18 ex18 => ?_)
        have tx18 : x18.toInt = (σ 9 1).toInt + 1 := (jadd ex18 rfl jz_1 (by omega) (by omega)).trans (by omega)
        refine jput (ty := .int) hx hb hts inlX7 tyX7 tyX7_ok nmX7 hown hK hP hJ hA hS (jc_9 cI cL ad σ τ) rfl (k := 1) (by decide) (Nat.le_of_ble_eq_true rfl) (jp_9_1 cI cL ad σ τ x18) (hts _ kw_13_17) (fun _ h9 => h9) rfl (by decide +kernel) rfl rfl dX7_skip_25 (fun σ19 H locs eσ19 hP hS => ?_)
        refine lv_iconst (v := 1) hx hb dX7_skip_28 (by decide) ?_
        have I20 : jI9 σ19 := jI9_fr (jkp 0 eσ19 (by decide)) (jnp 10 eσ19 (by decide)) (jnp 11 eσ19 (by decide)) hI9
        have z21 : (σ19 9 1).toInt = (σ 9 1).toInt + 1 := ((congrArg Int32.toInt (show σ19 9 1 = x18 from (jsp eσ19))).trans tx18)
        have z22 : (σ19 9 0).toInt = (σ 9 0).toInt := (congrArg Int32.toInt (show σ19 9 0 = (σ 9 0) from (jkp 0 eσ19 (by decide))))
        have I23 : jI91 σ19 := ⟨(by omega), (by omega)⟩
        have I24 : jI92 σ19 := jI92_fr (jkp 2 eσ19 (by decide)) hI92
        exact hret 1 σ19 τ _ _ _ _ rfl ⟨rfl, (fun i hi => (jnp i eσ19 (imp_37 i hi))), (fun i hi => (jkp i eσ19 (imp_42 i hi))), I20, I23, I24, trivial⟩ hP hS dX7_skip_29
      · have kc16 := jne c16 rfl t1
        refine lv_iconst (v := 0) hx hb dX7_skip_16 (by decide) ?_
        exact hret 0 σ τ _ _ _ _ rfl ⟨rfl, (fun _ _ => rfl), (fun _ _ => rfl), hI9, hI91, hI92, trivial⟩ hP hS dX7_skip_17
    · obtain ⟨q26, k25⟩ := h11
      have q26 := q26.symm
      subst q26
      refine lv_iload_n hx hb dX7_skip_12 rfl (lv_at hl 1 rfl) ?_
      refine lv_icmp_eq (tgt := 18) hx hb dX7_skip_13 (by decide) (fun c => absurd (jeq c jz_m1 t1) (by omega)) (fun c27 => ?_)
      have kc27 := jne c27 jz_m1 t1
      refine lv_iconst (v := 0) hx hb dX7_skip_16 (by decide) ?_
      exact hret 0 σ τ _ _ _ _ rfl ⟨rfl, (fun _ _ => rfl), (fun _ _ => rfl), hI9, hI91, hI92, trivial⟩ hP hS dX7_skip_17
set_option maxHeartbeats 4000000 in
set_option maxRecDepth 100000 in
theorem c_X7_number_2 (l : Launch) (D : va_G) (cI cL : ClassId) (ad zz : Nat → Nat) (hJ : jD ad) (σ : Nat → Nat → Int32) (τ : Nat → Nat → Int64) (hI9 : jI9 σ) (hI91 : jI91 σ) (hI92 : jI92 σ) : jM l yX7_number cX7_number 4 (some .int) ({ frames := 1, cells := 0, slots := 0, locals := 21 }) D cI cL ad zz [.ref (ad 9), .int 2] σ τ (fun r σ' τ' => τ = τ' ∧ (∀ i : Nat, (i < 9 ∨ 9 < i) → σ' i = σ i) ∧ (∀ k : Nat, (k < 1 ∨ 1 < k) ∧ (k < 2 ∨ 2 < k) → σ' 9 k = σ 9 k) ∧ (jI9 σ') ∧ (jI91 σ') ∧ (jI92 σ') ∧ ((0 ≤ (σ 9 2).toInt ∧ 0 ≤ (σ' 9 2).toInt) ∨ ((σ 9 2).toInt = (-1))) ∧ ((True ∧ (0 ≤ r.toInt ∧ r.toInt ≤ 99)))) := by
  refine jM.of hJ (by decide +kernel) (nt := .int) rfl (Nat.le_of_ble_eq_true rfl) ?_
  intro p e s m args below meth c Q ls hC hret hl hP
  obtain ⟨hx, hb, hr, hml, hown, hts, hK, -, hlocks, hZ⟩ := hC
  have hown : s.vm.findClass RX7 = some m.cls := hown
  have hS : va_S (jA ad) s.heap s.heap [] := va_S.rf
  have hA : ∀ q, jA ad q → jA ad q := fun _ h => h
  have hl : lv_has ls 4 [(0, .ref (ad 9)), (1, .int 2)] := hl
  obtain ⟨i1, w2, w3⟩ : (0 ≤ (σ 9 0).toInt ∧ (σ 9 0).toInt ≤ 80) ∧ (∀ k : Nat, k < 80 → 0 ≤ (σ 10 k).toInt ∧ (σ 10 k).toInt ≤ 255) ∧ (∀ k : Nat, k < 8 → 0 ≤ (σ 11 k).toInt ∧ (σ 11 k).toInt ≤ 3) := id hI9
  obtain ⟨i4, i5⟩ : (0 ≤ (σ 9 1).toInt) ∧ ((σ 9 1).toInt ≤ (σ 9 0).toInt) := id hI91
  have i6 : (-1) ≤ (σ 9 2).toInt := hI92
  refine lv_aload_n hx hb dX7_number_0 rfl (lv_at hl 0 rfl) ?_
  refine jcallV (As := []) (rest := []) ⟨hx, hb, hml, hown, hts⟩ hK hP hA hS hZ (c_X7_sign_9 l D cI cL ad zz hJ σ τ hI9) cw_RX7_35 (jc_9 cI cL ad σ τ) rfl ⟨Nat.le_of_ble_eq_true rfl, Nat.le_of_ble_eq_true rfl⟩ rfl rfl rfl hl.1 rfl (Nat.le_of_ble_eq_true rfl) dX7_number_1 ⟨Nat.zero_le _, Nat.zero_le _⟩ (fun r8 σ7 τ7 H locs h7 hP hS => ?_)
  obtain ⟨⟨rfl, rfl⟩, h7⟩ := h7
  rcases h7 with h9 | h10
  · obtain ⟨q13, k11, k12⟩ := h9
    have q14 : r8 = (σ 10 (σ 9 1).toNatClampNeg) := q13.trans rfl
    have q14 := q14.symm
    subst q14
    refine jcallS (As := [.int (σ 10 (σ 9 1).toNatClampNeg)]) (rest := []) ⟨hx, hb, hml, hown, hts⟩ hK hP hA hS hZ (c_X7_isDigit l D cI cL ad zz hJ σ τ (σ 10 (σ 9 1).toNatClampNeg) ((σ 10 (σ 9 1).toNatClampNeg).toInt) rfl) cw_RX7_39 ⟨Nat.le_of_ble_eq_true rfl, Nat.le_of_ble_eq_true rfl⟩ rfl rfl rfl hl.1 rfl (Nat.le_of_ble_eq_true rfl) dX7_number_4 ⟨Nat.zero_le _, Nat.zero_le _⟩ (fun r16 σ15 τ15 H locs h15 hP hS => ?_)
    obtain ⟨⟨rfl, rfl⟩, h15⟩ := h15
    rcases h15 with h17 | h18
    · obtain ⟨q20, k19⟩ := h17
      have q20 := q20.symm
      subst q20
      refine lv_if_ne (tgt := 18) hx hb dX7_number_7 (by decide) (fun _ => ?_) (fun c => absurd c (by decide))
      refine lv_iconst (v := 0) hx hb dX7_number_18 (by decide) ?_
      refine lv_istore_n (lv' := [(2, .int 0), (0, .ref (ad 9)), (1, .int 2)]) hx hb dX7_number_19 rfl hl (by decide) rfl (fun ls hl => ?_)
      refine lv_iconst (v := 0) hx hb dX7_number_20 (by decide) ?_
      refine lv_istore_n (lv' := [(3, .int 0), (2, .int 0), (0, .ref (ad 9)), (1, .int 2)]) hx hb dX7_number_21 rfl hl (by decide) rfl (fun ls hl => ?_)
      refine lv_iload_n hx hb dX7_number_22 rfl (lv_at hl 0 rfl) ?_
      refine lv_iload_n hx hb dX7_number_23 rfl (lv_at hl 3 rfl) ?_
      refine lv_icmp_ge (tgt := 68) hx hb dX7_number_24 (by decide) (fun c => absurd c (by decide)) (fun _ => ?_)
      refine lv_aload_n hx hb dX7_number_27 rfl (lv_at hl 2 rfl) ?_
      refine jcallV (As := []) (rest := []) ⟨hx, hb, hml, hown, hts⟩ hK hP hA hS hZ (c_X7_sign_9 l D cI cL ad zz hJ σ τ hI9) cw_RX7_35 (jc_9 cI cL ad σ τ) rfl ⟨Nat.le_of_ble_eq_true rfl, Nat.le_of_ble_eq_true rfl⟩ rfl rfl rfl hl.1 rfl (Nat.le_of_ble_eq_true rfl) dX7_number_28 ⟨Nat.zero_le _, Nat.zero_le _⟩ (fun r22 σ21 τ21 H locs h21 hP hS => ?_)
      obtain ⟨⟨rfl, rfl⟩, h21⟩ := h21
      rcases h21 with h23 | h24
      · obtain ⟨q27, k25, k26⟩ := h23
        have q28 : r22 = (σ 10 (σ 9 1).toNatClampNeg) := q27.trans rfl
        have q28 := q28.symm
        subst q28
        refine jcallS (As := [.int (σ 10 (σ 9 1).toNatClampNeg)]) (rest := []) ⟨hx, hb, hml, hown, hts⟩ hK hP hA hS hZ (c_X7_isDigit l D cI cL ad zz hJ σ τ (σ 10 (σ 9 1).toNatClampNeg) ((σ 10 (σ 9 1).toNatClampNeg).toInt) rfl) cw_RX7_39 ⟨Nat.le_of_ble_eq_true rfl, Nat.le_of_ble_eq_true rfl⟩ rfl rfl rfl hl.1 rfl (Nat.le_of_ble_eq_true rfl) dX7_number_31 ⟨Nat.zero_le _, Nat.zero_le _⟩ (fun r30 σ29 τ29 H locs h29 hP hS => ?_)
        obtain ⟨⟨rfl, rfl⟩, h29⟩ := h29
        rcases h29 with h31 | h32
        · obtain ⟨q34, k33⟩ := h31
          have q34 := q34.symm
          subst q34
          refine lv_if_eq (tgt := 68) hx hb dX7_number_34 (by decide) (fun c => absurd c (by decide)) (fun _ => ?_)
          refine lv_iload_n hx hb dX7_number_37 rfl (lv_at hl 1 rfl) ?_
          refine lv_bipush (v := 10) hx hb dX7_number_38 (by decide) ?_
          refine lv_imul hx hb dX7_number_40 ?_
          refine jtopr (y := 0) (by decide) ?_
          refine lv_aload_n hx hb dX7_number_41 rfl (lv_at hl 2 rfl) ?_
          refine va_get (D := D) hx hb hts inlX7 hown hK hP 9 (jc_9 cI cL ad σ τ) rfl 3 (by decide) (hts _ kw_3_20) (fun _ h9 => h9) rfl dX7_number_42 ?_
          refine lv_aload_n hx hb dX7_number_45 rfl (lv_at hl 2 rfl) ?_
          refine lv_dup hx hb dX7_number_46 rfl ?_
          refine va_get (D := D) hx hb hts inlX7 hown hK hP 9 (jc_9 cI cL ad σ τ) rfl 1 (by decide) (hts _ kw_13_17) (fun _ h9 => h9) rfl dX7_number_47 ?_
          refine lv_dup_x1 hx hb dX7_number_50 rfl rfl ?_
          refine lv_iconst (v := 1) hx hb dX7_number_51 (by decide) ?_
          have g35 := jrg (rfl : (σ 9 1).toInt = (σ 9 1).toInt)
          refine lv_iadd hx hb dX7_number_52 ?_
          refine lv_topi (fun x36 ex36 => ?_)
          have tx36 : x36.toInt = (σ 9 1).toInt + 1 := (jadd ex36 rfl jz_1 (by omega) (by omega)).trans (by omega)
          refine jput (ty := .int) hx hb hts inlX7 tyX7 tyX7_ok nmX7 hown hK hP hJ hA hS (jc_9 cI cL ad σ τ) rfl (k := 1) (by decide) (Nat.le_of_ble_eq_true rfl) (jp_9_1 cI cL ad σ τ x36) (hts _ kw_13_17) (fun _ h9 => h9) rfl (by decide +kernel) rfl rfl dX7_number_53 (fun σ37 H locs eσ37 hP hS => ?_)
          refine jald hx hb hK hP (jc_10 cI cL ad σ37 τ) (jin rfl (by omega) (by omega)) dX7_number_56 ?_
          refine jtopr (y := (σ 10 (σ 9 1).toNatClampNeg)) (by rw [jnp 10 eσ37 (by decide)]) ?_
          refine lv_iadd hx hb dX7_number_57 ?_
          refine jtopr (y := (σ 10 (σ 9 1).toNatClampNeg)) (by rw [Int32.zero_add]) ?_
          refine lv_bipush (v := 48) hx hb dX7_number_58 (by decide) ?_
          have g38 := jrg (rfl : (σ 10 (σ 9 1).toNatClampNeg).toInt = (σ 10 (σ 9 1).toNatClampNeg).toInt)
          refine lv_isub hx hb dX7_number_60 ?_
          refine lv_topi (fun x39 ex39 => ?_)
          have tx39 : x39.toInt = (σ 10 (σ 9 1).toNatClampNeg).toInt - 48 := (jsub ex39 rfl jz_48 (by omega) (by omega)).trans (by omega)
          refine lv_istore_n (lv' := [(2, .int x39), (3, .int 0), (0, .ref (ad 9)), (1, .int 2)]) hx hb dX7_number_61 rfl hl (by decide) rfl (fun ls hl => ?_)
          refine lv_iinc (v := 1) (lv' := [(3, .int 1), (2, .int x39), (0, .ref (ad 9)), (1, .int 2)]) hx hb dX7_number_62 hl (k := 1) rfl (by decide) (by decide) rfl (fun ls hl => ?_)
          refine lv_goto (tgt := 22) hx hb dX7_number_65 (by decide) ?_
          refine lv_iload_n hx hb dX7_number_22 rfl (lv_at hl 0 rfl) ?_
          refine lv_iload_n hx hb dX7_number_23 rfl (lv_at hl 3 rfl) ?_
          refine lv_icmp_ge (tgt := 68) hx hb dX7_number_24 (by decide) (fun c => absurd c (by decide)) (fun _ => ?_)
          refine lv_aload_n hx hb dX7_number_27 rfl (lv_at hl 2 rfl) ?_
          have I40 : jI9 σ37 := jI9_fr (jkp 0 eσ37 (by decide)) (jnp 10 eσ37 (by decide)) (jnp 11 eσ37 (by decide)) hI9
          have z41 : (σ37 9 1).toInt = (σ 9 1).toInt + 1 := ((congrArg Int32.toInt (show σ37 9 1 = x36 from (jsp eσ37))).trans tx36)
          have z42 : (σ37 9 0).toInt = (σ 9 0).toInt := (congrArg Int32.toInt (show σ37 9 0 = (σ 9 0) from (jkp 0 eσ37 (by decide))))
          refine jcallV (As := []) (rest := []) ⟨hx, hb, hml, hown, hts⟩ hK hP hA hS hZ (c_X7_sign_9 l D cI cL ad zz hJ σ37 τ I40) cw_RX7_35 (jc_9 cI cL ad σ37 τ) rfl ⟨Nat.le_of_ble_eq_true rfl, Nat.le_of_ble_eq_true rfl⟩ rfl rfl rfl hl.1 rfl (Nat.le_of_ble_eq_true rfl) dX7_number_28 ⟨Nat.zero_le _, Nat.zero_le _⟩ (fun r44 σ43 τ43 H locs h43 hP hS => ?_)
          obtain ⟨⟨rfl, rfl⟩, h43⟩ := h43
          rcases h43 with h45 | h46
          · obtain ⟨q49, k47, k48⟩ := h45
            have q50 : r44 = (σ 10 x36.toNatClampNeg) := q49.trans (by rw [(show σ37 9 1 = x36 from (jsp eσ37)), jnp 10 eσ37 (by decide)])
            have q50e : (σ37 10 (σ37 9 1).toNatClampNeg).toInt = (σ 10 x36.toNatClampNeg).toInt := by rw [← q49, ← q50]
            have q50 := q50.symm
            subst q50
            refine jcallS (As := [.int (σ 10 x36.toNatClampNeg)]) (rest := []) ⟨hx, hb, hml, hown, hts⟩ hK hP hA hS hZ (c_X7_isDigit l D cI cL ad zz hJ σ37 τ (σ 10 x36.toNatClampNeg) ((σ 10 x36.toNatClampNeg).toInt) rfl) cw_RX7_39 ⟨Nat.le_of_ble_eq_true rfl, Nat.le_of_ble_eq_true rfl⟩ rfl rfl rfl hl.1 rfl (Nat.le_of_ble_eq_true rfl) dX7_number_31 ⟨Nat.zero_le _, Nat.zero_le _⟩ (fun r52 σ51 τ51 H locs h51 hP hS => ?_)
            obtain ⟨⟨rfl, rfl⟩, h51⟩ := h51
            rcases h51 with h53 | h54
            · obtain ⟨q56, k55⟩ := h53
              have q56 := q56.symm
              subst q56
              refine lv_if_eq (tgt := 68) hx hb dX7_number_34 (by decide) (fun c => absurd c (by decide)) (fun _ => ?_)
              refine lv_iload_n hx hb dX7_number_37 rfl (lv_at hl 1 rfl) ?_
              refine lv_bipush (v := 10) hx hb dX7_number_38 (by decide) ?_
              refine lv_imul hx hb dX7_number_40 ?_
              refine lv_topi (fun x57 ex57 => ?_)
              have tx57 : x57.toInt = 10 * (σ 10 (σ 9 1).toNatClampNeg).toInt - 480 := (jmul ex57 tx39 jz_10 (by omega) (by omega)).trans (by omega)
              refine lv_aload_n hx hb dX7_number_41 rfl (lv_at hl 2 rfl) ?_
              refine va_get (D := D) hx hb hts inlX7 hown hK hP 9 (jc_9 cI cL ad σ37 τ) rfl 3 (by decide) (hts _ kw_3_20) (fun _ h9 => h9) rfl dX7_number_42 ?_
              refine lv_aload_n hx hb dX7_number_45 rfl (lv_at hl 2 rfl) ?_
              refine lv_dup hx hb dX7_number_46 rfl ?_
              refine va_get (D := D) hx hb hts inlX7 hown hK hP 9 (jc_9 cI cL ad σ37 τ) rfl 1 (by decide) (hts _ kw_13_17) (fun _ h9 => h9) rfl dX7_number_47 ?_
              have m58 : σ37 9 1 = x36 := (jsp eσ37)
              refine jtopr m58 ?_
              refine lv_dup_x1 hx hb dX7_number_50 rfl rfl ?_
              refine lv_iconst (v := 1) hx hb dX7_number_51 (by decide) ?_
              refine lv_iadd hx hb dX7_number_52 ?_
              refine lv_topi (fun x59 ex59 => ?_)
              have tx59 : x59.toInt = (σ 9 1).toInt + 2 := (jadd ex59 tx36 jz_1 (by omega) (by omega)).trans (by omega)
              refine jput (ty := .int) hx hb hts inlX7 tyX7 tyX7_ok nmX7 hown hK hP hJ hA hS (jc_9 cI cL ad σ37 τ) rfl (k := 1) (by decide) (Nat.le_of_ble_eq_true rfl) (jp_9_1 cI cL ad σ37 τ x59) (hts _ kw_13_17) (fun _ h9 => h9) rfl (by decide +kernel) rfl rfl dX7_number_53 (fun σ60 H locs eσ60 hP hS => ?_)
              refine jald hx hb hK hP (jc_10 cI cL ad σ60 τ) (jin tx36 (by omega) (by omega)) dX7_number_56 ?_
              refine jtopr (y := (σ 10 x36.toNatClampNeg)) (by rw [jnp 10 eσ60 (by decide), jnp 10 eσ37 (by decide)]) ?_
              have g61 := jrg (rfl : (σ 10 x36.toNatClampNeg).toInt = (σ 10 x36.toNatClampNeg).toInt)
              refine lv_iadd hx hb dX7_number_57 ?_
              refine lv_topi (fun x62 ex62 => ?_)
              have tx62 : x62.toInt = 10 * (σ 10 (σ 9 1).toNatClampNeg).toInt + (σ 10 x36.toNatClampNeg).toInt - 480 := (jadd ex62 tx57 rfl (by omega) (by omega)).trans (by omega)
              refine lv_bipush (v := 48) hx hb dX7_number_58 (by decide) ?_
              refine lv_isub hx hb dX7_number_60 ?_
              refine lv_topi (fun x63 ex63 => ?_)
              have tx63 : x63.toInt = 10 * (σ 10 (σ 9 1).toNatClampNeg).toInt + (σ 10 x36.toNatClampNeg).toInt - 528 := (jsub ex63 tx62 jz_48 (by omega) (by omega)).trans (by omega)
              refine lv_istore_n (lv' := [(2, .int x63), (3, .int 1), (0, .ref (ad 9)), (1, .int 2)]) hx hb dX7_number_61 rfl hl (by decide) rfl (fun ls hl => ?_)
              refine lv_iinc (v := 2) (lv' := [(3, .int 2), (2, .int x63), (0, .ref (ad 9)), (1, .int 2)]) hx hb dX7_number_62 hl (k := 1) rfl (by decide) (by decide) rfl (fun ls hl => ?_)
              refine lv_goto (tgt := 22) hx hb dX7_number_65 (by decide) ?_
              refine lv_iload_n hx hb dX7_number_22 rfl (lv_at hl 0 rfl) ?_
              refine lv_iload_n hx hb dX7_number_23 rfl (lv_at hl 3 rfl) ?_
              refine lv_icmp_ge (tgt := 68) hx hb dX7_number_24 (by decide) (fun _ => ?_) (fun c => absurd (by decide) c)
              refine lv_iload_n hx hb dX7_number_68 rfl (lv_at hl 1 rfl) ?_
              have I64 : jI9 σ60 := jI9_fr (jkp 0 eσ60 (by decide)) (jnp 10 eσ60 (by decide)) (jnp 11 eσ60 (by decide)) I40
              have z65 : (σ60 9 1).toInt = (σ 9 1).toInt + 2 := ((congrArg Int32.toInt (show σ60 9 1 = x59 from (jsp eσ60))).trans tx59)
              have z66 : (σ60 9 0).toInt = (σ 9 0).toInt := (congrArg Int32.toInt (show σ60 9 0 = (σ 9 0) from ((jkp 0 eσ60 (by decide)).trans (jkp 0 eσ37 (by decide)))))
              have I67 : jI91 σ60 := ⟨(by omega), (by omega)⟩
              have I68 : jI92 σ60 := jI92_fr ((jkp 2 eσ60 (by decide)).trans (jkp 2 eσ37 (by decide))) hI92
              have z69 : (σ60 9 2).toInt = (σ 9 2).toInt := (congrArg Int32.toInt (show σ60 9 2 = (σ 9 2) from ((jkp 2 eσ60 (by decide)).trans (jkp 2 eσ37 (by decide)))))
              exact hret x63 σ60 τ _ _ _ _ rfl ⟨rfl, (fun i hi => ((jnp i eσ60 (imp_37 i hi)).trans (jnp i eσ37 (imp_37 i hi)))), (fun i hi => ((jkp i eσ60 (imp_39 i hi)).trans (jkp i eσ37 (imp_39 i hi)))), I64, I67, I68, (by omega), ⟨trivial, (by have h9 := tx63; omega)⟩⟩ hP hS dX7_number_69
            · obtain ⟨q71, k70⟩ := h54
              have q71 := q71.symm
              subst q71
              refine lv_if_eq (tgt := 68) hx hb dX7_number_34 (by decide) (fun _ => ?_) (fun c => absurd (by decide) c)
              refine lv_iload_n hx hb dX7_number_68 rfl (lv_at hl 1 rfl) ?_
              have I72 : jI91 σ37 := ⟨(by omega), (by omega)⟩
              have I73 : jI92 σ37 := jI92_fr (jkp 2 eσ37 (by decide)) hI92
              have z74 : (σ37 9 2).toInt = (σ 9 2).toInt := (congrArg Int32.toInt (show σ37 9 2 = (σ 9 2) from (jkp 2 eσ37 (by decide))))
              exact hret x39 σ37 τ _ _ _ _ rfl ⟨rfl, (fun i hi => (jnp i eσ37 (imp_37 i hi))), (fun i hi => (jkp i eσ37 (imp_39 i hi))), I40, I72, I73, (by omega), ⟨trivial, (by have h9 := tx39; omega)⟩⟩ hP hS dX7_number_69
          · obtain ⟨q76, k75⟩ := h46
            have q76 := q76.symm
            subst q76
            refine jcallS (As := [.int (-1)]) (rest := []) ⟨hx, hb, hml, hown, hts⟩ hK hP hA hS hZ (c_X7_isDigit l D cI cL ad zz hJ σ37 τ (-1) ((-1)) jz_m1) cw_RX7_39 ⟨Nat.le_of_ble_eq_true rfl, Nat.le_of_ble_eq_true rfl⟩ rfl rfl rfl hl.1 rfl (Nat.le_of_ble_eq_true rfl) dX7_number_31 ⟨Nat.zero_le _, Nat.zero_le _⟩ (fun r78 σ77 τ77 H locs h77 hP hS => ?_)
            obtain ⟨⟨rfl, rfl⟩, h77⟩ := h77
            rcases h77 with h79 | h80
            · obtain ⟨q82, k81⟩ := h79
              exact absurd (by omega : False) id
            · obtain ⟨q84, k83⟩ := h80
              have q84 := q84.symm
              subst q84
              refine lv_if_eq (tgt := 68) hx hb dX7_number_34 (by decide) (fun _ => ?_) (fun c => absurd (by decide) c)
              refine lv_iload_n hx hb dX7_number_68 rfl (lv_at hl 1 rfl) ?_
              have I85 : jI91 σ37 := ⟨(by omega), (by omega)⟩
              have I86 : jI92 σ37 := jI92_fr (jkp 2 eσ37 (by decide)) hI92
              have z87 : (σ37 9 2).toInt = (σ 9 2).toInt := (congrArg Int32.toInt (show σ37 9 2 = (σ 9 2) from (jkp 2 eσ37 (by decide))))
              exact hret x39 σ37 τ _ _ _ _ rfl ⟨rfl, (fun i hi => (jnp i eσ37 (imp_37 i hi))), (fun i hi => (jkp i eσ37 (imp_39 i hi))), I40, I85, I86, (by omega), ⟨trivial, (by have h9 := tx39; omega)⟩⟩ hP hS dX7_number_69
        · obtain ⟨q89, k88⟩ := h32
          exact absurd (by omega : False) id
      · obtain ⟨q91, k90⟩ := h24
        exact absurd (by omega : False) id
    · obtain ⟨q93, k92⟩ := h18
      have q93 := q93.symm
      subst q93
      refine lv_if_ne (tgt := 18) hx hb dX7_number_7 (by decide) (fun c => absurd (by decide) c) (fun _ => ?_)
      refine lv_aload_n hx hb dX7_number_10 rfl (lv_at hl 0 rfl) ?_
      refine lv_aload_n hx hb dX7_number_11 rfl (lv_at hl 0 rfl) ?_
      refine va_get (D := D) hx hb hts inlX7 hown hK hP 9 (jc_9 cI cL ad σ τ) rfl 1 (by decide) (hts _ kw_13_17) (fun _ h9 => h9) rfl dX7_number_12 ?_
      refine jcallVv (As := [.int (σ 9 1)]) (rest := []) ⟨hx, hb, hml, hown, hts⟩ hK hP hA hS hZ (c_X7_fail_9 l D cI cL ad zz hJ σ τ (σ 9 1) ((σ 9 1).toInt) rfl hI92 (by omega)) cw_RX7_43 (jc_9 cI cL ad σ τ) rfl ⟨Nat.le_of_ble_eq_true rfl, Nat.le_of_ble_eq_true rfl⟩ rfl rfl rfl hl.1 rfl (Nat.le_of_ble_eq_true rfl) dX7_number_15 ⟨Nat.zero_le _, Nat.zero_le _⟩ (fun σ94 τ94 H locs h94 hP hS => ?_)
      obtain ⟨rfl, f96, f97, h94⟩ := h94
      obtain ⟨k98, h94⟩ := h94
      refine lv_iconst (v := 0) hx hb dX7_number_18 (by decide) ?_
      refine lv_istore_n (lv' := [(2, .int 0), (0, .ref (ad 9)), (1, .int 2)]) hx hb dX7_number_19 rfl hl (by decide) rfl (fun ls hl => ?_)
      refine lv_iconst (v := 0) hx hb dX7_number_20 (by decide) ?_
      refine lv_istore_n (lv' := [(3, .int 0), (2, .int 0), (0, .ref (ad 9)), (1, .int 2)]) hx hb dX7_number_21 rfl hl (by decide) rfl (fun ls hl => ?_)
      refine lv_iload_n hx hb dX7_number_22 rfl (lv_at hl 0 rfl) ?_
      refine lv_iload_n hx hb dX7_number_23 rfl (lv_at hl 3 rfl) ?_
      refine lv_icmp_ge (tgt := 68) hx hb dX7_number_24 (by decide) (fun c => absurd c (by decide)) (fun _ => ?_)
      refine lv_aload_n hx hb dX7_number_27 rfl (lv_at hl 2 rfl) ?_
      have I99 : jI9 σ94 := jI9_fr (f97 0 (by decide)) (f96 10 (by decide)) (f96 11 (by decide)) hI9
      have z100 : (σ94 9 1).toInt = (σ 9 1).toInt := (congrArg Int32.toInt (show σ94 9 1 = (σ 9 1) from (f97 1 (by decide))))
      have z101 : (σ94 9 0).toInt = (σ 9 0).toInt := (congrArg Int32.toInt (show σ94 9 0 = (σ 9 0) from (f97 0 (by decide))))
      refine jcallV (As := []) (rest := []) ⟨hx, hb, hml, hown, hts⟩ hK hP hA hS hZ (c_X7_sign_9 l D cI cL ad zz hJ σ94 τ I99) cw_RX7_35 (jc_9 cI cL ad σ94 τ) rfl ⟨Nat.le_of_ble_eq_true rfl, Nat.le_of_ble_eq_true rfl⟩ rfl rfl rfl hl.1 rfl (Nat.le_of_ble_eq_true rfl) dX7_number_28 ⟨Nat.zero_le _, Nat.zero_le _⟩ (fun r103 σ102 τ102 H locs h102 hP hS => ?_)
      obtain ⟨⟨rfl, rfl⟩, h102⟩ := h102
      rcases h102 with h104 | h105
      · obtain ⟨q108, k106, k107⟩ := h104
        have q109 : r103 = (σ 10 (σ 9 1).toNatClampNeg) := q108.trans (by rw [(show σ94 9 1 = (σ 9 1) from (f97 1 (by decide))), f96 10 (by decide)])
        have q109e : (σ94 10 (σ94 9 1).toNatClampNeg).toInt = (σ 10 (σ 9 1).toNatClampNeg).toInt := by rw [← q108, ← q109]
        have q109 := q109.symm
        subst q109
        refine jcallS (As := [.int (σ 10 (σ 9 1).toNatClampNeg)]) (rest := []) ⟨hx, hb, hml, hown, hts⟩ hK hP hA hS hZ (c_X7_isDigit l D cI cL ad zz hJ σ94 τ (σ 10 (σ 9 1).toNatClampNeg) ((σ 10 (σ 9 1).toNatClampNeg).toInt) rfl) cw_RX7_39 ⟨Nat.le_of_ble_eq_true rfl, Nat.le_of_ble_eq_true rfl⟩ rfl rfl rfl hl.1 rfl (Nat.le_of_ble_eq_true rfl) dX7_number_31 ⟨Nat.zero_le _, Nat.zero_le _⟩ (fun r111 σ110 τ110 H locs h110 hP hS => ?_)
        obtain ⟨⟨rfl, rfl⟩, h110⟩ := h110
        rcases h110 with h112 | h113
        · obtain ⟨q115, k114⟩ := h112
          exact absurd (by omega : False) id
        · obtain ⟨q117, k116⟩ := h113
          have q117 := q117.symm
          subst q117
          refine lv_if_eq (tgt := 68) hx hb dX7_number_34 (by decide) (fun _ => ?_) (fun c => absurd (by decide) c)
          refine lv_iload_n hx hb dX7_number_68 rfl (lv_at hl 1 rfl) ?_
          have I118 : jI91 σ94 := jI91_fr (f97 0 (by decide)) (f97 1 (by decide)) hI91
          have I119 : jI92 σ94 := (show (-1) ≤ (σ94 9 2).toInt by omega)
          exact hret 0 σ94 τ _ _ _ _ rfl ⟨rfl, (fun i hi => (f96 i hi)), (fun i hi => (f97 i (imp_43 i hi))), I99, I118, I119, (by omega), ⟨trivial, (by have h9 := jz_0; omega)⟩⟩ hP hS dX7_number_69
      · obtain ⟨q121, k120⟩ := h105
        have q121 := q121.symm
        subst q121
        refine jcallS (As := [.int (-1)]) (rest := []) ⟨hx, hb, hml, hown, hts⟩ hK hP hA hS hZ (c_X7_isDigit l D cI cL ad zz hJ σ94 τ (-1) ((-1)) jz_m1) cw_RX7_39 ⟨Nat.le_of_ble_eq_true rfl, Nat.le_of_ble_eq_true rfl⟩ rfl rfl rfl hl.1 rfl (Nat.le_of_ble_eq_true rfl) dX7_number_31 ⟨Nat.zero_le _, Nat.zero_le _⟩ (fun r123 σ122 τ122 H locs h122 hP hS => ?_)
        obtain ⟨⟨rfl, rfl⟩, h122⟩ := h122
        rcases h122 with h124 | h125
        · obtain ⟨q127, k126⟩ := h124
          exact absurd (by omega : False) id
        · obtain ⟨q129, k128⟩ := h125
          have q129 := q129.symm
          subst q129
          refine lv_if_eq (tgt := 68) hx hb dX7_number_34 (by decide) (fun _ => ?_) (fun c => absurd (by decide) c)
          refine lv_iload_n hx hb dX7_number_68 rfl (lv_at hl 1 rfl) ?_
          have I130 : jI91 σ94 := jI91_fr (f97 0 (by decide)) (f97 1 (by decide)) hI91
          have I131 : jI92 σ94 := (show (-1) ≤ (σ94 9 2).toInt by omega)
          exact hret 0 σ94 τ _ _ _ _ rfl ⟨rfl, (fun i hi => (f96 i hi)), (fun i hi => (f97 i (imp_43 i hi))), I99, I130, I131, (by omega), ⟨trivial, (by have h9 := jz_0; omega)⟩⟩ hP hS dX7_number_69
  · obtain ⟨q133, k132⟩ := h10
    have q133 := q133.symm
    subst q133
    refine jcallS (As := [.int (-1)]) (rest := []) ⟨hx, hb, hml, hown, hts⟩ hK hP hA hS hZ (c_X7_isDigit l D cI cL ad zz hJ σ τ (-1) ((-1)) jz_m1) cw_RX7_39 ⟨Nat.le_of_ble_eq_true rfl, Nat.le_of_ble_eq_true rfl⟩ rfl rfl rfl hl.1 rfl (Nat.le_of_ble_eq_true rfl) dX7_number_4 ⟨Nat.zero_le _, Nat.zero_le _⟩ (fun r135 σ134 τ134 H locs h134 hP hS => ?_)
    obtain ⟨⟨rfl, rfl⟩, h134⟩ := h134
    rcases h134 with h136 | h137
    · obtain ⟨q139, k138⟩ := h136
      exact absurd (by omega : False) id
    · obtain ⟨q141, k140⟩ := h137
      have q141 := q141.symm
      subst q141
      refine lv_if_ne (tgt := 18) hx hb dX7_number_7 (by decide) (fun c => absurd (by decide) c) (fun _ => ?_)
      refine lv_aload_n hx hb dX7_number_10 rfl (lv_at hl 0 rfl) ?_
      refine lv_aload_n hx hb dX7_number_11 rfl (lv_at hl 0 rfl) ?_
      refine va_get (D := D) hx hb hts inlX7 hown hK hP 9 (jc_9 cI cL ad σ τ) rfl 1 (by decide) (hts _ kw_13_17) (fun _ h9 => h9) rfl dX7_number_12 ?_
      refine jcallVv (As := [.int (σ 9 1)]) (rest := []) ⟨hx, hb, hml, hown, hts⟩ hK hP hA hS hZ (c_X7_fail_9 l D cI cL ad zz hJ σ τ (σ 9 1) ((σ 9 1).toInt) rfl hI92 (by omega)) cw_RX7_43 (jc_9 cI cL ad σ τ) rfl ⟨Nat.le_of_ble_eq_true rfl, Nat.le_of_ble_eq_true rfl⟩ rfl rfl rfl hl.1 rfl (Nat.le_of_ble_eq_true rfl) dX7_number_15 ⟨Nat.zero_le _, Nat.zero_le _⟩ (fun σ142 τ142 H locs h142 hP hS => ?_)
      obtain ⟨rfl, f144, f145, h142⟩ := h142
      obtain ⟨k146, h142⟩ := h142
      refine lv_iconst (v := 0) hx hb dX7_number_18 (by decide) ?_
      refine lv_istore_n (lv' := [(2, .int 0), (0, .ref (ad 9)), (1, .int 2)]) hx hb dX7_number_19 rfl hl (by decide) rfl (fun ls hl => ?_)
      refine lv_iconst (v := 0) hx hb dX7_number_20 (by decide) ?_
      refine lv_istore_n (lv' := [(3, .int 0), (2, .int 0), (0, .ref (ad 9)), (1, .int 2)]) hx hb dX7_number_21 rfl hl (by decide) rfl (fun ls hl => ?_)
      refine lv_iload_n hx hb dX7_number_22 rfl (lv_at hl 0 rfl) ?_
      refine lv_iload_n hx hb dX7_number_23 rfl (lv_at hl 3 rfl) ?_
      refine lv_icmp_ge (tgt := 68) hx hb dX7_number_24 (by decide) (fun c => absurd c (by decide)) (fun _ => ?_)
      refine lv_aload_n hx hb dX7_number_27 rfl (lv_at hl 2 rfl) ?_
      have I147 : jI9 σ142 := jI9_fr (f145 0 (by decide)) (f144 10 (by decide)) (f144 11 (by decide)) hI9
      have z148 : (σ142 9 1).toInt = (σ 9 1).toInt := (congrArg Int32.toInt (show σ142 9 1 = (σ 9 1) from (f145 1 (by decide))))
      have z149 : (σ142 9 0).toInt = (σ 9 0).toInt := (congrArg Int32.toInt (show σ142 9 0 = (σ 9 0) from (f145 0 (by decide))))
      refine jcallV (As := []) (rest := []) ⟨hx, hb, hml, hown, hts⟩ hK hP hA hS hZ (c_X7_sign_9 l D cI cL ad zz hJ σ142 τ I147) cw_RX7_35 (jc_9 cI cL ad σ142 τ) rfl ⟨Nat.le_of_ble_eq_true rfl, Nat.le_of_ble_eq_true rfl⟩ rfl rfl rfl hl.1 rfl (Nat.le_of_ble_eq_true rfl) dX7_number_28 ⟨Nat.zero_le _, Nat.zero_le _⟩ (fun r151 σ150 τ150 H locs h150 hP hS => ?_)
      obtain ⟨⟨rfl, rfl⟩, h150⟩ := h150
      rcases h150 with h152 | h153
      · obtain ⟨q156, k154, k155⟩ := h152
        have q157 : r151 = (σ 10 (σ 9 1).toNatClampNeg) := q156.trans (by rw [(show σ142 9 1 = (σ 9 1) from (f145 1 (by decide))), f144 10 (by decide)])
        have q157e : (σ142 10 (σ142 9 1).toNatClampNeg).toInt = (σ 10 (σ 9 1).toNatClampNeg).toInt := by rw [← q156, ← q157]
        have q157 := q157.symm
        subst q157
        refine jcallS (As := [.int (σ 10 (σ 9 1).toNatClampNeg)]) (rest := []) ⟨hx, hb, hml, hown, hts⟩ hK hP hA hS hZ (c_X7_isDigit l D cI cL ad zz hJ σ142 τ (σ 10 (σ 9 1).toNatClampNeg) ((σ 10 (σ 9 1).toNatClampNeg).toInt) rfl) cw_RX7_39 ⟨Nat.le_of_ble_eq_true rfl, Nat.le_of_ble_eq_true rfl⟩ rfl rfl rfl hl.1 rfl (Nat.le_of_ble_eq_true rfl) dX7_number_31 ⟨Nat.zero_le _, Nat.zero_le _⟩ (fun r159 σ158 τ158 H locs h158 hP hS => ?_)
        obtain ⟨⟨rfl, rfl⟩, h158⟩ := h158
        rcases h158 with h160 | h161
        · obtain ⟨q163, k162⟩ := h160
          have q163 := q163.symm
          subst q163
          refine lv_if_eq (tgt := 68) hx hb dX7_number_34 (by decide) (fun c => absurd c (by decide)) (fun _ => ?_)
          refine lv_iload_n hx hb dX7_number_37 rfl (lv_at hl 1 rfl) ?_
          refine lv_bipush (v := 10) hx hb dX7_number_38 (by decide) ?_
          refine lv_imul hx hb dX7_number_40 ?_
          refine jtopr (y := 0) (by decide) ?_
          refine lv_aload_n hx hb dX7_number_41 rfl (lv_at hl 2 rfl) ?_
          refine va_get (D := D) hx hb hts inlX7 hown hK hP 9 (jc_9 cI cL ad σ142 τ) rfl 3 (by decide) (hts _ kw_3_20) (fun _ h9 => h9) rfl dX7_number_42 ?_
          refine lv_aload_n hx hb dX7_number_45 rfl (lv_at hl 2 rfl) ?_
          refine lv_dup hx hb dX7_number_46 rfl ?_
          refine va_get (D := D) hx hb hts inlX7 hown hK hP 9 (jc_9 cI cL ad σ142 τ) rfl 1 (by decide) (hts _ kw_13_17) (fun _ h9 => h9) rfl dX7_number_47 ?_
          have m164 : σ142 9 1 = (σ 9 1) := (f145 1 (by decide))
          refine jtopr m164 ?_
          refine lv_dup_x1 hx hb dX7_number_50 rfl rfl ?_
          refine lv_iconst (v := 1) hx hb dX7_number_51 (by decide) ?_
          have g165 := jrg (rfl : (σ 9 1).toInt = (σ 9 1).toInt)
          refine lv_iadd hx hb dX7_number_52 ?_
          refine lv_topi (fun x166 ex166 => ?_)
          have tx166 : x166.toInt = (σ 9 1).toInt + 1 := (jadd ex166 rfl jz_1 (by omega) (by omega)).trans (by omega)
          refine jput (ty := .int) hx hb hts inlX7 tyX7 tyX7_ok nmX7 hown hK hP hJ hA hS (jc_9 cI cL ad σ142 τ) rfl (k := 1) (by decide) (Nat.le_of_ble_eq_true rfl) (jp_9_1 cI cL ad σ142 τ x166) (hts _ kw_13_17) (fun _ h9 => h9) rfl (by decide +kernel) rfl rfl dX7_number_53 (fun σ167 H locs eσ167 hP hS => ?_)
          refine jald hx hb hK hP (jc_10 cI cL ad σ167 τ) (jin rfl (by omega) (by omega)) dX7_number_56 ?_
          refine jtopr (y := (σ 10 (σ 9 1).toNatClampNeg)) (by rw [jnp 10 eσ167 (by decide), f144 10 (by decide)]) ?_
          refine lv_iadd hx hb dX7_number_57 ?_
          refine jtopr (y := (σ 10 (σ 9 1).toNatClampNeg)) (by rw [Int32.zero_add]) ?_
          refine lv_bipush (v := 48) hx hb dX7_number_58 (by decide) ?_
          have g168 := jrg (rfl : (σ 10 (σ 9 1).toNatClampNeg).toInt = (σ 10 (σ 9 1).toNatClampNeg).toInt)
          refine lv_isub hx hb dX7_number_60 ?_
          refine lv_topi (fun x169 ex169 => ?_)
          have tx169 : x169.toInt = (σ 10 (σ 9 1).toNatClampNeg).toInt - 48 := (jsub ex169 rfl jz_48 (by omega) (by omega)).trans (by omega)
          refine lv_istore_n (lv' := [(2, .int x169), (3, .int 0), (0, .ref (ad 9)), (1, .int 2)]) hx hb dX7_number_61 rfl hl (by decide) rfl (fun ls hl => ?_)
          refine lv_iinc (v := 1) (lv' := [(3, .int 1), (2, .int x169), (0, .ref (ad 9)), (1, .int 2)]) hx hb dX7_number_62 hl (k := 1) rfl (by decide) (by decide) rfl (fun ls hl => ?_)
          refine lv_goto (tgt := 22) hx hb dX7_number_65 (by decide) ?_
          refine lv_iload_n hx hb dX7_number_22 rfl (lv_at hl 0 rfl) ?_
          refine lv_iload_n hx hb dX7_number_23 rfl (lv_at hl 3 rfl) ?_
          refine lv_icmp_ge (tgt := 68) hx hb dX7_number_24 (by decide) (fun c => absurd c (by decide)) (fun _ => ?_)
          refine lv_aload_n hx hb dX7_number_27 rfl (lv_at hl 2 rfl) ?_
          have I170 : jI9 σ167 := jI9_fr (jkp 0 eσ167 (by decide)) (jnp 10 eσ167 (by decide)) (jnp 11 eσ167 (by decide)) I147
          have z171 : (σ167 9 1).toInt = (σ 9 1).toInt + 1 := ((congrArg Int32.toInt (show σ167 9 1 = x166 from (jsp eσ167))).trans tx166)
          have z172 : (σ167 9 0).toInt = (σ 9 0).toInt := (congrArg Int32.toInt (show σ167 9 0 = (σ 9 0) from ((jkp 0 eσ167 (by decide)).trans (f145 0 (by decide)))))
          refine jcallV (As := []) (rest := []) ⟨hx, hb, hml, hown, hts⟩ hK hP hA hS hZ (c_X7_sign_9 l D cI cL ad zz hJ σ167 τ I170) cw_RX7_35 (jc_9 cI cL ad σ167 τ) rfl ⟨Nat.le_of_ble_eq_true rfl, Nat.le_of_ble_eq_true rfl⟩ rfl rfl rfl hl.1 rfl (Nat.le_of_ble_eq_true rfl) dX7_number_28 ⟨Nat.zero_le _, Nat.zero_le _⟩ (fun r174 σ173 τ173 H locs h173 hP hS => ?_)
          obtain ⟨⟨rfl, rfl⟩, h173⟩ := h173
          rcases h173 with h175 | h176
          · obtain ⟨q179, k177, k178⟩ := h175
            exact absurd (by omega : False) id
          · obtain ⟨q181, k180⟩ := h176
            have q181 := q181.symm
            subst q181
            refine jcallS (As := [.int (-1)]) (rest := []) ⟨hx, hb, hml, hown, hts⟩ hK hP hA hS hZ (c_X7_isDigit l D cI cL ad zz hJ σ167 τ (-1) ((-1)) jz_m1) cw_RX7_39 ⟨Nat.le_of_ble_eq_true rfl, Nat.le_of_ble_eq_true rfl⟩ rfl rfl rfl hl.1 rfl (Nat.le_of_ble_eq_true rfl) dX7_number_31 ⟨Nat.zero_le _, Nat.zero_le _⟩ (fun r183 σ182 τ182 H locs h182 hP hS => ?_)
            obtain ⟨⟨rfl, rfl⟩, h182⟩ := h182
            rcases h182 with h184 | h185
            · obtain ⟨q187, k186⟩ := h184
              exact absurd (by omega : False) id
            · obtain ⟨q189, k188⟩ := h185
              have q189 := q189.symm
              subst q189
              refine lv_if_eq (tgt := 68) hx hb dX7_number_34 (by decide) (fun _ => ?_) (fun c => absurd (by decide) c)
              refine lv_iload_n hx hb dX7_number_68 rfl (lv_at hl 1 rfl) ?_
              have I190 : jI91 σ167 := ⟨(by omega), (by omega)⟩
              have z191 : (σ167 9 2).toInt = (σ142 9 2).toInt := (congrArg Int32.toInt (show σ167 9 2 = (σ142 9 2) from (jkp 2 eσ167 (by decide))))
              have I192 : jI92 σ167 := (show (-1) ≤ (σ167 9 2).toInt by omega)
              exact hret x169 σ167 τ _ _ _ _ rfl ⟨rfl, (fun i hi => ((jnp i eσ167 (imp_37 i hi)).trans (f144 i hi))), (fun i hi => ((jkp i eσ167 (imp_39 i hi)).trans (f145 i (imp_43 i hi)))), I170, I190, I192, (by omega), ⟨trivial, (by have h9 := tx169; omega)⟩⟩ hP hS dX7_number_69
        · obtain ⟨q194, k193⟩ := h161
          have q194 := q194.symm
          subst q194
          refine lv_if_eq (tgt := 68) hx hb dX7_number_34 (by decide) (fun _ => ?_) (fun c => absurd (by decide) c)
          refine lv_iload_n hx hb dX7_number_68 rfl (lv_at hl 1 rfl) ?_
          have I195 : jI91 σ142 := jI91_fr (f145 0 (by decide)) (f145 1 (by decide)) hI91
          have I196 : jI92 σ142 := (show (-1) ≤ (σ142 9 2).toInt by omega)
          exact hret 0 σ142 τ _ _ _ _ rfl ⟨rfl, (fun i hi => (f144 i hi)), (fun i hi => (f145 i (imp_43 i hi))), I147, I195, I196, (by omega), ⟨trivial, (by have h9 := jz_0; omega)⟩⟩ hP hS dX7_number_69
      · obtain ⟨q198, k197⟩ := h153
        have q198 := q198.symm
        subst q198
        refine jcallS (As := [.int (-1)]) (rest := []) ⟨hx, hb, hml, hown, hts⟩ hK hP hA hS hZ (c_X7_isDigit l D cI cL ad zz hJ σ142 τ (-1) ((-1)) jz_m1) cw_RX7_39 ⟨Nat.le_of_ble_eq_true rfl, Nat.le_of_ble_eq_true rfl⟩ rfl rfl rfl hl.1 rfl (Nat.le_of_ble_eq_true rfl) dX7_number_31 ⟨Nat.zero_le _, Nat.zero_le _⟩ (fun r200 σ199 τ199 H locs h199 hP hS => ?_)
        obtain ⟨⟨rfl, rfl⟩, h199⟩ := h199
        rcases h199 with h201 | h202
        · obtain ⟨q204, k203⟩ := h201
          exact absurd (by omega : False) id
        · obtain ⟨q206, k205⟩ := h202
          have q206 := q206.symm
          subst q206
          refine lv_if_eq (tgt := 68) hx hb dX7_number_34 (by decide) (fun _ => ?_) (fun c => absurd (by decide) c)
          refine lv_iload_n hx hb dX7_number_68 rfl (lv_at hl 1 rfl) ?_
          have I207 : jI91 σ142 := jI91_fr (f145 0 (by decide)) (f145 1 (by decide)) hI91
          have I208 : jI92 σ142 := (show (-1) ≤ (σ142 9 2).toInt by omega)
          exact hret 0 σ142 τ _ _ _ _ rfl ⟨rfl, (fun i hi => (f144 i hi)), (fun i hi => (f145 i (imp_43 i hi))), I147, I207, I208, (by omega), ⟨trivial, (by have h9 := jz_0; omega)⟩⟩ hP hS dX7_number_69
set_option maxHeartbeats 4000000 in
set_option maxRecDepth 100000 in
theorem c_X7_number_3 (l : Launch) (D : va_G) (cI cL : ClassId) (ad zz : Nat → Nat) (hJ : jD ad) (σ : Nat → Nat → Int32) (τ : Nat → Nat → Int64) (hI9 : jI9 σ) (hI91 : jI91 σ) (hI92 : jI92 σ) : jM l yX7_number cX7_number 4 (some .int) ({ frames := 1, cells := 0, slots := 0, locals := 21 }) D cI cL ad zz [.ref (ad 9), .int 3] σ τ (fun r σ' τ' => τ = τ' ∧ (∀ i : Nat, (i < 9 ∨ 9 < i) → σ' i = σ i) ∧ (∀ k : Nat, (k < 1 ∨ 1 < k) ∧ (k < 2 ∨ 2 < k) → σ' 9 k = σ 9 k) ∧ (jI9 σ') ∧ (jI91 σ') ∧ (jI92 σ') ∧ ((0 ≤ (σ 9 2).toInt ∧ 0 ≤ (σ' 9 2).toInt) ∨ ((σ 9 2).toInt = (-1))) ∧ ((True ∧ (0 ≤ r.toInt ∧ r.toInt ≤ 999)))) := by
  refine jM.of hJ (by decide +kernel) (nt := .int) rfl (Nat.le_of_ble_eq_true rfl) ?_
  intro p e s m args below meth c Q ls hC hret hl hP
  obtain ⟨hx, hb, hr, hml, hown, hts, hK, -, hlocks, hZ⟩ := hC
  have hown : s.vm.findClass RX7 = some m.cls := hown
  have hS : va_S (jA ad) s.heap s.heap [] := va_S.rf
  have hA : ∀ q, jA ad q → jA ad q := fun _ h => h
  have hl : lv_has ls 4 [(0, .ref (ad 9)), (1, .int 3)] := hl
  obtain ⟨i1, w2, w3⟩ : (0 ≤ (σ 9 0).toInt ∧ (σ 9 0).toInt ≤ 80) ∧ (∀ k : Nat, k < 80 → 0 ≤ (σ 10 k).toInt ∧ (σ 10 k).toInt ≤ 255) ∧ (∀ k : Nat, k < 8 → 0 ≤ (σ 11 k).toInt ∧ (σ 11 k).toInt ≤ 3) := id hI9
  obtain ⟨i4, i5⟩ : (0 ≤ (σ 9 1).toInt) ∧ ((σ 9 1).toInt ≤ (σ 9 0).toInt) := id hI91
  have i6 : (-1) ≤ (σ 9 2).toInt := hI92
  refine lv_aload_n hx hb dX7_number_0 rfl (lv_at hl 0 rfl) ?_
  refine jcallV (As := []) (rest := []) ⟨hx, hb, hml, hown, hts⟩ hK hP hA hS hZ (c_X7_sign_9 l D cI cL ad zz hJ σ τ hI9) cw_RX7_35 (jc_9 cI cL ad σ τ) rfl ⟨Nat.le_of_ble_eq_true rfl, Nat.le_of_ble_eq_true rfl⟩ rfl rfl rfl hl.1 rfl (Nat.le_of_ble_eq_true rfl) dX7_number_1 ⟨Nat.zero_le _, Nat.zero_le _⟩ (fun r8 σ7 τ7 H locs h7 hP hS => ?_)
  obtain ⟨⟨rfl, rfl⟩, h7⟩ := h7
  rcases h7 with h9 | h10
  · obtain ⟨q13, k11, k12⟩ := h9
    have q14 : r8 = (σ 10 (σ 9 1).toNatClampNeg) := q13.trans rfl
    have q14 := q14.symm
    subst q14
    refine jcallS (As := [.int (σ 10 (σ 9 1).toNatClampNeg)]) (rest := []) ⟨hx, hb, hml, hown, hts⟩ hK hP hA hS hZ (c_X7_isDigit l D cI cL ad zz hJ σ τ (σ 10 (σ 9 1).toNatClampNeg) ((σ 10 (σ 9 1).toNatClampNeg).toInt) rfl) cw_RX7_39 ⟨Nat.le_of_ble_eq_true rfl, Nat.le_of_ble_eq_true rfl⟩ rfl rfl rfl hl.1 rfl (Nat.le_of_ble_eq_true rfl) dX7_number_4 ⟨Nat.zero_le _, Nat.zero_le _⟩ (fun r16 σ15 τ15 H locs h15 hP hS => ?_)
    obtain ⟨⟨rfl, rfl⟩, h15⟩ := h15
    rcases h15 with h17 | h18
    · obtain ⟨q20, k19⟩ := h17
      have q20 := q20.symm
      subst q20
      refine lv_if_ne (tgt := 18) hx hb dX7_number_7 (by decide) (fun _ => ?_) (fun c => absurd c (by decide))
      refine lv_iconst (v := 0) hx hb dX7_number_18 (by decide) ?_
      refine lv_istore_n (lv' := [(2, .int 0), (0, .ref (ad 9)), (1, .int 3)]) hx hb dX7_number_19 rfl hl (by decide) rfl (fun ls hl => ?_)
      refine lv_iconst (v := 0) hx hb dX7_number_20 (by decide) ?_
      refine lv_istore_n (lv' := [(3, .int 0), (2, .int 0), (0, .ref (ad 9)), (1, .int 3)]) hx hb dX7_number_21 rfl hl (by decide) rfl (fun ls hl => ?_)
      refine lv_iload_n hx hb dX7_number_22 rfl (lv_at hl 0 rfl) ?_
      refine lv_iload_n hx hb dX7_number_23 rfl (lv_at hl 3 rfl) ?_
      refine lv_icmp_ge (tgt := 68) hx hb dX7_number_24 (by decide) (fun c => absurd c (by decide)) (fun _ => ?_)
      refine lv_aload_n hx hb dX7_number_27 rfl (lv_at hl 2 rfl) ?_
      refine jcallV (As := []) (rest := []) ⟨hx, hb, hml, hown, hts⟩ hK hP hA hS hZ (c_X7_sign_9 l D cI cL ad zz hJ σ τ hI9) cw_RX7_35 (jc_9 cI cL ad σ τ) rfl ⟨Nat.le_of_ble_eq_true rfl, Nat.le_of_ble_eq_true rfl⟩ rfl rfl rfl hl.1 rfl (Nat.le_of_ble_eq_true rfl) dX7_number_28 ⟨Nat.zero_le _, Nat.zero_le _⟩ (fun r22 σ21 τ21 H locs h21 hP hS => ?_)
      obtain ⟨⟨rfl, rfl⟩, h21⟩ := h21
      rcases h21 with h23 | h24
      · obtain ⟨q27, k25, k26⟩ := h23
        have q28 : r22 = (σ 10 (σ 9 1).toNatClampNeg) := q27.trans rfl
        have q28 := q28.symm
        subst q28
        refine jcallS (As := [.int (σ 10 (σ 9 1).toNatClampNeg)]) (rest := []) ⟨hx, hb, hml, hown, hts⟩ hK hP hA hS hZ (c_X7_isDigit l D cI cL ad zz hJ σ τ (σ 10 (σ 9 1).toNatClampNeg) ((σ 10 (σ 9 1).toNatClampNeg).toInt) rfl) cw_RX7_39 ⟨Nat.le_of_ble_eq_true rfl, Nat.le_of_ble_eq_true rfl⟩ rfl rfl rfl hl.1 rfl (Nat.le_of_ble_eq_true rfl) dX7_number_31 ⟨Nat.zero_le _, Nat.zero_le _⟩ (fun r30 σ29 τ29 H locs h29 hP hS => ?_)
        obtain ⟨⟨rfl, rfl⟩, h29⟩ := h29
        rcases h29 with h31 | h32
        · obtain ⟨q34, k33⟩ := h31
          have q34 := q34.symm
          subst q34
          refine lv_if_eq (tgt := 68) hx hb dX7_number_34 (by decide) (fun c => absurd c (by decide)) (fun _ => ?_)
          refine lv_iload_n hx hb dX7_number_37 rfl (lv_at hl 1 rfl) ?_
          refine lv_bipush (v := 10) hx hb dX7_number_38 (by decide) ?_
          refine lv_imul hx hb dX7_number_40 ?_
          refine jtopr (y := 0) (by decide) ?_
          refine lv_aload_n hx hb dX7_number_41 rfl (lv_at hl 2 rfl) ?_
          refine va_get (D := D) hx hb hts inlX7 hown hK hP 9 (jc_9 cI cL ad σ τ) rfl 3 (by decide) (hts _ kw_3_20) (fun _ h9 => h9) rfl dX7_number_42 ?_
          refine lv_aload_n hx hb dX7_number_45 rfl (lv_at hl 2 rfl) ?_
          refine lv_dup hx hb dX7_number_46 rfl ?_
          refine va_get (D := D) hx hb hts inlX7 hown hK hP 9 (jc_9 cI cL ad σ τ) rfl 1 (by decide) (hts _ kw_13_17) (fun _ h9 => h9) rfl dX7_number_47 ?_
          refine lv_dup_x1 hx hb dX7_number_50 rfl rfl ?_
          refine lv_iconst (v := 1) hx hb dX7_number_51 (by decide) ?_
          have g35 := jrg (rfl : (σ 9 1).toInt = (σ 9 1).toInt)
          refine lv_iadd hx hb dX7_number_52 ?_
          refine lv_topi (fun x36 ex36 => ?_)
          have tx36 : x36.toInt = (σ 9 1).toInt + 1 := (jadd ex36 rfl jz_1 (by omega) (by omega)).trans (by omega)
          refine jput (ty := .int) hx hb hts inlX7 tyX7 tyX7_ok nmX7 hown hK hP hJ hA hS (jc_9 cI cL ad σ τ) rfl (k := 1) (by decide) (Nat.le_of_ble_eq_true rfl) (jp_9_1 cI cL ad σ τ x36) (hts _ kw_13_17) (fun _ h9 => h9) rfl (by decide +kernel) rfl rfl dX7_number_53 (fun σ37 H locs eσ37 hP hS => ?_)
          refine jald hx hb hK hP (jc_10 cI cL ad σ37 τ) (jin rfl (by omega) (by omega)) dX7_number_56 ?_
          refine jtopr (y := (σ 10 (σ 9 1).toNatClampNeg)) (by rw [jnp 10 eσ37 (by decide)]) ?_
          refine lv_iadd hx hb dX7_number_57 ?_
          refine jtopr (y := (σ 10 (σ 9 1).toNatClampNeg)) (by rw [Int32.zero_add]) ?_
          refine lv_bipush (v := 48) hx hb dX7_number_58 (by decide) ?_
          have g38 := jrg (rfl : (σ 10 (σ 9 1).toNatClampNeg).toInt = (σ 10 (σ 9 1).toNatClampNeg).toInt)
          refine lv_isub hx hb dX7_number_60 ?_
          refine lv_topi (fun x39 ex39 => ?_)
          have tx39 : x39.toInt = (σ 10 (σ 9 1).toNatClampNeg).toInt - 48 := (jsub ex39 rfl jz_48 (by omega) (by omega)).trans (by omega)
          refine lv_istore_n (lv' := [(2, .int x39), (3, .int 0), (0, .ref (ad 9)), (1, .int 3)]) hx hb dX7_number_61 rfl hl (by decide) rfl (fun ls hl => ?_)
          refine lv_iinc (v := 1) (lv' := [(3, .int 1), (2, .int x39), (0, .ref (ad 9)), (1, .int 3)]) hx hb dX7_number_62 hl (k := 1) rfl (by decide) (by decide) rfl (fun ls hl => ?_)
          refine lv_goto (tgt := 22) hx hb dX7_number_65 (by decide) ?_
          refine lv_iload_n hx hb dX7_number_22 rfl (lv_at hl 0 rfl) ?_
          refine lv_iload_n hx hb dX7_number_23 rfl (lv_at hl 3 rfl) ?_
          refine lv_icmp_ge (tgt := 68) hx hb dX7_number_24 (by decide) (fun c => absurd c (by decide)) (fun _ => ?_)
          refine lv_aload_n hx hb dX7_number_27 rfl (lv_at hl 2 rfl) ?_
          have I40 : jI9 σ37 := jI9_fr (jkp 0 eσ37 (by decide)) (jnp 10 eσ37 (by decide)) (jnp 11 eσ37 (by decide)) hI9
          have z41 : (σ37 9 1).toInt = (σ 9 1).toInt + 1 := ((congrArg Int32.toInt (show σ37 9 1 = x36 from (jsp eσ37))).trans tx36)
          have z42 : (σ37 9 0).toInt = (σ 9 0).toInt := (congrArg Int32.toInt (show σ37 9 0 = (σ 9 0) from (jkp 0 eσ37 (by decide))))
          refine jcallV (As := []) (rest := []) ⟨hx, hb, hml, hown, hts⟩ hK hP hA hS hZ (c_X7_sign_9 l D cI cL ad zz hJ σ37 τ I40) cw_RX7_35 (jc_9 cI cL ad σ37 τ) rfl ⟨Nat.le_of_ble_eq_true rfl, Nat.le_of_ble_eq_true rfl⟩ rfl rfl rfl hl.1 rfl (Nat.le_of_ble_eq_true rfl) dX7_number_28 ⟨Nat.zero_le _, Nat.zero_le _⟩ (fun r44 σ43 τ43 H locs h43 hP hS => ?_)
          obtain ⟨⟨rfl, rfl⟩, h43⟩ := h43
          rcases h43 with h45 | h46
          · obtain ⟨q49, k47, k48⟩ := h45
            have q50 : r44 = (σ 10 x36.toNatClampNeg) := q49.trans (by rw [(show σ37 9 1 = x36 from (jsp eσ37)), jnp 10 eσ37 (by decide)])
            have q50e : (σ37 10 (σ37 9 1).toNatClampNeg).toInt = (σ 10 x36.toNatClampNeg).toInt := by rw [← q49, ← q50]
            have q50 := q50.symm
            subst q50
            refine jcallS (As := [.int (σ 10 x36.toNatClampNeg)]) (rest := []) ⟨hx, hb, hml, hown, hts⟩ hK hP hA hS hZ (c_X7_isDigit l D cI cL ad zz hJ σ37 τ (σ 10 x36.toNatClampNeg) ((σ 10 x36.toNatClampNeg).toInt) rfl) cw_RX7_39 ⟨Nat.le_of_ble_eq_true rfl, Nat.le_of_ble_eq_true rfl⟩ rfl rfl rfl hl.1 rfl (Nat.le_of_ble_eq_true rfl) dX7_number_31 ⟨Nat.zero_le _, Nat.zero_le _⟩ (fun r52 σ51 τ51 H locs h51 hP hS => ?_)
            obtain ⟨⟨rfl, rfl⟩, h51⟩ := h51
            rcases h51 with h53 | h54
            · obtain ⟨q56, k55⟩ := h53
              have q56 := q56.symm
              subst q56
              refine lv_if_eq (tgt := 68) hx hb dX7_number_34 (by decide) (fun c => absurd c (by decide)) (fun _ => ?_)
              refine lv_iload_n hx hb dX7_number_37 rfl (lv_at hl 1 rfl) ?_
              refine lv_bipush (v := 10) hx hb dX7_number_38 (by decide) ?_
              refine lv_imul hx hb dX7_number_40 ?_
              refine lv_topi (fun x57 ex57 => ?_)
              have tx57 : x57.toInt = 10 * (σ 10 (σ 9 1).toNatClampNeg).toInt - 480 := (jmul ex57 tx39 jz_10 (by omega) (by omega)).trans (by omega)
              refine lv_aload_n hx hb dX7_number_41 rfl (lv_at hl 2 rfl) ?_
              refine va_get (D := D) hx hb hts inlX7 hown hK hP 9 (jc_9 cI cL ad σ37 τ) rfl 3 (by decide) (hts _ kw_3_20) (fun _ h9 => h9) rfl dX7_number_42 ?_
              refine lv_aload_n hx hb dX7_number_45 rfl (lv_at hl 2 rfl) ?_
              refine lv_dup hx hb dX7_number_46 rfl ?_
              refine va_get (D := D) hx hb hts inlX7 hown hK hP 9 (jc_9 cI cL ad σ37 τ) rfl 1 (by decide) (hts _ kw_13_17) (fun _ h9 => h9) rfl dX7_number_47 ?_
              have m58 : σ37 9 1 = x36 := (jsp eσ37)
              refine jtopr m58 ?_
              refine lv_dup_x1 hx hb dX7_number_50 rfl rfl ?_
              refine lv_iconst (v := 1) hx hb dX7_number_51 (by decide) ?_
              refine lv_iadd hx hb dX7_number_52 ?_
              refine lv_topi (fun x59 ex59 => ?_)
              have tx59 : x59.toInt = (σ 9 1).toInt + 2 := (jadd ex59 tx36 jz_1 (by omega) (by omega)).trans (by omega)
              refine jput (ty := .int) hx hb hts inlX7 tyX7 tyX7_ok nmX7 hown hK hP hJ hA hS (jc_9 cI cL ad σ37 τ) rfl (k := 1) (by decide) (Nat.le_of_ble_eq_true rfl) (jp_9_1 cI cL ad σ37 τ x59) (hts _ kw_13_17) (fun _ h9 => h9) rfl (by decide +kernel) rfl rfl dX7_number_53 (fun σ60 H locs eσ60 hP hS => ?_)
              refine jald hx hb hK hP (jc_10 cI cL ad σ60 τ) (jin tx36 (by omega) (by omega)) dX7_number_56 ?_
              refine jtopr (y := (σ 10 x36.toNatClampNeg)) (by rw [jnp 10 eσ60 (by decide), jnp 10 eσ37 (by decide)]) ?_
              have g61 := jrg (rfl : (σ 10 x36.toNatClampNeg).toInt = (σ 10 x36.toNatClampNeg).toInt)
              refine lv_iadd hx hb dX7_number_57 ?_
              refine lv_topi (fun x62 ex62 => ?_)
              have tx62 : x62.toInt = 10 * (σ 10 (σ 9 1).toNatClampNeg).toInt + (σ 10 x36.toNatClampNeg).toInt - 480 := (jadd ex62 tx57 rfl (by omega) (by omega)).trans (by omega)
              refine lv_bipush (v := 48) hx hb dX7_number_58 (by decide) ?_
              refine lv_isub hx hb dX7_number_60 ?_
              refine lv_topi (fun x63 ex63 => ?_)
              have tx63 : x63.toInt = 10 * (σ 10 (σ 9 1).toNatClampNeg).toInt + (σ 10 x36.toNatClampNeg).toInt - 528 := (jsub ex63 tx62 jz_48 (by omega) (by omega)).trans (by omega)
              refine lv_istore_n (lv' := [(2, .int x63), (3, .int 1), (0, .ref (ad 9)), (1, .int 3)]) hx hb dX7_number_61 rfl hl (by decide) rfl (fun ls hl => ?_)
              refine lv_iinc (v := 2) (lv' := [(3, .int 2), (2, .int x63), (0, .ref (ad 9)), (1, .int 3)]) hx hb dX7_number_62 hl (k := 1) rfl (by decide) (by decide) rfl (fun ls hl => ?_)
              refine lv_goto (tgt := 22) hx hb dX7_number_65 (by decide) ?_
              refine lv_iload_n hx hb dX7_number_22 rfl (lv_at hl 0 rfl) ?_
              refine lv_iload_n hx hb dX7_number_23 rfl (lv_at hl 3 rfl) ?_
              refine lv_icmp_ge (tgt := 68) hx hb dX7_number_24 (by decide) (fun c => absurd c (by decide)) (fun _ => ?_)
              refine lv_aload_n hx hb dX7_number_27 rfl (lv_at hl 2 rfl) ?_
              have I64 : jI9 σ60 := jI9_fr (jkp 0 eσ60 (by decide)) (jnp 10 eσ60 (by decide)) (jnp 11 eσ60 (by decide)) I40
              have z65 : (σ60 9 1).toInt = (σ 9 1).toInt + 2 := ((congrArg Int32.toInt (show σ60 9 1 = x59 from (jsp eσ60))).trans tx59)
              have z66 : (σ60 9 0).toInt = (σ 9 0).toInt := (congrArg Int32.toInt (show σ60 9 0 = (σ 9 0) from ((jkp 0 eσ60 (by decide)).trans (jkp 0 eσ37 (by decide)))))
              refine jcallV (As := []) (rest := []) ⟨hx, hb, hml, hown, hts⟩ hK hP hA hS hZ (c_X7_sign_9 l D cI cL ad zz hJ σ60 τ I64) cw_RX7_35 (jc_9 cI cL ad σ60 τ) rfl ⟨Nat.le_of_ble_eq_true rfl, Nat.le_of_ble_eq_true rfl⟩ rfl rfl rfl hl.1 rfl (Nat.le_of_ble_eq_true rfl) dX7_number_28 ⟨Nat.zero_le _, Nat.zero_le _⟩ (fun r68 σ67 τ67 H locs h67 hP hS => ?_)
              obtain ⟨⟨rfl, rfl⟩, h67⟩ := h67
              rcases h67 with h69 | h70
              · obtain ⟨q73, k71, k72⟩ := h69
                have q74 : r68 = (σ 10 x59.toNatClampNeg) := q73.trans (by rw [(show σ60 9 1 = x59 from (jsp eσ60)), jnp 10 eσ60 (by decide), jnp 10 eσ37 (by decide)])
                have q74e : (σ60 10 (σ60 9 1).toNatClampNeg).toInt = (σ 10 x59.toNatClampNeg).toInt := by rw [← q73, ← q74]
                have q74 := q74.symm
                subst q74
                refine jcallS (As := [.int (σ 10 x59.toNatClampNeg)]) (rest := []) ⟨hx, hb, hml, hown, hts⟩ hK hP hA hS hZ (c_X7_isDigit l D cI cL ad zz hJ σ60 τ (σ 10 x59.toNatClampNeg) ((σ 10 x59.toNatClampNeg).toInt) rfl) cw_RX7_39 ⟨Nat.le_of_ble_eq_true rfl, Nat.le_of_ble_eq_true rfl⟩ rfl rfl rfl hl.1 rfl (Nat.le_of_ble_eq_true rfl) dX7_number_31 ⟨Nat.zero_le _, Nat.zero_le _⟩ (fun r76 σ75 τ75 H locs h75 hP hS => ?_)
                obtain ⟨⟨rfl, rfl⟩, h75⟩ := h75
                rcases h75 with h77 | h78
                · obtain ⟨q80, k79⟩ := h77
                  have q80 := q80.symm
                  subst q80
                  refine lv_if_eq (tgt := 68) hx hb dX7_number_34 (by decide) (fun c => absurd c (by decide)) (fun _ => ?_)
                  refine lv_iload_n hx hb dX7_number_37 rfl (lv_at hl 1 rfl) ?_
                  refine lv_bipush (v := 10) hx hb dX7_number_38 (by decide) ?_
                  refine lv_imul hx hb dX7_number_40 ?_
                  refine lv_topi (fun x81 ex81 => ?_)
                  have tx81 : x81.toInt = 100 * (σ 10 (σ 9 1).toNatClampNeg).toInt + 10 * (σ 10 x36.toNatClampNeg).toInt - 5280 := (jmul ex81 tx63 jz_10 (by omega) (by omega)).trans (by omega)
                  refine lv_aload_n hx hb dX7_number_41 rfl (lv_at hl 2 rfl) ?_
                  refine va_get (D := D) hx hb hts inlX7 hown hK hP 9 (jc_9 cI cL ad σ60 τ) rfl 3 (by decide) (hts _ kw_3_20) (fun _ h9 => h9) rfl dX7_number_42 ?_
                  refine lv_aload_n hx hb dX7_number_45 rfl (lv_at hl 2 rfl) ?_
                  refine lv_dup hx hb dX7_number_46 rfl ?_
                  refine va_get (D := D) hx hb hts inlX7 hown hK hP 9 (jc_9 cI cL ad σ60 τ) rfl 1 (by decide) (hts _ kw_13_17) (fun _ h9 => h9) rfl dX7_number_47 ?_
                  have m82 : σ60 9 1 = x59 := (jsp eσ60)
                  refine jtopr m82 ?_
                  refine lv_dup_x1 hx hb dX7_number_50 rfl rfl ?_
                  refine lv_iconst (v := 1) hx hb dX7_number_51 (by decide) ?_
                  refine lv_iadd hx hb dX7_number_52 ?_
                  refine lv_topi (fun x83 ex83 => ?_)
                  have tx83 : x83.toInt = (σ 9 1).toInt + 3 := (jadd ex83 tx59 jz_1 (by omega) (by omega)).trans (by omega)
                  refine jput (ty := .int) hx hb hts inlX7 tyX7 tyX7_ok nmX7 hown hK hP hJ hA hS (jc_9 cI cL ad σ60 τ) rfl (k := 1) (by decide) (Nat.le_of_ble_eq_true rfl) (jp_9_1 cI cL ad σ60 τ x83) (hts _ kw_13_17) (fun _ h9 => h9) rfl (by decide +kernel) rfl rfl dX7_number_53 (fun σ84 H locs eσ84 hP hS => ?_)
                  refine jald hx hb hK hP (jc_10 cI cL ad σ84 τ) (jin tx59 (by omega) (by omega)) dX7_number_56 ?_
                  refine jtopr (y := (σ 10 x59.toNatClampNeg)) (by rw [jnp 10 eσ84 (by decide), jnp 10 eσ60 (by decide), jnp 10 eσ37 (by decide)]) ?_
                  have g85 := jrg (rfl : (σ 10 x59.toNatClampNeg).toInt = (σ 10 x59.toNatClampNeg).toInt)
                  refine lv_iadd hx hb dX7_number_57 ?_
                  refine lv_topi (fun x86 ex86 => ?_)
                  have tx86 : x86.toInt = 100 * (σ 10 (σ 9 1).toNatClampNeg).toInt + 10 * (σ 10 x36.toNatClampNeg).toInt + (σ 10 x59.toNatClampNeg).toInt - 5280 := (jadd ex86 tx81 rfl (by omega) (by omega)).trans (by omega)
                  refine lv_bipush (v := 48) hx hb dX7_number_58 (by decide) ?_
                  refine lv_isub hx hb dX7_number_60 ?_
                  refine lv_topi (fun x87 ex87 => ?_)
                  have tx87 : x87.toInt = 100 * (σ 10 (σ 9 1).toNatClampNeg).toInt + 10 * (σ 10 x36.toNatClampNeg).toInt + (σ 10 x59.toNatClampNeg).toInt - 5328 := (jsub ex87 tx86 jz_48 (by omega) (by omega)).trans (by omega)
                  refine lv_istore_n (lv' := [(2, .int x87), (3, .int 2), (0, .ref (ad 9)), (1, .int 3)]) hx hb dX7_number_61 rfl hl (by decide) rfl (fun ls hl => ?_)
                  refine lv_iinc (v := 3) (lv' := [(3, .int 3), (2, .int x87), (0, .ref (ad 9)), (1, .int 3)]) hx hb dX7_number_62 hl (k := 1) rfl (by decide) (by decide) rfl (fun ls hl => ?_)
                  refine lv_goto (tgt := 22) hx hb dX7_number_65 (by decide) ?_
                  refine lv_iload_n hx hb dX7_number_22 rfl (lv_at hl 0 rfl) ?_
                  refine lv_iload_n hx hb dX7_number_23 rfl (lv_at hl 3 rfl) ?_
                  refine lv_icmp_ge (tgt := 68) hx hb dX7_number_24 (by decide) (fun _ => ?_) (fun c => absurd (by decide) c)
                  refine lv_iload_n hx hb dX7_number_68 rfl (lv_at hl 1 rfl) ?_
                  have I88 : jI9 σ84 := jI9_fr (jkp 0 eσ84 (by decide)) (jnp 10 eσ84 (by decide)) (jnp 11 eσ84 (by decide)) I64
                  have z89 : (σ84 9 1).toInt = (σ 9 1).toInt + 3 := ((congrArg Int32.toInt (show σ84 9 1 = x83 from (jsp eσ84))).trans tx83)
                  have z90 : (σ84 9 0).toInt = (σ 9 0).toInt := (congrArg Int32.toInt (show σ84 9 0 = (σ 9 0) from ((jkp 0 eσ84 (by decide)).trans ((jkp 0 eσ60 (by decide)).trans (jkp 0 eσ37 (by decide))))))
                  have I91 : jI91 σ84 := ⟨(by omega), (by omega)⟩
                  have I92 : jI92 σ84 := jI92_fr ((jkp 2 eσ84 (by decide)).trans ((jkp 2 eσ60 (by decide)).trans (jkp 2 eσ37 (by decide)))) hI92
                  have z93 : (σ84 9 2).toInt = (σ 9 2).toInt := (congrArg Int32.toInt (show σ84 9 2 = (σ 9 2) from ((jkp 2 eσ84 (by decide)).trans ((jkp 2 eσ60 (by decide)).trans (jkp 2 eσ37 (by decide))))))
                  exact hret x87 σ84 τ _ _ _ _ rfl ⟨rfl, (fun i hi => ((jnp i eσ84 (imp_37 i hi)).trans ((jnp i eσ60 (imp_37 i hi)).trans (jnp i eσ37 (imp_37 i hi))))), (fun i hi => ((jkp i eσ84 (imp_39 i hi)).trans ((jkp i eσ60 (imp_39 i hi)).trans (jkp i eσ37 (imp_39 i hi))))), I88, I91, I92, (by omega), ⟨trivial, (by have h9 := tx87; omega)⟩⟩ hP hS dX7_number_69
                · obtain ⟨q95, k94⟩ := h78
                  have q95 := q95.symm
                  subst q95
                  refine lv_if_eq (tgt := 68) hx hb dX7_number_34 (by decide) (fun _ => ?_) (fun c => absurd (by decide) c)
                  refine lv_iload_n hx hb dX7_number_68 rfl (lv_at hl 1 rfl) ?_
                  have I96 : jI91 σ60 := ⟨(by omega), (by omega)⟩
                  have I97 : jI92 σ60 := jI92_fr ((jkp 2 eσ60 (by decide)).trans (jkp 2 eσ37 (by decide))) hI92
                  have z98 : (σ60 9 2).toInt = (σ 9 2).toInt := (congrArg Int32.toInt (show σ60 9 2 = (σ 9 2) from ((jkp 2 eσ60 (by decide)).trans (jkp 2 eσ37 (by decide)))))
                  exact hret x63 σ60 τ _ _ _ _ rfl ⟨rfl, (fun i hi => ((jnp i eσ60 (imp_37 i hi)).trans (jnp i eσ37 (imp_37 i hi)))), (fun i hi => ((jkp i eσ60 (imp_39 i hi)).trans (jkp i eσ37 (imp_39 i hi)))), I64, I96, I97, (by omega), ⟨trivial, (by have h9 := tx63; omega)⟩⟩ hP hS dX7_number_69
              · obtain ⟨q100, k99⟩ := h70
                have q100 := q100.symm
                subst q100
                refine jcallS (As := [.int (-1)]) (rest := []) ⟨hx, hb, hml, hown, hts⟩ hK hP hA hS hZ (c_X7_isDigit l D cI cL ad zz hJ σ60 τ (-1) ((-1)) jz_m1) cw_RX7_39 ⟨Nat.le_of_ble_eq_true rfl, Nat.le_of_ble_eq_true rfl⟩ rfl rfl rfl hl.1 rfl (Nat.le_of_ble_eq_true rfl) dX7_number_31 ⟨Nat.zero_le _, Nat.zero_le _⟩ (fun r102 σ101 τ101 H locs h101 hP hS => ?_)
                obtain ⟨⟨rfl, rfl⟩, h101⟩ := h101
                rcases h101 with h103 | h104
                · obtain ⟨q106, k105⟩ := h103
                  exact absurd (by omega : False) id
                · obtain ⟨q108, k107⟩ := h104
                  have q108 := q108.symm
                  subst q108
                  refine lv_if_eq (tgt := 68) hx hb dX7_number_34 (by decide) (fun _ => ?_) (fun c => absurd (by decide) c)
                  refine lv_iload_n hx hb dX7_number_68 rfl (lv_at hl 1 rfl) ?_
                  have I109 : jI91 σ60 := ⟨(by omega), (by omega)⟩
                  have I110 : jI92 σ60 := jI92_fr ((jkp 2 eσ60 (by decide)).trans (jkp 2 eσ37 (by decide))) hI92
                  have z111 : (σ60 9 2).toInt = (σ 9 2).toInt := (congrArg Int32.toInt (show σ60 9 2 = (σ 9 2) from ((jkp 2 eσ60 (by decide)).trans (jkp 2 eσ37 (by decide)))))
                  exact hret x63 σ60 τ _ _ _ _ rfl ⟨rfl, (fun i hi => ((jnp i eσ60 (imp_37 i hi)).trans (jnp i eσ37 (imp_37 i hi)))), (fun i hi => ((jkp i eσ60 (imp_39 i hi)).trans (jkp i eσ37 (imp_39 i hi)))), I64, I109, I110, (by omega), ⟨trivial, (by have h9 := tx63; omega)⟩⟩ hP hS dX7_number_69
            · obtain ⟨q113, k112⟩ := h54
              have q113 := q113.symm
              subst q113
              refine lv_if_eq (tgt := 68) hx hb dX7_number_34 (by decide) (fun _ => ?_) (fun c => absurd (by decide) c)
              refine lv_iload_n hx hb dX7_number_68 rfl (lv_at hl 1 rfl) ?_
              have I114 : jI91 σ37 := ⟨(by omega), (by omega)⟩
              have I115 : jI92 σ37 := jI92_fr (jkp 2 eσ37 (by decide)) hI92
              have z116 : (σ37 9 2).toInt = (σ 9 2).toInt := (congrArg Int32.toInt (show σ37 9 2 = (σ 9 2) from (jkp 2 eσ37 (by decide))))
              exact hret x39 σ37 τ _ _ _ _ rfl ⟨rfl, (fun i hi => (jnp i eσ37 (imp_37 i hi))), (fun i hi => (jkp i eσ37 (imp_39 i hi))), I40, I114, I115, (by omega), ⟨trivial, (by have h9 := tx39; omega)⟩⟩ hP hS dX7_number_69
          · obtain ⟨q118, k117⟩ := h46
            have q118 := q118.symm
            subst q118
            refine jcallS (As := [.int (-1)]) (rest := []) ⟨hx, hb, hml, hown, hts⟩ hK hP hA hS hZ (c_X7_isDigit l D cI cL ad zz hJ σ37 τ (-1) ((-1)) jz_m1) cw_RX7_39 ⟨Nat.le_of_ble_eq_true rfl, Nat.le_of_ble_eq_true rfl⟩ rfl rfl rfl hl.1 rfl (Nat.le_of_ble_eq_true rfl) dX7_number_31 ⟨Nat.zero_le _, Nat.zero_le _⟩ (fun r120 σ119 τ119 H locs h119 hP hS => ?_)
            obtain ⟨⟨rfl, rfl⟩, h119⟩ := h119
            rcases h119 with h121 | h122
            · obtain ⟨q124, k123⟩ := h121
              exact absurd (by omega : False) id
            · obtain ⟨q126, k125⟩ := h122
              have q126 := q126.symm
              subst q126
              refine lv_if_eq (tgt := 68) hx hb dX7_number_34 (by decide) (fun _ => ?_) (fun c => absurd (by decide) c)
              refine lv_iload_n hx hb dX7_number_68 rfl (lv_at hl 1 rfl) ?_
              have I127 : jI91 σ37 := ⟨(by omega), (by omega)⟩
              have I128 : jI92 σ37 := jI92_fr (jkp 2 eσ37 (by decide)) hI92
              have z129 : (σ37 9 2).toInt = (σ 9 2).toInt := (congrArg Int32.toInt (show σ37 9 2 = (σ 9 2) from (jkp 2 eσ37 (by decide))))
              exact hret x39 σ37 τ _ _ _ _ rfl ⟨rfl, (fun i hi => (jnp i eσ37 (imp_37 i hi))), (fun i hi => (jkp i eσ37 (imp_39 i hi))), I40, I127, I128, (by omega), ⟨trivial, (by have h9 := tx39; omega)⟩⟩ hP hS dX7_number_69
        · obtain ⟨q131, k130⟩ := h32
          exact absurd (by omega : False) id
      · obtain ⟨q133, k132⟩ := h24
        exact absurd (by omega : False) id
    · obtain ⟨q135, k134⟩ := h18
      have q135 := q135.symm
      subst q135
      refine lv_if_ne (tgt := 18) hx hb dX7_number_7 (by decide) (fun c => absurd (by decide) c) (fun _ => ?_)
      refine lv_aload_n hx hb dX7_number_10 rfl (lv_at hl 0 rfl) ?_
      refine lv_aload_n hx hb dX7_number_11 rfl (lv_at hl 0 rfl) ?_
      refine va_get (D := D) hx hb hts inlX7 hown hK hP 9 (jc_9 cI cL ad σ τ) rfl 1 (by decide) (hts _ kw_13_17) (fun _ h9 => h9) rfl dX7_number_12 ?_
      refine jcallVv (As := [.int (σ 9 1)]) (rest := []) ⟨hx, hb, hml, hown, hts⟩ hK hP hA hS hZ (c_X7_fail_9 l D cI cL ad zz hJ σ τ (σ 9 1) ((σ 9 1).toInt) rfl hI92 (by omega)) cw_RX7_43 (jc_9 cI cL ad σ τ) rfl ⟨Nat.le_of_ble_eq_true rfl, Nat.le_of_ble_eq_true rfl⟩ rfl rfl rfl hl.1 rfl (Nat.le_of_ble_eq_true rfl) dX7_number_15 ⟨Nat.zero_le _, Nat.zero_le _⟩ (fun σ136 τ136 H locs h136 hP hS => ?_)
      obtain ⟨rfl, f138, f139, h136⟩ := h136
      obtain ⟨k140, h136⟩ := h136
      refine lv_iconst (v := 0) hx hb dX7_number_18 (by decide) ?_
      refine lv_istore_n (lv' := [(2, .int 0), (0, .ref (ad 9)), (1, .int 3)]) hx hb dX7_number_19 rfl hl (by decide) rfl (fun ls hl => ?_)
      refine lv_iconst (v := 0) hx hb dX7_number_20 (by decide) ?_
      refine lv_istore_n (lv' := [(3, .int 0), (2, .int 0), (0, .ref (ad 9)), (1, .int 3)]) hx hb dX7_number_21 rfl hl (by decide) rfl (fun ls hl => ?_)
      refine lv_iload_n hx hb dX7_number_22 rfl (lv_at hl 0 rfl) ?_
      refine lv_iload_n hx hb dX7_number_23 rfl (lv_at hl 3 rfl) ?_
      refine lv_icmp_ge (tgt := 68) hx hb dX7_number_24 (by decide) (fun c => absurd c (by decide)) (fun _ => ?_)
      refine lv_aload_n hx hb dX7_number_27 rfl (lv_at hl 2 rfl) ?_
      have I141 : jI9 σ136 := jI9_fr (f139 0 (by decide)) (f138 10 (by decide)) (f138 11 (by decide)) hI9
      have z142 : (σ136 9 1).toInt = (σ 9 1).toInt := (congrArg Int32.toInt (show σ136 9 1 = (σ 9 1) from (f139 1 (by decide))))
      have z143 : (σ136 9 0).toInt = (σ 9 0).toInt := (congrArg Int32.toInt (show σ136 9 0 = (σ 9 0) from (f139 0 (by decide))))
      refine jcallV (As := []) (rest := []) ⟨hx, hb, hml, hown, hts⟩ hK hP hA hS hZ (c_X7_sign_9 l D cI cL ad zz hJ σ136 τ I141) cw_RX7_35 (jc_9 cI cL ad σ136 τ) rfl ⟨Nat.le_of_ble_eq_true rfl, Nat.le_of_ble_eq_true rfl⟩ rfl rfl rfl hl.1 rfl (Nat.le_of_ble_eq_true rfl) dX7_number_28 ⟨Nat.zero_le _, Nat.zero_le _⟩ (fun r145 σ144 τ144 H locs h144 hP hS => ?_)
      obtain ⟨⟨rfl, rfl⟩, h144⟩ := h144
      rcases h144 with h146 | h147
      · obtain ⟨q150, k148, k149⟩ := h146
        have q151 : r145 = (σ 10 (σ 9 1).toNatClampNeg) := q150.trans (by rw [(show σ136 9 1 = (σ 9 1) from (f139 1 (by decide))), f138 10 (by decide)])
        have q151e : (σ136 10 (σ136 9 1).toNatClampNeg).toInt = (σ 10 (σ 9 1).toNatClampNeg).toInt := by rw [← q150, ← q151]
        have q151 := q151.symm
        subst q151
        refine jcallS (As := [.int (σ 10 (σ 9 1).toNatClampNeg)]) (rest := []) ⟨hx, hb, hml, hown, hts⟩ hK hP hA hS hZ (c_X7_isDigit l D cI cL ad zz hJ σ136 τ (σ 10 (σ 9 1).toNatClampNeg) ((σ 10 (σ 9 1).toNatClampNeg).toInt) rfl) cw_RX7_39 ⟨Nat.le_of_ble_eq_true rfl, Nat.le_of_ble_eq_true rfl⟩ rfl rfl rfl hl.1 rfl (Nat.le_of_ble_eq_true rfl) dX7_number_31 ⟨Nat.zero_le _, Nat.zero_le _⟩ (fun r153 σ152 τ152 H locs h152 hP hS => ?_)
        obtain ⟨⟨rfl, rfl⟩, h152⟩ := h152
        rcases h152 with h154 | h155
        · obtain ⟨q157, k156⟩ := h154
          exact absurd (by omega : False) id
        · obtain ⟨q159, k158⟩ := h155
          have q159 := q159.symm
          subst q159
          refine lv_if_eq (tgt := 68) hx hb dX7_number_34 (by decide) (fun _ => ?_) (fun c => absurd (by decide) c)
          refine lv_iload_n hx hb dX7_number_68 rfl (lv_at hl 1 rfl) ?_
          have I160 : jI91 σ136 := jI91_fr (f139 0 (by decide)) (f139 1 (by decide)) hI91
          have I161 : jI92 σ136 := (show (-1) ≤ (σ136 9 2).toInt by omega)
          exact hret 0 σ136 τ _ _ _ _ rfl ⟨rfl, (fun i hi => (f138 i hi)), (fun i hi => (f139 i (imp_43 i hi))), I141, I160, I161, (by omega), ⟨trivial, (by have h9 := jz_0; omega)⟩⟩ hP hS dX7_number_69
      · obtain ⟨q163, k162⟩ := h147
        have q163 := q163.symm
        subst q163
        refine jcallS (As := [.int (-1)]) (rest := []) ⟨hx, hb, hml, hown, hts⟩ hK hP hA hS hZ (c_X7_isDigit l D cI cL ad zz hJ σ136 τ (-1) ((-1)) jz_m1) cw_RX7_39 ⟨Nat.le_of_ble_eq_true rfl, Nat.le_of_ble_eq_true rfl⟩ rfl rfl rfl hl.1 rfl (Nat.le_of_ble_eq_true rfl) dX7_number_31 ⟨Nat.zero_le _, Nat.zero_le _⟩ (fun r165 σ164 τ164 H locs h164 hP hS => ?_)
        obtain ⟨⟨rfl, rfl⟩, h164⟩ := h164
        rcases h164 with h166 | h167
        · obtain ⟨q169, k168⟩ := h166
          exact absurd (by omega : False) id
        · obtain ⟨q171, k170⟩ := h167
          have q171 := q171.symm
          subst q171
          refine lv_if_eq (tgt := 68) hx hb dX7_number_34 (by decide) (fun _ => ?_) (fun c => absurd (by decide) c)
          refine lv_iload_n hx hb dX7_number_68 rfl (lv_at hl 1 rfl) ?_
          have I172 : jI91 σ136 := jI91_fr (f139 0 (by decide)) (f139 1 (by decide)) hI91
          have I173 : jI92 σ136 := (show (-1) ≤ (σ136 9 2).toInt by omega)
          exact hret 0 σ136 τ _ _ _ _ rfl ⟨rfl, (fun i hi => (f138 i hi)), (fun i hi => (f139 i (imp_43 i hi))), I141, I172, I173, (by omega), ⟨trivial, (by have h9 := jz_0; omega)⟩⟩ hP hS dX7_number_69
  · obtain ⟨q175, k174⟩ := h10
    have q175 := q175.symm
    subst q175
    refine jcallS (As := [.int (-1)]) (rest := []) ⟨hx, hb, hml, hown, hts⟩ hK hP hA hS hZ (c_X7_isDigit l D cI cL ad zz hJ σ τ (-1) ((-1)) jz_m1) cw_RX7_39 ⟨Nat.le_of_ble_eq_true rfl, Nat.le_of_ble_eq_true rfl⟩ rfl rfl rfl hl.1 rfl (Nat.le_of_ble_eq_true rfl) dX7_number_4 ⟨Nat.zero_le _, Nat.zero_le _⟩ (fun r177 σ176 τ176 H locs h176 hP hS => ?_)
    obtain ⟨⟨rfl, rfl⟩, h176⟩ := h176
    rcases h176 with h178 | h179
    · obtain ⟨q181, k180⟩ := h178
      exact absurd (by omega : False) id
    · obtain ⟨q183, k182⟩ := h179
      have q183 := q183.symm
      subst q183
      refine lv_if_ne (tgt := 18) hx hb dX7_number_7 (by decide) (fun c => absurd (by decide) c) (fun _ => ?_)
      refine lv_aload_n hx hb dX7_number_10 rfl (lv_at hl 0 rfl) ?_
      refine lv_aload_n hx hb dX7_number_11 rfl (lv_at hl 0 rfl) ?_
      refine va_get (D := D) hx hb hts inlX7 hown hK hP 9 (jc_9 cI cL ad σ τ) rfl 1 (by decide) (hts _ kw_13_17) (fun _ h9 => h9) rfl dX7_number_12 ?_
      refine jcallVv (As := [.int (σ 9 1)]) (rest := []) ⟨hx, hb, hml, hown, hts⟩ hK hP hA hS hZ (c_X7_fail_9 l D cI cL ad zz hJ σ τ (σ 9 1) ((σ 9 1).toInt) rfl hI92 (by omega)) cw_RX7_43 (jc_9 cI cL ad σ τ) rfl ⟨Nat.le_of_ble_eq_true rfl, Nat.le_of_ble_eq_true rfl⟩ rfl rfl rfl hl.1 rfl (Nat.le_of_ble_eq_true rfl) dX7_number_15 ⟨Nat.zero_le _, Nat.zero_le _⟩ (fun σ184 τ184 H locs h184 hP hS => ?_)
      obtain ⟨rfl, f186, f187, h184⟩ := h184
      obtain ⟨k188, h184⟩ := h184
      refine lv_iconst (v := 0) hx hb dX7_number_18 (by decide) ?_
      refine lv_istore_n (lv' := [(2, .int 0), (0, .ref (ad 9)), (1, .int 3)]) hx hb dX7_number_19 rfl hl (by decide) rfl (fun ls hl => ?_)
      refine lv_iconst (v := 0) hx hb dX7_number_20 (by decide) ?_
      refine lv_istore_n (lv' := [(3, .int 0), (2, .int 0), (0, .ref (ad 9)), (1, .int 3)]) hx hb dX7_number_21 rfl hl (by decide) rfl (fun ls hl => ?_)
      refine lv_iload_n hx hb dX7_number_22 rfl (lv_at hl 0 rfl) ?_
      refine lv_iload_n hx hb dX7_number_23 rfl (lv_at hl 3 rfl) ?_
      refine lv_icmp_ge (tgt := 68) hx hb dX7_number_24 (by decide) (fun c => absurd c (by decide)) (fun _ => ?_)
      refine lv_aload_n hx hb dX7_number_27 rfl (lv_at hl 2 rfl) ?_
      have I189 : jI9 σ184 := jI9_fr (f187 0 (by decide)) (f186 10 (by decide)) (f186 11 (by decide)) hI9
      have z190 : (σ184 9 1).toInt = (σ 9 1).toInt := (congrArg Int32.toInt (show σ184 9 1 = (σ 9 1) from (f187 1 (by decide))))
      have z191 : (σ184 9 0).toInt = (σ 9 0).toInt := (congrArg Int32.toInt (show σ184 9 0 = (σ 9 0) from (f187 0 (by decide))))
      refine jcallV (As := []) (rest := []) ⟨hx, hb, hml, hown, hts⟩ hK hP hA hS hZ (c_X7_sign_9 l D cI cL ad zz hJ σ184 τ I189) cw_RX7_35 (jc_9 cI cL ad σ184 τ) rfl ⟨Nat.le_of_ble_eq_true rfl, Nat.le_of_ble_eq_true rfl⟩ rfl rfl rfl hl.1 rfl (Nat.le_of_ble_eq_true rfl) dX7_number_28 ⟨Nat.zero_le _, Nat.zero_le _⟩ (fun r193 σ192 τ192 H locs h192 hP hS => ?_)
      obtain ⟨⟨rfl, rfl⟩, h192⟩ := h192
      rcases h192 with h194 | h195
      · obtain ⟨q198, k196, k197⟩ := h194
        have q199 : r193 = (σ 10 (σ 9 1).toNatClampNeg) := q198.trans (by rw [(show σ184 9 1 = (σ 9 1) from (f187 1 (by decide))), f186 10 (by decide)])
        have q199e : (σ184 10 (σ184 9 1).toNatClampNeg).toInt = (σ 10 (σ 9 1).toNatClampNeg).toInt := by rw [← q198, ← q199]
        have q199 := q199.symm
        subst q199
        refine jcallS (As := [.int (σ 10 (σ 9 1).toNatClampNeg)]) (rest := []) ⟨hx, hb, hml, hown, hts⟩ hK hP hA hS hZ (c_X7_isDigit l D cI cL ad zz hJ σ184 τ (σ 10 (σ 9 1).toNatClampNeg) ((σ 10 (σ 9 1).toNatClampNeg).toInt) rfl) cw_RX7_39 ⟨Nat.le_of_ble_eq_true rfl, Nat.le_of_ble_eq_true rfl⟩ rfl rfl rfl hl.1 rfl (Nat.le_of_ble_eq_true rfl) dX7_number_31 ⟨Nat.zero_le _, Nat.zero_le _⟩ (fun r201 σ200 τ200 H locs h200 hP hS => ?_)
        obtain ⟨⟨rfl, rfl⟩, h200⟩ := h200
        rcases h200 with h202 | h203
        · obtain ⟨q205, k204⟩ := h202
          have q205 := q205.symm
          subst q205
          refine lv_if_eq (tgt := 68) hx hb dX7_number_34 (by decide) (fun c => absurd c (by decide)) (fun _ => ?_)
          refine lv_iload_n hx hb dX7_number_37 rfl (lv_at hl 1 rfl) ?_
          refine lv_bipush (v := 10) hx hb dX7_number_38 (by decide) ?_
          refine lv_imul hx hb dX7_number_40 ?_
          refine jtopr (y := 0) (by decide) ?_
          refine lv_aload_n hx hb dX7_number_41 rfl (lv_at hl 2 rfl) ?_
          refine va_get (D := D) hx hb hts inlX7 hown hK hP 9 (jc_9 cI cL ad σ184 τ) rfl 3 (by decide) (hts _ kw_3_20) (fun _ h9 => h9) rfl dX7_number_42 ?_
          refine lv_aload_n hx hb dX7_number_45 rfl (lv_at hl 2 rfl) ?_
          refine lv_dup hx hb dX7_number_46 rfl ?_
          refine va_get (D := D) hx hb hts inlX7 hown hK hP 9 (jc_9 cI cL ad σ184 τ) rfl 1 (by decide) (hts _ kw_13_17) (fun _ h9 => h9) rfl dX7_number_47 ?_
          have m206 : σ184 9 1 = (σ 9 1) := (f187 1 (by decide))
          refine jtopr m206 ?_
          refine lv_dup_x1 hx hb dX7_number_50 rfl rfl ?_
          refine lv_iconst (v := 1) hx hb dX7_number_51 (by decide) ?_
          have g207 := jrg (rfl : (σ 9 1).toInt = (σ 9 1).toInt)
          refine lv_iadd hx hb dX7_number_52 ?_
          refine lv_topi (fun x208 ex208 => ?_)
          have tx208 : x208.toInt = (σ 9 1).toInt + 1 := (jadd ex208 rfl jz_1 (by omega) (by omega)).trans (by omega)
          refine jput (ty := .int) hx hb hts inlX7 tyX7 tyX7_ok nmX7 hown hK hP hJ hA hS (jc_9 cI cL ad σ184 τ) rfl (k := 1) (by decide) (Nat.le_of_ble_eq_true rfl) (jp_9_1 cI cL ad σ184 τ x208) (hts _ kw_13_17) (fun _ h9 => h9) rfl (by decide +kernel) rfl rfl dX7_number_53 (fun σ209 H locs eσ209 hP hS => ?_)
          refine jald hx hb hK hP (jc_10 cI cL ad σ209 τ) (jin rfl (by omega) (by omega)) dX7_number_56 ?_
          refine jtopr (y := (σ 10 (σ 9 1).toNatClampNeg)) (by rw [jnp 10 eσ209 (by decide), f186 10 (by decide)]) ?_
          refine lv_iadd hx hb dX7_number_57 ?_
          refine jtopr (y := (σ 10 (σ 9 1).toNatClampNeg)) (by rw [Int32.zero_add]) ?_
          refine lv_bipush (v := 48) hx hb dX7_number_58 (by decide) ?_
          have g210 := jrg (rfl : (σ 10 (σ 9 1).toNatClampNeg).toInt = (σ 10 (σ 9 1).toNatClampNeg).toInt)
          refine lv_isub hx hb dX7_number_60 ?_
          refine lv_topi (fun x211 ex211 => ?_)
          have tx211 : x211.toInt = (σ 10 (σ 9 1).toNatClampNeg).toInt - 48 := (jsub ex211 rfl jz_48 (by omega) (by omega)).trans (by omega)
          refine lv_istore_n (lv' := [(2, .int x211), (3, .int 0), (0, .ref (ad 9)), (1, .int 3)]) hx hb dX7_number_61 rfl hl (by decide) rfl (fun ls hl => ?_)
          refine lv_iinc (v := 1) (lv' := [(3, .int 1), (2, .int x211), (0, .ref (ad 9)), (1, .int 3)]) hx hb dX7_number_62 hl (k := 1) rfl (by decide) (by decide) rfl (fun ls hl => ?_)
          refine lv_goto (tgt := 22) hx hb dX7_number_65 (by decide) ?_
          refine lv_iload_n hx hb dX7_number_22 rfl (lv_at hl 0 rfl) ?_
          refine lv_iload_n hx hb dX7_number_23 rfl (lv_at hl 3 rfl) ?_
          refine lv_icmp_ge (tgt := 68) hx hb dX7_number_24 (by decide) (fun c => absurd c (by decide)) (fun _ => ?_)
          refine lv_aload_n hx hb dX7_number_27 rfl (lv_at hl 2 rfl) ?_
          have I212 : jI9 σ209 := jI9_fr (jkp 0 eσ209 (by decide)) (jnp 10 eσ209 (by decide)) (jnp 11 eσ209 (by decide)) I189
          have z213 : (σ209 9 1).toInt = (σ 9 1).toInt + 1 := ((congrArg Int32.toInt (show σ209 9 1 = x208 from (jsp eσ209))).trans tx208)
          have z214 : (σ209 9 0).toInt = (σ 9 0).toInt := (congrArg Int32.toInt (show σ209 9 0 = (σ 9 0) from ((jkp 0 eσ209 (by decide)).trans (f187 0 (by decide)))))
          refine jcallV (As := []) (rest := []) ⟨hx, hb, hml, hown, hts⟩ hK hP hA hS hZ (c_X7_sign_9 l D cI cL ad zz hJ σ209 τ I212) cw_RX7_35 (jc_9 cI cL ad σ209 τ) rfl ⟨Nat.le_of_ble_eq_true rfl, Nat.le_of_ble_eq_true rfl⟩ rfl rfl rfl hl.1 rfl (Nat.le_of_ble_eq_true rfl) dX7_number_28 ⟨Nat.zero_le _, Nat.zero_le _⟩ (fun r216 σ215 τ215 H locs h215 hP hS => ?_)
          obtain ⟨⟨rfl, rfl⟩, h215⟩ := h215
          rcases h215 with h217 | h218
          · obtain ⟨q221, k219, k220⟩ := h217
            exact absurd (by omega : False) id
          · obtain ⟨q223, k222⟩ := h218
            have q223 := q223.symm
            subst q223
            refine jcallS (As := [.int (-1)]) (rest := []) ⟨hx, hb, hml, hown, hts⟩ hK hP hA hS hZ (c_X7_isDigit l D cI cL ad zz hJ σ209 τ (-1) ((-1)) jz_m1) cw_RX7_39 ⟨Nat.le_of_ble_eq_true rfl, Nat.le_of_ble_eq_true rfl⟩ rfl rfl rfl hl.1 rfl (Nat.le_of_ble_eq_true rfl) dX7_number_31 ⟨Nat.zero_le _, Nat.zero_le _⟩ (fun r225 σ224 τ224 H locs h224 hP hS => ?_)
            obtain ⟨⟨rfl, rfl⟩, h224⟩ := h224
            rcases h224 with h226 | h227
            · obtain ⟨q229, k228⟩ := h226
              exact absurd (by omega : False) id
            · obtain ⟨q231, k230⟩ := h227
              have q231 := q231.symm
              subst q231
              refine lv_if_eq (tgt := 68) hx hb dX7_number_34 (by decide) (fun _ => ?_) (fun c => absurd (by decide) c)
              refine lv_iload_n hx hb dX7_number_68 rfl (lv_at hl 1 rfl) ?_
              have I232 : jI91 σ209 := ⟨(by omega), (by omega)⟩
              have z233 : (σ209 9 2).toInt = (σ184 9 2).toInt := (congrArg Int32.toInt (show σ209 9 2 = (σ184 9 2) from (jkp 2 eσ209 (by decide))))
              have I234 : jI92 σ209 := (show (-1) ≤ (σ209 9 2).toInt by omega)
              exact hret x211 σ209 τ _ _ _ _ rfl ⟨rfl, (fun i hi => ((jnp i eσ209 (imp_37 i hi)).trans (f186 i hi))), (fun i hi => ((jkp i eσ209 (imp_39 i hi)).trans (f187 i (imp_43 i hi)))), I212, I232, I234, (by omega), ⟨trivial, (by have h9 := tx211; omega)⟩⟩ hP hS dX7_number_69
        · obtain ⟨q236, k235⟩ := h203
          have q236 := q236.symm
          subst q236
          refine lv_if_eq (tgt := 68) hx hb dX7_number_34 (by decide) (fun _ => ?_) (fun c => absurd (by decide) c)
          refine lv_iload_n hx hb dX7_number_68 rfl (lv_at hl 1 rfl) ?_
          have I237 : jI91 σ184 := jI91_fr (f187 0 (by decide)) (f187 1 (by decide)) hI91
          have I238 : jI92 σ184 := (show (-1) ≤ (σ184 9 2).toInt by omega)
          exact hret 0 σ184 τ _ _ _ _ rfl ⟨rfl, (fun i hi => (f186 i hi)), (fun i hi => (f187 i (imp_43 i hi))), I189, I237, I238, (by omega), ⟨trivial, (by have h9 := jz_0; omega)⟩⟩ hP hS dX7_number_69
      · obtain ⟨q240, k239⟩ := h195
        have q240 := q240.symm
        subst q240
        refine jcallS (As := [.int (-1)]) (rest := []) ⟨hx, hb, hml, hown, hts⟩ hK hP hA hS hZ (c_X7_isDigit l D cI cL ad zz hJ σ184 τ (-1) ((-1)) jz_m1) cw_RX7_39 ⟨Nat.le_of_ble_eq_true rfl, Nat.le_of_ble_eq_true rfl⟩ rfl rfl rfl hl.1 rfl (Nat.le_of_ble_eq_true rfl) dX7_number_31 ⟨Nat.zero_le _, Nat.zero_le _⟩ (fun r242 σ241 τ241 H locs h241 hP hS => ?_)
        obtain ⟨⟨rfl, rfl⟩, h241⟩ := h241
        rcases h241 with h243 | h244
        · obtain ⟨q246, k245⟩ := h243
          exact absurd (by omega : False) id
        · obtain ⟨q248, k247⟩ := h244
          have q248 := q248.symm
          subst q248
          refine lv_if_eq (tgt := 68) hx hb dX7_number_34 (by decide) (fun _ => ?_) (fun c => absurd (by decide) c)
          refine lv_iload_n hx hb dX7_number_68 rfl (lv_at hl 1 rfl) ?_
          have I249 : jI91 σ184 := jI91_fr (f187 0 (by decide)) (f187 1 (by decide)) hI91
          have I250 : jI92 σ184 := (show (-1) ≤ (σ184 9 2).toInt by omega)
          exact hret 0 σ184 τ _ _ _ _ rfl ⟨rfl, (fun i hi => (f186 i hi)), (fun i hi => (f187 i (imp_43 i hi))), I189, I249, I250, (by omega), ⟨trivial, (by have h9 := jz_0; omega)⟩⟩ hP hS dX7_number_69
set_option maxHeartbeats 4000000 in
set_option maxRecDepth 100000 in
theorem c_X7_number_4 (l : Launch) (D : va_G) (cI cL : ClassId) (ad zz : Nat → Nat) (hJ : jD ad) (σ : Nat → Nat → Int32) (τ : Nat → Nat → Int64) (hI9 : jI9 σ) (hI91 : jI91 σ) (hI92 : jI92 σ) : jM l yX7_number cX7_number 4 (some .int) ({ frames := 1, cells := 0, slots := 0, locals := 21 }) D cI cL ad zz [.ref (ad 9), .int 4] σ τ (fun r σ' τ' => τ = τ' ∧ (∀ i : Nat, (i < 9 ∨ 9 < i) → σ' i = σ i) ∧ (∀ k : Nat, (k < 1 ∨ 1 < k) ∧ (k < 2 ∨ 2 < k) → σ' 9 k = σ 9 k) ∧ (jI9 σ') ∧ (jI91 σ') ∧ (jI92 σ') ∧ ((0 ≤ (σ 9 2).toInt ∧ 0 ≤ (σ' 9 2).toInt) ∨ ((σ 9 2).toInt = (-1))) ∧ ((True ∧ (0 ≤ r.toInt ∧ r.toInt ≤ 9999)))) := by
  refine jM.of hJ (by decide +kernel) (nt := .int) rfl (Nat.le_of_ble_eq_true rfl) ?_
  intro p e s m args below meth c Q ls hC hret hl hP
  obtain ⟨hx, hb, hr, hml, hown, hts, hK, -, hlocks, hZ⟩ := hC
  have hown : s.vm.findClass RX7 = some m.cls := hown
  have hS : va_S (jA ad) s.heap s.heap [] := va_S.rf
  have hA : ∀ q, jA ad q → jA ad q := fun _ h => h
  have hl : lv_has ls 4 [(0, .ref (ad 9)), (1, .int 4)] := hl
  obtain ⟨i1, w2, w3⟩ : (0 ≤ (σ 9 0).toInt ∧ (σ 9 0).toInt ≤ 80) ∧ (∀ k : Nat, k < 80 → 0 ≤ (σ 10 k).toInt ∧ (σ 10 k).toInt ≤ 255) ∧ (∀ k : Nat, k < 8 → 0 ≤ (σ 11 k).toInt ∧ (σ 11 k).toInt ≤ 3) := id hI9
  obtain ⟨i4, i5⟩ : (0 ≤ (σ 9 1).toInt) ∧ ((σ 9 1).toInt ≤ (σ 9 0).toInt) := id hI91
  have i6 : (-1) ≤ (σ 9 2).toInt := hI92
  refine lv_aload_n hx hb dX7_number_0 rfl (lv_at hl 0 rfl) ?_
  refine jcallV (As := []) (rest := []) ⟨hx, hb, hml, hown, hts⟩ hK hP hA hS hZ (c_X7_sign_9 l D cI cL ad zz hJ σ τ hI9) cw_RX7_35 (jc_9 cI cL ad σ τ) rfl ⟨Nat.le_of_ble_eq_true rfl, Nat.le_of_ble_eq_true rfl⟩ rfl rfl rfl hl.1 rfl (Nat.le_of_ble_eq_true rfl) dX7_number_1 ⟨Nat.zero_le _, Nat.zero_le _⟩ (fun r8 σ7 τ7 H locs h7 hP hS => ?_)
  obtain ⟨⟨rfl, rfl⟩, h7⟩ := h7
  rcases h7 with h9 | h10
  · obtain ⟨q13, k11, k12⟩ := h9
    have q14 : r8 = (σ 10 (σ 9 1).toNatClampNeg) := q13.trans rfl
    have q14 := q14.symm
    subst q14
    refine jcallS (As := [.int (σ 10 (σ 9 1).toNatClampNeg)]) (rest := []) ⟨hx, hb, hml, hown, hts⟩ hK hP hA hS hZ (c_X7_isDigit l D cI cL ad zz hJ σ τ (σ 10 (σ 9 1).toNatClampNeg) ((σ 10 (σ 9 1).toNatClampNeg).toInt) rfl) cw_RX7_39 ⟨Nat.le_of_ble_eq_true rfl, Nat.le_of_ble_eq_true rfl⟩ rfl rfl rfl hl.1 rfl (Nat.le_of_ble_eq_true rfl) dX7_number_4 ⟨Nat.zero_le _, Nat.zero_le _⟩ (fun r16 σ15 τ15 H locs h15 hP hS => ?_)
    obtain ⟨⟨rfl, rfl⟩, h15⟩ := h15
    rcases h15 with h17 | h18
    · obtain ⟨q20, k19⟩ := h17
      have q20 := q20.symm
      subst q20
      refine lv_if_ne (tgt := 18) hx hb dX7_number_7 (by decide) (fun _ => ?_) (fun c => absurd c (by decide))
      refine lv_iconst (v := 0) hx hb dX7_number_18 (by decide) ?_
      refine lv_istore_n (lv' := [(2, .int 0), (0, .ref (ad 9)), (1, .int 4)]) hx hb dX7_number_19 rfl hl (by decide) rfl (fun ls hl => ?_)
      refine lv_iconst (v := 0) hx hb dX7_number_20 (by decide) ?_
      refine lv_istore_n (lv' := [(3, .int 0), (2, .int 0), (0, .ref (ad 9)), (1, .int 4)]) hx hb dX7_number_21 rfl hl (by decide) rfl (fun ls hl => ?_)
      refine lv_iload_n hx hb dX7_number_22 rfl (lv_at hl 0 rfl) ?_
      refine lv_iload_n hx hb dX7_number_23 rfl (lv_at hl 3 rfl) ?_
      refine lv_icmp_ge (tgt := 68) hx hb dX7_number_24 (by decide) (fun c => absurd c (by decide)) (fun _ => ?_)
      refine lv_aload_n hx hb dX7_number_27 rfl (lv_at hl 2 rfl) ?_
      refine jcallV (As := []) (rest := []) ⟨hx, hb, hml, hown, hts⟩ hK hP hA hS hZ (c_X7_sign_9 l D cI cL ad zz hJ σ τ hI9) cw_RX7_35 (jc_9 cI cL ad σ τ) rfl ⟨Nat.le_of_ble_eq_true rfl, Nat.le_of_ble_eq_true rfl⟩ rfl rfl rfl hl.1 rfl (Nat.le_of_ble_eq_true rfl) dX7_number_28 ⟨Nat.zero_le _, Nat.zero_le _⟩ (fun r22 σ21 τ21 H locs h21 hP hS => ?_)
      obtain ⟨⟨rfl, rfl⟩, h21⟩ := h21
      rcases h21 with h23 | h24
      · obtain ⟨q27, k25, k26⟩ := h23
        have q28 : r22 = (σ 10 (σ 9 1).toNatClampNeg) := q27.trans rfl
        have q28 := q28.symm
        subst q28
        refine jcallS (As := [.int (σ 10 (σ 9 1).toNatClampNeg)]) (rest := []) ⟨hx, hb, hml, hown, hts⟩ hK hP hA hS hZ (c_X7_isDigit l D cI cL ad zz hJ σ τ (σ 10 (σ 9 1).toNatClampNeg) ((σ 10 (σ 9 1).toNatClampNeg).toInt) rfl) cw_RX7_39 ⟨Nat.le_of_ble_eq_true rfl, Nat.le_of_ble_eq_true rfl⟩ rfl rfl rfl hl.1 rfl (Nat.le_of_ble_eq_true rfl) dX7_number_31 ⟨Nat.zero_le _, Nat.zero_le _⟩ (fun r30 σ29 τ29 H locs h29 hP hS => ?_)
        obtain ⟨⟨rfl, rfl⟩, h29⟩ := h29
        rcases h29 with h31 | h32
        · obtain ⟨q34, k33⟩ := h31
          have q34 := q34.symm
          subst q34
          refine lv_if_eq (tgt := 68) hx hb dX7_number_34 (by decide) (fun c => absurd c (by decide)) (fun _ => ?_)
          refine lv_iload_n hx hb dX7_number_37 rfl (lv_at hl 1 rfl) ?_
          refine lv_bipush (v := 10) hx hb dX7_number_38 (by decide) ?_
          refine lv_imul hx hb dX7_number_40 ?_
          refine jtopr (y := 0) (by decide) ?_
          refine lv_aload_n hx hb dX7_number_41 rfl (lv_at hl 2 rfl) ?_
          refine va_get (D := D) hx hb hts inlX7 hown hK hP 9 (jc_9 cI cL ad σ τ) rfl 3 (by decide) (hts _ kw_3_20) (fun _ h9 => h9) rfl dX7_number_42 ?_
          refine lv_aload_n hx hb dX7_number_45 rfl (lv_at hl 2 rfl) ?_
          refine lv_dup hx hb dX7_number_46 rfl ?_
          refine va_get (D := D) hx hb hts inlX7 hown hK hP 9 (jc_9 cI cL ad σ τ) rfl 1 (by decide) (hts _ kw_13_17) (fun _ h9 => h9) rfl dX7_number_47 ?_
          refine lv_dup_x1 hx hb dX7_number_50 rfl rfl ?_
          refine lv_iconst (v := 1) hx hb dX7_number_51 (by decide) ?_
          have g35 := jrg (rfl : (σ 9 1).toInt = (σ 9 1).toInt)
          refine lv_iadd hx hb dX7_number_52 ?_
          refine lv_topi (fun x36 ex36 => ?_)
          have tx36 : x36.toInt = (σ 9 1).toInt + 1 := (jadd ex36 rfl jz_1 (by omega) (by omega)).trans (by omega)
          refine jput (ty := .int) hx hb hts inlX7 tyX7 tyX7_ok nmX7 hown hK hP hJ hA hS (jc_9 cI cL ad σ τ) rfl (k := 1) (by decide) (Nat.le_of_ble_eq_true rfl) (jp_9_1 cI cL ad σ τ x36) (hts _ kw_13_17) (fun _ h9 => h9) rfl (by decide +kernel) rfl rfl dX7_number_53 (fun σ37 H locs eσ37 hP hS => ?_)
          refine jald hx hb hK hP (jc_10 cI cL ad σ37 τ) (jin rfl (by omega) (by omega)) dX7_number_56 ?_
          refine jtopr (y := (σ 10 (σ 9 1).toNatClampNeg)) (by rw [jnp 10 eσ37 (by decide)]) ?_
          refine lv_iadd hx hb dX7_number_57 ?_
          refine jtopr (y := (σ 10 (σ 9 1).toNatClampNeg)) (by rw [Int32.zero_add]) ?_
          refine lv_bipush (v := 48) hx hb dX7_number_58 (by decide) ?_
          have g38 := jrg (rfl : (σ 10 (σ 9 1).toNatClampNeg).toInt = (σ 10 (σ 9 1).toNatClampNeg).toInt)
          refine lv_isub hx hb dX7_number_60 ?_
          refine lv_topi (fun x39 ex39 => ?_)
          have tx39 : x39.toInt = (σ 10 (σ 9 1).toNatClampNeg).toInt - 48 := (jsub ex39 rfl jz_48 (by omega) (by omega)).trans (by omega)
          refine lv_istore_n (lv' := [(2, .int x39), (3, .int 0), (0, .ref (ad 9)), (1, .int 4)]) hx hb dX7_number_61 rfl hl (by decide) rfl (fun ls hl => ?_)
          refine lv_iinc (v := 1) (lv' := [(3, .int 1), (2, .int x39), (0, .ref (ad 9)), (1, .int 4)]) hx hb dX7_number_62 hl (k := 1) rfl (by decide) (by decide) rfl (fun ls hl => ?_)
          refine lv_goto (tgt := 22) hx hb dX7_number_65 (by decide) ?_
          refine lv_iload_n hx hb dX7_number_22 rfl (lv_at hl 0 rfl) ?_
          refine lv_iload_n hx hb dX7_number_23 rfl (lv_at hl 3 rfl) ?_
          refine lv_icmp_ge (tgt := 68) hx hb dX7_number_24 (by decide) (fun c => absurd c (by decide)) (fun _ => ?_)
          refine lv_aload_n hx hb dX7_number_27 rfl (lv_at hl 2 rfl) ?_
          have I40 : jI9 σ37 := jI9_fr (jkp 0 eσ37 (by decide)) (jnp 10 eσ37 (by decide)) (jnp 11 eσ37 (by decide)) hI9
          have z41 : (σ37 9 1).toInt = (σ 9 1).toInt + 1 := ((congrArg Int32.toInt (show σ37 9 1 = x36 from (jsp eσ37))).trans tx36)
          have z42 : (σ37 9 0).toInt = (σ 9 0).toInt := (congrArg Int32.toInt (show σ37 9 0 = (σ 9 0) from (jkp 0 eσ37 (by decide))))
          refine jcallV (As := []) (rest := []) ⟨hx, hb, hml, hown, hts⟩ hK hP hA hS hZ (c_X7_sign_9 l D cI cL ad zz hJ σ37 τ I40) cw_RX7_35 (jc_9 cI cL ad σ37 τ) rfl ⟨Nat.le_of_ble_eq_true rfl, Nat.le_of_ble_eq_true rfl⟩ rfl rfl rfl hl.1 rfl (Nat.le_of_ble_eq_true rfl) dX7_number_28 ⟨Nat.zero_le _, Nat.zero_le _⟩ (fun r44 σ43 τ43 H locs h43 hP hS => ?_)
          obtain ⟨⟨rfl, rfl⟩, h43⟩ := h43
          rcases h43 with h45 | h46
          · obtain ⟨q49, k47, k48⟩ := h45
            have q50 : r44 = (σ 10 x36.toNatClampNeg) := q49.trans (by rw [(show σ37 9 1 = x36 from (jsp eσ37)), jnp 10 eσ37 (by decide)])
            have q50e : (σ37 10 (σ37 9 1).toNatClampNeg).toInt = (σ 10 x36.toNatClampNeg).toInt := by rw [← q49, ← q50]
            have q50 := q50.symm
            subst q50
            refine jcallS (As := [.int (σ 10 x36.toNatClampNeg)]) (rest := []) ⟨hx, hb, hml, hown, hts⟩ hK hP hA hS hZ (c_X7_isDigit l D cI cL ad zz hJ σ37 τ (σ 10 x36.toNatClampNeg) ((σ 10 x36.toNatClampNeg).toInt) rfl) cw_RX7_39 ⟨Nat.le_of_ble_eq_true rfl, Nat.le_of_ble_eq_true rfl⟩ rfl rfl rfl hl.1 rfl (Nat.le_of_ble_eq_true rfl) dX7_number_31 ⟨Nat.zero_le _, Nat.zero_le _⟩ (fun r52 σ51 τ51 H locs h51 hP hS => ?_)
            obtain ⟨⟨rfl, rfl⟩, h51⟩ := h51
            rcases h51 with h53 | h54
            · obtain ⟨q56, k55⟩ := h53
              have q56 := q56.symm
              subst q56
              refine lv_if_eq (tgt := 68) hx hb dX7_number_34 (by decide) (fun c => absurd c (by decide)) (fun _ => ?_)
              refine lv_iload_n hx hb dX7_number_37 rfl (lv_at hl 1 rfl) ?_
              refine lv_bipush (v := 10) hx hb dX7_number_38 (by decide) ?_
              refine lv_imul hx hb dX7_number_40 ?_
              refine lv_topi (fun x57 ex57 => ?_)
              have tx57 : x57.toInt = 10 * (σ 10 (σ 9 1).toNatClampNeg).toInt - 480 := (jmul ex57 tx39 jz_10 (by omega) (by omega)).trans (by omega)
              refine lv_aload_n hx hb dX7_number_41 rfl (lv_at hl 2 rfl) ?_
              refine va_get (D := D) hx hb hts inlX7 hown hK hP 9 (jc_9 cI cL ad σ37 τ) rfl 3 (by decide) (hts _ kw_3_20) (fun _ h9 => h9) rfl dX7_number_42 ?_
              refine lv_aload_n hx hb dX7_number_45 rfl (lv_at hl 2 rfl) ?_
              refine lv_dup hx hb dX7_number_46 rfl ?_
              refine va_get (D := D) hx hb hts inlX7 hown hK hP 9 (jc_9 cI cL ad σ37 τ) rfl 1 (by decide) (hts _ kw_13_17) (fun _ h9 => h9) rfl dX7_number_47 ?_
              have m58 : σ37 9 1 = x36 := (jsp eσ37)
              refine jtopr m58 ?_
              refine lv_dup_x1 hx hb dX7_number_50 rfl rfl ?_
              refine lv_iconst (v := 1) hx hb dX7_number_51 (by decide) ?_
              refine lv_iadd hx hb dX7_number_52 ?_
              refine lv_topi (fun x59 ex59 => ?_)
              have tx59 : x59.toInt = (σ 9 1).toInt + 2 := (jadd ex59 tx36 jz_1 (by omega) (by omega)).trans (by omega)
              refine jput (ty := .int) hx hb hts inlX7 tyX7 tyX7_ok nmX7 hown hK hP hJ hA hS (jc_9 cI cL ad σ37 τ) rfl (k := 1) (by decide) (Nat.le_of_ble_eq_true rfl) (jp_9_1 cI cL ad σ37 τ x59) (hts _ kw_13_17) (fun _ h9 => h9) rfl (by decide +kernel) rfl rfl dX7_number_53 (fun σ60 H locs eσ60 hP hS => ?_)
              refine jald hx hb hK hP (jc_10 cI cL ad σ60 τ) (jin tx36 (by omega) (by omega)) dX7_number_56 ?_
              refine jtopr (y := (σ 10 x36.toNatClampNeg)) (by rw [jnp 10 eσ60 (by decide), jnp 10 eσ37 (by decide)]) ?_
              have g61 := jrg (rfl : (σ 10 x36.toNatClampNeg).toInt = (σ 10 x36.toNatClampNeg).toInt)
              refine lv_iadd hx hb dX7_number_57 ?_
              refine lv_topi (fun x62 ex62 => ?_)
              have tx62 : x62.toInt = 10 * (σ 10 (σ 9 1).toNatClampNeg).toInt + (σ 10 x36.toNatClampNeg).toInt - 480 := (jadd ex62 tx57 rfl (by omega) (by omega)).trans (by omega)
              refine lv_bipush (v := 48) hx hb dX7_number_58 (by decide) ?_
              refine lv_isub hx hb dX7_number_60 ?_
              refine lv_topi (fun x63 ex63 => ?_)
              have tx63 : x63.toInt = 10 * (σ 10 (σ 9 1).toNatClampNeg).toInt + (σ 10 x36.toNatClampNeg).toInt - 528 := (jsub ex63 tx62 jz_48 (by omega) (by omega)).trans (by omega)
              refine lv_istore_n (lv' := [(2, .int x63), (3, .int 1), (0, .ref (ad 9)), (1, .int 4)]) hx hb dX7_number_61 rfl hl (by decide) rfl (fun ls hl => ?_)
              refine lv_iinc (v := 2) (lv' := [(3, .int 2), (2, .int x63), (0, .ref (ad 9)), (1, .int 4)]) hx hb dX7_number_62 hl (k := 1) rfl (by decide) (by decide) rfl (fun ls hl => ?_)
              refine lv_goto (tgt := 22) hx hb dX7_number_65 (by decide) ?_
              refine lv_iload_n hx hb dX7_number_22 rfl (lv_at hl 0 rfl) ?_
              refine lv_iload_n hx hb dX7_number_23 rfl (lv_at hl 3 rfl) ?_
              refine lv_icmp_ge (tgt := 68) hx hb dX7_number_24 (by decide) (fun c => absurd c (by decide)) (fun _ => ?_)
              refine lv_aload_n hx hb dX7_number_27 rfl (lv_at hl 2 rfl) ?_
              have I64 : jI9 σ60 := jI9_fr (jkp 0 eσ60 (by decide)) (jnp 10 eσ60 (by decide)) (jnp 11 eσ60 (by decide)) I40
              have z65 : (σ60 9 1).toInt = (σ 9 1).toInt + 2 := ((congrArg Int32.toInt (show σ60 9 1 = x59 from (jsp eσ60))).trans tx59)
              have z66 : (σ60 9 0).toInt = (σ 9 0).toInt := (congrArg Int32.toInt (show σ60 9 0 = (σ 9 0) from ((jkp 0 eσ60 (by decide)).trans (jkp 0 eσ37 (by decide)))))
              refine jcallV (As := []) (rest := []) ⟨hx, hb, hml, hown, hts⟩ hK hP hA hS hZ (c_X7_sign_9 l D cI cL ad zz hJ σ60 τ I64) cw_RX7_35 (jc_9 cI cL ad σ60 τ) rfl ⟨Nat.le_of_ble_eq_true rfl, Nat.le_of_ble_eq_true rfl⟩ rfl rfl rfl hl.1 rfl (Nat.le_of_ble_eq_true rfl) dX7_number_28 ⟨Nat.zero_le _, Nat.zero_le _⟩ (fun r68 σ67 τ67 H locs h67 hP hS => ?_)
              obtain ⟨⟨rfl, rfl⟩, h67⟩ := h67
              rcases h67 with h69 | h70
              · obtain ⟨q73, k71, k72⟩ := h69
                have q74 : r68 = (σ 10 x59.toNatClampNeg) := q73.trans (by rw [(show σ60 9 1 = x59 from (jsp eσ60)), jnp 10 eσ60 (by decide), jnp 10 eσ37 (by decide)])
                have q74e : (σ60 10 (σ60 9 1).toNatClampNeg).toInt = (σ 10 x59.toNatClampNeg).toInt := by rw [← q73, ← q74]
                have q74 := q74.symm
                subst q74
                refine jcallS (As := [.int (σ 10 x59.toNatClampNeg)]) (rest := []) ⟨hx, hb, hml, hown, hts⟩ hK hP hA hS hZ (c_X7_isDigit l D cI cL ad zz hJ σ60 τ (σ 10 x59.toNatClampNeg) ((σ 10 x59.toNatClampNeg).toInt) rfl) cw_RX7_39 ⟨Nat.le_of_ble_eq_true rfl, Nat.le_of_ble_eq_true rfl⟩ rfl rfl rfl hl.1 rfl (Nat.le_of_ble_eq_true rfl) dX7_number_31 ⟨Nat.zero_le _, Nat.zero_le _⟩ (fun r76 σ75 τ75 H locs h75 hP hS => ?_)
                obtain ⟨⟨rfl, rfl⟩, h75⟩ := h75
                rcases h75 with h77 | h78
                · obtain ⟨q80, k79⟩ := h77
                  have q80 := q80.symm
                  subst q80
                  refine lv_if_eq (tgt := 68) hx hb dX7_number_34 (by decide) (fun c => absurd c (by decide)) (fun _ => ?_)
                  refine lv_iload_n hx hb dX7_number_37 rfl (lv_at hl 1 rfl) ?_
                  refine lv_bipush (v := 10) hx hb dX7_number_38 (by decide) ?_
                  refine lv_imul hx hb dX7_number_40 ?_
                  refine lv_topi (fun x81 ex81 => ?_)
                  have tx81 : x81.toInt = 100 * (σ 10 (σ 9 1).toNatClampNeg).toInt + 10 * (σ 10 x36.toNatClampNeg).toInt - 5280 := (jmul ex81 tx63 jz_10 (by omega) (by omega)).trans (by omega)
                  refine lv_aload_n hx hb dX7_number_41 rfl (lv_at hl 2 rfl) ?_
                  refine va_get (D := D) hx hb hts inlX7 hown hK hP 9 (jc_9 cI cL ad σ60 τ) rfl 3 (by decide) (hts _ kw_3_20) (fun _ h9 => h9) rfl dX7_number_42 ?_
                  refine lv_aload_n hx hb dX7_number_45 rfl (lv_at hl 2 rfl) ?_
                  refine lv_dup hx hb dX7_number_46 rfl ?_
                  refine va_get (D := D) hx hb hts inlX7 hown hK hP 9 (jc_9 cI cL ad σ60 τ) rfl 1 (by decide) (hts _ kw_13_17) (fun _ h9 => h9) rfl dX7_number_47 ?_
                  have m82 : σ60 9 1 = x59 := (jsp eσ60)
                  refine jtopr m82 ?_
                  refine lv_dup_x1 hx hb dX7_number_50 rfl rfl ?_
                  refine lv_iconst (v := 1) hx hb dX7_number_51 (by decide) ?_
                  refine lv_iadd hx hb dX7_number_52 ?_
                  refine lv_topi (fun x83 ex83 => ?_)
                  have tx83 : x83.toInt = (σ 9 1).toInt + 3 := (jadd ex83 tx59 jz_1 (by omega) (by omega)).trans (by omega)
                  refine jput (ty := .int) hx hb hts inlX7 tyX7 tyX7_ok nmX7 hown hK hP hJ hA hS (jc_9 cI cL ad σ60 τ) rfl (k := 1) (by decide) (Nat.le_of_ble_eq_true rfl) (jp_9_1 cI cL ad σ60 τ x83) (hts _ kw_13_17) (fun _ h9 => h9) rfl (by decide +kernel) rfl rfl dX7_number_53 (fun σ84 H locs eσ84 hP hS => ?_)
                  refine jald hx hb hK hP (jc_10 cI cL ad σ84 τ) (jin tx59 (by omega) (by omega)) dX7_number_56 ?_
                  refine jtopr (y := (σ 10 x59.toNatClampNeg)) (by rw [jnp 10 eσ84 (by decide), jnp 10 eσ60 (by decide), jnp 10 eσ37 (by decide)]) ?_
                  have g85 := jrg (rfl : (σ 10 x59.toNatClampNeg).toInt = (σ 10 x59.toNatClampNeg).toInt)
                  refine lv_iadd hx hb dX7_number_57 ?_
                  refine lv_topi (fun x86 ex86 => ?_)
                  have tx86 : x86.toInt = 100 * (σ 10 (σ 9 1).toNatClampNeg).toInt + 10 * (σ 10 x36.toNatClampNeg).toInt + (σ 10 x59.toNatClampNeg).toInt - 5280 := (jadd ex86 tx81 rfl (by omega) (by omega)).trans (by omega)
                  refine lv_bipush (v := 48) hx hb dX7_number_58 (by decide) ?_
                  refine lv_isub hx hb dX7_number_60 ?_
                  refine lv_topi (fun x87 ex87 => ?_)
                  have tx87 : x87.toInt = 100 * (σ 10 (σ 9 1).toNatClampNeg).toInt + 10 * (σ 10 x36.toNatClampNeg).toInt + (σ 10 x59.toNatClampNeg).toInt - 5328 := (jsub ex87 tx86 jz_48 (by omega) (by omega)).trans (by omega)
                  refine lv_istore_n (lv' := [(2, .int x87), (3, .int 2), (0, .ref (ad 9)), (1, .int 4)]) hx hb dX7_number_61 rfl hl (by decide) rfl (fun ls hl => ?_)
                  refine lv_iinc (v := 3) (lv' := [(3, .int 3), (2, .int x87), (0, .ref (ad 9)), (1, .int 4)]) hx hb dX7_number_62 hl (k := 1) rfl (by decide) (by decide) rfl (fun ls hl => ?_)
                  refine lv_goto (tgt := 22) hx hb dX7_number_65 (by decide) ?_
                  refine lv_iload_n hx hb dX7_number_22 rfl (lv_at hl 0 rfl) ?_
                  refine lv_iload_n hx hb dX7_number_23 rfl (lv_at hl 3 rfl) ?_
                  refine lv_icmp_ge (tgt := 68) hx hb dX7_number_24 (by decide) (fun c => absurd c (by decide)) (fun _ => ?_)
                  refine lv_aload_n hx hb dX7_number_27 rfl (lv_at hl 2 rfl) ?_
                  have I88 : jI9 σ84 := jI9_fr (jkp 0 eσ84 (by decide)) (jnp 10 eσ84 (by decide)) (jnp 11 eσ84 (by decide)) I64
                  have z89 : (σ84 9 1).toInt = (σ 9 1).toInt + 3 := ((congrArg Int32.toInt (show σ84 9 1 = x83 from (jsp eσ84))).trans tx83)
                  have z90 : (σ84 9 0).toInt = (σ 9 0).toInt := (congrArg Int32.toInt (show σ84 9 0 = (σ 9 0) from ((jkp 0 eσ84 (by decide)).trans ((jkp 0 eσ60 (by decide)).trans (jkp 0 eσ37 (by decide))))))
                  refine jcallV (As := []) (rest := []) ⟨hx, hb, hml, hown, hts⟩ hK hP hA hS hZ (c_X7_sign_9 l D cI cL ad zz hJ σ84 τ I88) cw_RX7_35 (jc_9 cI cL ad σ84 τ) rfl ⟨Nat.le_of_ble_eq_true rfl, Nat.le_of_ble_eq_true rfl⟩ rfl rfl rfl hl.1 rfl (Nat.le_of_ble_eq_true rfl) dX7_number_28 ⟨Nat.zero_le _, Nat.zero_le _⟩ (fun r92 σ91 τ91 H locs h91 hP hS => ?_)
                  obtain ⟨⟨rfl, rfl⟩, h91⟩ := h91
                  rcases h91 with h93 | h94
                  · obtain ⟨q97, k95, k96⟩ := h93
                    have q98 : r92 = (σ 10 x83.toNatClampNeg) := q97.trans (by rw [(show σ84 9 1 = x83 from (jsp eσ84)), jnp 10 eσ84 (by decide), jnp 10 eσ60 (by decide), jnp 10 eσ37 (by decide)])
                    have q98e : (σ84 10 (σ84 9 1).toNatClampNeg).toInt = (σ 10 x83.toNatClampNeg).toInt := by rw [← q97, ← q98]
                    have q98 := q98.symm
                    subst q98
                    refine jcallS (As := [.int (σ 10 x83.toNatClampNeg)]) (rest := []) ⟨hx, hb, hml, hown, hts⟩ hK hP hA hS hZ (c_X7_isDigit l D cI cL ad zz hJ σ84 τ (σ 10 x83.toNatClampNeg) ((σ 10 x83.toNatClampNeg).toInt) rfl) cw_RX7_39 ⟨Nat.le_of_ble_eq_true rfl, Nat.le_of_ble_eq_true rfl⟩ rfl rfl rfl hl.1 rfl (Nat.le_of_ble_eq_true rfl) dX7_number_31 ⟨Nat.zero_le _, Nat.zero_le _⟩ (fun r100 σ99 τ99 H locs h99 hP hS => ?_)
                    obtain ⟨⟨rfl, rfl⟩, h99⟩ := h99
                    rcases h99 with h101 | h102
                    · obtain ⟨q104, k103⟩ := h101
                      have q104 := q104.symm
                      subst q104
                      refine lv_if_eq (tgt := 68) hx hb dX7_number_34 (by decide) (fun c => absurd c (by decide)) (fun _ => ?_)
                      refine lv_iload_n hx hb dX7_number_37 rfl (lv_at hl 1 rfl) ?_
                      refine lv_bipush (v := 10) hx hb dX7_number_38 (by decide) ?_
                      refine lv_imul hx hb dX7_number_40 ?_
                      refine lv_topi (fun x105 ex105 => ?_)
                      have tx105 : x105.toInt = 1000 * (σ 10 (σ 9 1).toNatClampNeg).toInt + 100 * (σ 10 x36.toNatClampNeg).toInt + 10 * (σ 10 x59.toNatClampNeg).toInt - 53280 := (jmul ex105 tx87 jz_10 (by omega) (by omega)).trans (by omega)
                      refine lv_aload_n hx hb dX7_number_41 rfl (lv_at hl 2 rfl) ?_
                      refine va_get (D := D) hx hb hts inlX7 hown hK hP 9 (jc_9 cI cL ad σ84 τ) rfl 3 (by decide) (hts _ kw_3_20) (fun _ h9 => h9) rfl dX7_number_42 ?_
                      refine lv_aload_n hx hb dX7_number_45 rfl (lv_at hl 2 rfl) ?_
                      refine lv_dup hx hb dX7_number_46 rfl ?_
                      refine va_get (D := D) hx hb hts inlX7 hown hK hP 9 (jc_9 cI cL ad σ84 τ) rfl 1 (by decide) (hts _ kw_13_17) (fun _ h9 => h9) rfl dX7_number_47 ?_
                      have m106 : σ84 9 1 = x83 := (jsp eσ84)
                      refine jtopr m106 ?_
                      refine lv_dup_x1 hx hb dX7_number_50 rfl rfl ?_
                      refine lv_iconst (v := 1) hx hb dX7_number_51 (by decide) ?_
                      refine lv_iadd hx hb dX7_number_52 ?_
                      refine lv_topi (fun x107 ex107 => ?_)
                      have tx107 : x107.toInt = (σ 9 1).toInt + 4 := (jadd ex107 tx83 jz_1 (by omega) (by omega)).trans (by omega)
                      refine jput (ty := .int) hx hb hts inlX7 tyX7 tyX7_ok nmX7 hown hK hP hJ hA hS (jc_9 cI cL ad σ84 τ) rfl (k := 1) (by decide) (Nat.le_of_ble_eq_true rfl) (jp_9_1 cI cL ad σ84 τ x107) (hts _ kw_13_17) (fun _ h9 => h9) rfl (by decide +kernel) rfl rfl dX7_number_53 (fun σ108 H locs eσ108 hP hS => ?_)
                      refine jald hx hb hK hP (jc_10 cI cL ad σ108 τ) (jin tx83 (by omega) (by omega)) dX7_number_56 ?_
                      refine jtopr (y := (σ 10 x83.toNatClampNeg)) (by rw [jnp 10 eσ108 (by decide), jnp 10 eσ84 (by decide), jnp 10 eσ60 (by decide), jnp 10 eσ37 (by decide)]) ?_
                      have g109 := jrg (rfl : (σ 10 x83.toNatClampNeg).toInt = (σ 10 x83.toNatClampNeg).toInt)
                      refine lv_iadd hx hb dX7_number_57 ?_
                      refine lv_topi (fun x110 ex110 => ?_)
                      have tx110 : x110.toInt = 1000 * (σ 10 (σ 9 1).toNatClampNeg).toInt + 100 * (σ 10 x36.toNatClampNeg).toInt + 10 * (σ 10 x59.toNatClampNeg).toInt + (σ 10 x83.toNatClampNeg).toInt - 53280 := (jadd ex110 tx105 rfl (by omega) (by omega)).trans (by omega)
                      refine lv_bipush (v := 48) hx hb dX7_number_58 (by decide) ?_
                      refine lv_isub hx hb dX7_number_60 ?_
                      refine lv_topi (fun x111 ex111 => ?_)
                      have tx111 : x111.toInt = 1000 * (σ 10 (σ 9 1).toNatClampNeg).toInt + 100 * (σ 10 x36.toNatClampNeg).toInt + 10 * (σ 10 x59.toNatClampNeg).toInt + (σ 10 x83.toNatClampNeg).toInt - 53328 := (jsub ex111 tx110 jz_48 (by omega) (by omega)).trans (by omega)
                      refine lv_istore_n (lv' := [(2, .int x111), (3, .int 3), (0, .ref (ad 9)), (1, .int 4)]) hx hb dX7_number_61 rfl hl (by decide) rfl (fun ls hl => ?_)
                      refine lv_iinc (v := 4) (lv' := [(3, .int 4), (2, .int x111), (0, .ref (ad 9)), (1, .int 4)]) hx hb dX7_number_62 hl (k := 1) rfl (by decide) (by decide) rfl (fun ls hl => ?_)
                      refine lv_goto (tgt := 22) hx hb dX7_number_65 (by decide) ?_
                      refine lv_iload_n hx hb dX7_number_22 rfl (lv_at hl 0 rfl) ?_
                      refine lv_iload_n hx hb dX7_number_23 rfl (lv_at hl 3 rfl) ?_
                      refine lv_icmp_ge (tgt := 68) hx hb dX7_number_24 (by decide) (fun _ => ?_) (fun c => absurd (by decide) c)
                      refine lv_iload_n hx hb dX7_number_68 rfl (lv_at hl 1 rfl) ?_
                      have I112 : jI9 σ108 := jI9_fr (jkp 0 eσ108 (by decide)) (jnp 10 eσ108 (by decide)) (jnp 11 eσ108 (by decide)) I88
                      have z113 : (σ108 9 1).toInt = (σ 9 1).toInt + 4 := ((congrArg Int32.toInt (show σ108 9 1 = x107 from (jsp eσ108))).trans tx107)
                      have z114 : (σ108 9 0).toInt = (σ 9 0).toInt := (congrArg Int32.toInt (show σ108 9 0 = (σ 9 0) from ((jkp 0 eσ108 (by decide)).trans ((jkp 0 eσ84 (by decide)).trans ((jkp 0 eσ60 (by decide)).trans (jkp 0 eσ37 (by decide)))))))
                      have I115 : jI91 σ108 := ⟨(by omega), (by omega)⟩
                      have I116 : jI92 σ108 := jI92_fr ((jkp 2 eσ108 (by decide)).trans ((jkp 2 eσ84 (by decide)).trans ((jkp 2 eσ60 (by decide)).trans (jkp 2 eσ37 (by decide))))) hI92
                      have z117 : (σ108 9 2).toInt = (σ 9 2).toInt := (congrArg Int32.toInt (show σ108 9 2 = (σ 9 2) from ((jkp 2 eσ108 (by decide)).trans ((jkp 2 eσ84 (by decide)).trans ((jkp 2 eσ60 (by decide)).trans (jkp 2 eσ37 (by decide)))))))
                      exact hret x111 σ108 τ _ _ _ _ rfl ⟨rfl, (fun i hi => ((jnp i eσ108 (imp_37 i hi)).trans ((jnp i eσ84 (imp_37 i hi)).trans ((jnp i eσ60 (imp_37 i hi)).trans (jnp i eσ37 (imp_37 i hi)))))), (fun i hi => ((jkp i eσ108 (imp_39 i hi)).trans ((jkp i eσ84 (imp_39 i hi)).trans ((jkp i eσ60 (imp_39 i hi)).trans (jkp i eσ37 (imp_39 i hi)))))), I112, I115, I116, (by omega), ⟨trivial, (by have h9 := tx111; omega)⟩⟩ hP hS dX7_number_69
                    · obtain ⟨q119, k118⟩ := h102
                      have q119 := q119.symm
                      subst q119
                      refine lv_if_eq (tgt := 68) hx hb dX7_number_34 (by decide) (fun _ => ?_) (fun c => absurd (by decide) c)
                      refine lv_iload_n hx hb dX7_number_68 rfl (lv_at hl 1 rfl) ?_
                      have I120 : jI91 σ84 := ⟨(by omega), (by omega)⟩
                      have I121 : jI92 σ84 := jI92_fr ((jkp 2 eσ84 (by decide)).trans ((jkp 2 eσ60 (by decide)).trans (jkp 2 eσ37 (by decide)))) hI92
                      have z122 : (σ84 9 2).toInt = (σ 9 2).toInt := (congrArg Int32.toInt (show σ84 9 2 = (σ 9 2) from ((jkp 2 eσ84 (by decide)).trans ((jkp 2 eσ60 (by decide)).trans (jkp 2 eσ37 (by decide))))))
                      exact hret x87 σ84 τ _ _ _ _ rfl ⟨rfl, (fun i hi => ((jnp i eσ84 (imp_37 i hi)).trans ((jnp i eσ60 (imp_37 i hi)).trans (jnp i eσ37 (imp_37 i hi))))), (fun i hi => ((jkp i eσ84 (imp_39 i hi)).trans ((jkp i eσ60 (imp_39 i hi)).trans (jkp i eσ37 (imp_39 i hi))))), I88, I120, I121, (by omega), ⟨trivial, (by have h9 := tx87; omega)⟩⟩ hP hS dX7_number_69
                  · obtain ⟨q124, k123⟩ := h94
                    have q124 := q124.symm
                    subst q124
                    refine jcallS (As := [.int (-1)]) (rest := []) ⟨hx, hb, hml, hown, hts⟩ hK hP hA hS hZ (c_X7_isDigit l D cI cL ad zz hJ σ84 τ (-1) ((-1)) jz_m1) cw_RX7_39 ⟨Nat.le_of_ble_eq_true rfl, Nat.le_of_ble_eq_true rfl⟩ rfl rfl rfl hl.1 rfl (Nat.le_of_ble_eq_true rfl) dX7_number_31 ⟨Nat.zero_le _, Nat.zero_le _⟩ (fun r126 σ125 τ125 H locs h125 hP hS => ?_)
                    obtain ⟨⟨rfl, rfl⟩, h125⟩ := h125
                    rcases h125 with h127 | h128
                    · obtain ⟨q130, k129⟩ := h127
                      exact absurd (by omega : False) id
                    · obtain ⟨q132, k131⟩ := h128
                      have q132 := q132.symm
                      subst q132
                      refine lv_if_eq (tgt := 68) hx hb dX7_number_34 (by decide) (fun _ => ?_) (fun c => absurd (by decide) c)
                      refine lv_iload_n hx hb dX7_number_68 rfl (lv_at hl 1 rfl) ?_
                      have I133 : jI91 σ84 := ⟨(by omega), (by omega)⟩
                      have I134 : jI92 σ84 := jI92_fr ((jkp 2 eσ84 (by decide)).trans ((jkp 2 eσ60 (by decide)).trans (jkp 2 eσ37 (by decide)))) hI92
                      have z135 : (σ84 9 2).toInt = (σ 9 2).toInt := (congrArg Int32.toInt (show σ84 9 2 = (σ 9 2) from ((jkp 2 eσ84 (by decide)).trans ((jkp 2 eσ60 (by decide)).trans (jkp 2 eσ37 (by decide))))))
                      exact hret x87 σ84 τ _ _ _ _ rfl ⟨rfl, (fun i hi => ((jnp i eσ84 (imp_37 i hi)).trans ((jnp i eσ60 (imp_37 i hi)).trans (jnp i eσ37 (imp_37 i hi))))), (fun i hi => ((jkp i eσ84 (imp_39 i hi)).trans ((jkp i eσ60 (imp_39 i hi)).trans (jkp i eσ37 (imp_39 i hi))))), I88, I133, I134, (by omega), ⟨trivial, (by have h9 := tx87; omega)⟩⟩ hP hS dX7_number_69
                · obtain ⟨q137, k136⟩ := h78
                  have q137 := q137.symm
                  subst q137
                  refine lv_if_eq (tgt := 68) hx hb dX7_number_34 (by decide) (fun _ => ?_) (fun c => absurd (by decide) c)
                  refine lv_iload_n hx hb dX7_number_68 rfl (lv_at hl 1 rfl) ?_
                  have I138 : jI91 σ60 := ⟨(by omega), (by omega)⟩
                  have I139 : jI92 σ60 := jI92_fr ((jkp 2 eσ60 (by decide)).trans (jkp 2 eσ37 (by decide))) hI92
                  have z140 : (σ60 9 2).toInt = (σ 9 2).toInt := (congrArg Int32.toInt (show σ60 9 2 = (σ 9 2) from ((jkp 2 eσ60 (by decide)).trans (jkp 2 eσ37 (by decide)))))
                  exact hret x63 σ60 τ _ _ _ _ rfl ⟨rfl, (fun i hi => ((jnp i eσ60 (imp_37 i hi)).trans (jnp i eσ37 (imp_37 i hi)))), (fun i hi => ((jkp i eσ60 (imp_39 i hi)).trans (jkp i eσ37 (imp_39 i hi)))), I64, I138, I139, (by omega), ⟨trivial, (by have h9 := tx63; omega)⟩⟩ hP hS dX7_number_69
              · obtain ⟨q142, k141⟩ := h70
                have q142 := q142.symm
                subst q142
                refine jcallS (As := [.int (-1)]) (rest := []) ⟨hx, hb, hml, hown, hts⟩ hK hP hA hS hZ (c_X7_isDigit l D cI cL ad zz hJ σ60 τ (-1) ((-1)) jz_m1) cw_RX7_39 ⟨Nat.le_of_ble_eq_true rfl, Nat.le_of_ble_eq_true rfl⟩ rfl rfl rfl hl.1 rfl (Nat.le_of_ble_eq_true rfl) dX7_number_31 ⟨Nat.zero_le _, Nat.zero_le _⟩ (fun r144 σ143 τ143 H locs h143 hP hS => ?_)
                obtain ⟨⟨rfl, rfl⟩, h143⟩ := h143
                rcases h143 with h145 | h146
                · obtain ⟨q148, k147⟩ := h145
                  exact absurd (by omega : False) id
                · obtain ⟨q150, k149⟩ := h146
                  have q150 := q150.symm
                  subst q150
                  refine lv_if_eq (tgt := 68) hx hb dX7_number_34 (by decide) (fun _ => ?_) (fun c => absurd (by decide) c)
                  refine lv_iload_n hx hb dX7_number_68 rfl (lv_at hl 1 rfl) ?_
                  have I151 : jI91 σ60 := ⟨(by omega), (by omega)⟩
                  have I152 : jI92 σ60 := jI92_fr ((jkp 2 eσ60 (by decide)).trans (jkp 2 eσ37 (by decide))) hI92
                  have z153 : (σ60 9 2).toInt = (σ 9 2).toInt := (congrArg Int32.toInt (show σ60 9 2 = (σ 9 2) from ((jkp 2 eσ60 (by decide)).trans (jkp 2 eσ37 (by decide)))))
                  exact hret x63 σ60 τ _ _ _ _ rfl ⟨rfl, (fun i hi => ((jnp i eσ60 (imp_37 i hi)).trans (jnp i eσ37 (imp_37 i hi)))), (fun i hi => ((jkp i eσ60 (imp_39 i hi)).trans (jkp i eσ37 (imp_39 i hi)))), I64, I151, I152, (by omega), ⟨trivial, (by have h9 := tx63; omega)⟩⟩ hP hS dX7_number_69
            · obtain ⟨q155, k154⟩ := h54
              have q155 := q155.symm
              subst q155
              refine lv_if_eq (tgt := 68) hx hb dX7_number_34 (by decide) (fun _ => ?_) (fun c => absurd (by decide) c)
              refine lv_iload_n hx hb dX7_number_68 rfl (lv_at hl 1 rfl) ?_
              have I156 : jI91 σ37 := ⟨(by omega), (by omega)⟩
              have I157 : jI92 σ37 := jI92_fr (jkp 2 eσ37 (by decide)) hI92
              have z158 : (σ37 9 2).toInt = (σ 9 2).toInt := (congrArg Int32.toInt (show σ37 9 2 = (σ 9 2) from (jkp 2 eσ37 (by decide))))
              exact hret x39 σ37 τ _ _ _ _ rfl ⟨rfl, (fun i hi => (jnp i eσ37 (imp_37 i hi))), (fun i hi => (jkp i eσ37 (imp_39 i hi))), I40, I156, I157, (by omega), ⟨trivial, (by have h9 := tx39; omega)⟩⟩ hP hS dX7_number_69
          · obtain ⟨q160, k159⟩ := h46
            have q160 := q160.symm
            subst q160
            refine jcallS (As := [.int (-1)]) (rest := []) ⟨hx, hb, hml, hown, hts⟩ hK hP hA hS hZ (c_X7_isDigit l D cI cL ad zz hJ σ37 τ (-1) ((-1)) jz_m1) cw_RX7_39 ⟨Nat.le_of_ble_eq_true rfl, Nat.le_of_ble_eq_true rfl⟩ rfl rfl rfl hl.1 rfl (Nat.le_of_ble_eq_true rfl) dX7_number_31 ⟨Nat.zero_le _, Nat.zero_le _⟩ (fun r162 σ161 τ161 H locs h161 hP hS => ?_)
            obtain ⟨⟨rfl, rfl⟩, h161⟩ := h161
            rcases h161 with h163 | h164
            · obtain ⟨q166, k165⟩ := h163
              exact absurd (by omega : False) id
            · obtain ⟨q168, k167⟩ := h164
              have q168 := q168.symm
              subst q168
              refine lv_if_eq (tgt := 68) hx hb dX7_number_34 (by decide) (fun _ => ?_) (fun c => absurd (by decide) c)
              refine lv_iload_n hx hb dX7_number_68 rfl (lv_at hl 1 rfl) ?_
              have I169 : jI91 σ37 := ⟨(by omega), (by omega)⟩
              have I170 : jI92 σ37 := jI92_fr (jkp 2 eσ37 (by decide)) hI92
              have z171 : (σ37 9 2).toInt = (σ 9 2).toInt := (congrArg Int32.toInt (show σ37 9 2 = (σ 9 2) from (jkp 2 eσ37 (by decide))))
              exact hret x39 σ37 τ _ _ _ _ rfl ⟨rfl, (fun i hi => (jnp i eσ37 (imp_37 i hi))), (fun i hi => (jkp i eσ37 (imp_39 i hi))), I40, I169, I170, (by omega), ⟨trivial, (by have h9 := tx39; omega)⟩⟩ hP hS dX7_number_69
        · obtain ⟨q173, k172⟩ := h32
          exact absurd (by omega : False) id
      · obtain ⟨q175, k174⟩ := h24
        exact absurd (by omega : False) id
    · obtain ⟨q177, k176⟩ := h18
      have q177 := q177.symm
      subst q177
      refine lv_if_ne (tgt := 18) hx hb dX7_number_7 (by decide) (fun c => absurd (by decide) c) (fun _ => ?_)
      refine lv_aload_n hx hb dX7_number_10 rfl (lv_at hl 0 rfl) ?_
      refine lv_aload_n hx hb dX7_number_11 rfl (lv_at hl 0 rfl) ?_
      refine va_get (D := D) hx hb hts inlX7 hown hK hP 9 (jc_9 cI cL ad σ τ) rfl 1 (by decide) (hts _ kw_13_17) (fun _ h9 => h9) rfl dX7_number_12 ?_
      refine jcallVv (As := [.int (σ 9 1)]) (rest := []) ⟨hx, hb, hml, hown, hts⟩ hK hP hA hS hZ (c_X7_fail_9 l D cI cL ad zz hJ σ τ (σ 9 1) ((σ 9 1).toInt) rfl hI92 (by omega)) cw_RX7_43 (jc_9 cI cL ad σ τ) rfl ⟨Nat.le_of_ble_eq_true rfl, Nat.le_of_ble_eq_true rfl⟩ rfl rfl rfl hl.1 rfl (Nat.le_of_ble_eq_true rfl) dX7_number_15 ⟨Nat.zero_le _, Nat.zero_le _⟩ (fun σ178 τ178 H locs h178 hP hS => ?_)
      obtain ⟨rfl, f180, f181, h178⟩ := h178
      obtain ⟨k182, h178⟩ := h178
      refine lv_iconst (v := 0) hx hb dX7_number_18 (by decide) ?_
      refine lv_istore_n (lv' := [(2, .int 0), (0, .ref (ad 9)), (1, .int 4)]) hx hb dX7_number_19 rfl hl (by decide) rfl (fun ls hl => ?_)
      refine lv_iconst (v := 0) hx hb dX7_number_20 (by decide) ?_
      refine lv_istore_n (lv' := [(3, .int 0), (2, .int 0), (0, .ref (ad 9)), (1, .int 4)]) hx hb dX7_number_21 rfl hl (by decide) rfl (fun ls hl => ?_)
      refine lv_iload_n hx hb dX7_number_22 rfl (lv_at hl 0 rfl) ?_
      refine lv_iload_n hx hb dX7_number_23 rfl (lv_at hl 3 rfl) ?_
      refine lv_icmp_ge (tgt := 68) hx hb dX7_number_24 (by decide) (fun c => absurd c (by decide)) (fun _ => ?_)
      refine lv_aload_n hx hb dX7_number_27 rfl (lv_at hl 2 rfl) ?_
      have I183 : jI9 σ178 := jI9_fr (f181 0 (by decide)) (f180 10 (by decide)) (f180 11 (by decide)) hI9
      have z184 : (σ178 9 1).toInt = (σ 9 1).toInt := (congrArg Int32.toInt (show σ178 9 1 = (σ 9 1) from (f181 1 (by decide))))
      have z185 : (σ178 9 0).toInt = (σ 9 0).toInt := (congrArg Int32.toInt (show σ178 9 0 = (σ 9 0) from (f181 0 (by decide))))
      refine jcallV (As := []) (rest := []) ⟨hx, hb, hml, hown, hts⟩ hK hP hA hS hZ (c_X7_sign_9 l D cI cL ad zz hJ σ178 τ I183) cw_RX7_35 (jc_9 cI cL ad σ178 τ) rfl ⟨Nat.le_of_ble_eq_true rfl, Nat.le_of_ble_eq_true rfl⟩ rfl rfl rfl hl.1 rfl (Nat.le_of_ble_eq_true rfl) dX7_number_28 ⟨Nat.zero_le _, Nat.zero_le _⟩ (fun r187 σ186 τ186 H locs h186 hP hS => ?_)
      obtain ⟨⟨rfl, rfl⟩, h186⟩ := h186
      rcases h186 with h188 | h189
      · obtain ⟨q192, k190, k191⟩ := h188
        have q193 : r187 = (σ 10 (σ 9 1).toNatClampNeg) := q192.trans (by rw [(show σ178 9 1 = (σ 9 1) from (f181 1 (by decide))), f180 10 (by decide)])
        have q193e : (σ178 10 (σ178 9 1).toNatClampNeg).toInt = (σ 10 (σ 9 1).toNatClampNeg).toInt := by rw [← q192, ← q193]
        have q193 := q193.symm
        subst q193
        refine jcallS (As := [.int (σ 10 (σ 9 1).toNatClampNeg)]) (rest := []) ⟨hx, hb, hml, hown, hts⟩ hK hP hA hS hZ (c_X7_isDigit l D cI cL ad zz hJ σ178 τ (σ 10 (σ 9 1).toNatClampNeg) ((σ 10 (σ 9 1).toNatClampNeg).toInt) rfl) cw_RX7_39 ⟨Nat.le_of_ble_eq_true rfl, Nat.le_of_ble_eq_true rfl⟩ rfl rfl rfl hl.1 rfl (Nat.le_of_ble_eq_true rfl) dX7_number_31 ⟨Nat.zero_le _, Nat.zero_le _⟩ (fun r195 σ194 τ194 H locs h194 hP hS => ?_)
        obtain ⟨⟨rfl, rfl⟩, h194⟩ := h194
        rcases h194 with h196 | h197
        · obtain ⟨q199, k198⟩ := h196
          exact absurd (by omega : False) id
        · obtain ⟨q201, k200⟩ := h197
          have q201 := q201.symm
          subst q201
          refine lv_if_eq (tgt := 68) hx hb dX7_number_34 (by decide) (fun _ => ?_) (fun c => absurd (by decide) c)
          refine lv_iload_n hx hb dX7_number_68 rfl (lv_at hl 1 rfl) ?_
          have I202 : jI91 σ178 := jI91_fr (f181 0 (by decide)) (f181 1 (by decide)) hI91
          have I203 : jI92 σ178 := (show (-1) ≤ (σ178 9 2).toInt by omega)
          exact hret 0 σ178 τ _ _ _ _ rfl ⟨rfl, (fun i hi => (f180 i hi)), (fun i hi => (f181 i (imp_43 i hi))), I183, I202, I203, (by omega), ⟨trivial, (by have h9 := jz_0; omega)⟩⟩ hP hS dX7_number_69
      · obtain ⟨q205, k204⟩ := h189
        have q205 := q205.symm
        subst q205
        refine jcallS (As := [.int (-1)]) (rest := []) ⟨hx, hb, hml, hown, hts⟩ hK hP hA hS hZ (c_X7_isDigit l D cI cL ad zz hJ σ178 τ (-1) ((-1)) jz_m1) cw_RX7_39 ⟨Nat.le_of_ble_eq_true rfl, Nat.le_of_ble_eq_true rfl⟩ rfl rfl rfl hl.1 rfl (Nat.le_of_ble_eq_true rfl) dX7_number_31 ⟨Nat.zero_le _, Nat.zero_le _⟩ (fun r207 σ206 τ206 H locs h206 hP hS => ?_)
        obtain ⟨⟨rfl, rfl⟩, h206⟩ := h206
        rcases h206 with h208 | h209
        · obtain ⟨q211, k210⟩ := h208
          exact absurd (by omega : False) id
        · obtain ⟨q213, k212⟩ := h209
          have q213 := q213.symm
          subst q213
          refine lv_if_eq (tgt := 68) hx hb dX7_number_34 (by decide) (fun _ => ?_) (fun c => absurd (by decide) c)
          refine lv_iload_n hx hb dX7_number_68 rfl (lv_at hl 1 rfl) ?_
          have I214 : jI91 σ178 := jI91_fr (f181 0 (by decide)) (f181 1 (by decide)) hI91
          have I215 : jI92 σ178 := (show (-1) ≤ (σ178 9 2).toInt by omega)
          exact hret 0 σ178 τ _ _ _ _ rfl ⟨rfl, (fun i hi => (f180 i hi)), (fun i hi => (f181 i (imp_43 i hi))), I183, I214, I215, (by omega), ⟨trivial, (by have h9 := jz_0; omega)⟩⟩ hP hS dX7_number_69
  · obtain ⟨q217, k216⟩ := h10
    have q217 := q217.symm
    subst q217
    refine jcallS (As := [.int (-1)]) (rest := []) ⟨hx, hb, hml, hown, hts⟩ hK hP hA hS hZ (c_X7_isDigit l D cI cL ad zz hJ σ τ (-1) ((-1)) jz_m1) cw_RX7_39 ⟨Nat.le_of_ble_eq_true rfl, Nat.le_of_ble_eq_true rfl⟩ rfl rfl rfl hl.1 rfl (Nat.le_of_ble_eq_true rfl) dX7_number_4 ⟨Nat.zero_le _, Nat.zero_le _⟩ (fun r219 σ218 τ218 H locs h218 hP hS => ?_)
    obtain ⟨⟨rfl, rfl⟩, h218⟩ := h218
    rcases h218 with h220 | h221
    · obtain ⟨q223, k222⟩ := h220
      exact absurd (by omega : False) id
    · obtain ⟨q225, k224⟩ := h221
      have q225 := q225.symm
      subst q225
      refine lv_if_ne (tgt := 18) hx hb dX7_number_7 (by decide) (fun c => absurd (by decide) c) (fun _ => ?_)
      refine lv_aload_n hx hb dX7_number_10 rfl (lv_at hl 0 rfl) ?_
      refine lv_aload_n hx hb dX7_number_11 rfl (lv_at hl 0 rfl) ?_
      refine va_get (D := D) hx hb hts inlX7 hown hK hP 9 (jc_9 cI cL ad σ τ) rfl 1 (by decide) (hts _ kw_13_17) (fun _ h9 => h9) rfl dX7_number_12 ?_
      refine jcallVv (As := [.int (σ 9 1)]) (rest := []) ⟨hx, hb, hml, hown, hts⟩ hK hP hA hS hZ (c_X7_fail_9 l D cI cL ad zz hJ σ τ (σ 9 1) ((σ 9 1).toInt) rfl hI92 (by omega)) cw_RX7_43 (jc_9 cI cL ad σ τ) rfl ⟨Nat.le_of_ble_eq_true rfl, Nat.le_of_ble_eq_true rfl⟩ rfl rfl rfl hl.1 rfl (Nat.le_of_ble_eq_true rfl) dX7_number_15 ⟨Nat.zero_le _, Nat.zero_le _⟩ (fun σ226 τ226 H locs h226 hP hS => ?_)
      obtain ⟨rfl, f228, f229, h226⟩ := h226
      obtain ⟨k230, h226⟩ := h226
      refine lv_iconst (v := 0) hx hb dX7_number_18 (by decide) ?_
      refine lv_istore_n (lv' := [(2, .int 0), (0, .ref (ad 9)), (1, .int 4)]) hx hb dX7_number_19 rfl hl (by decide) rfl (fun ls hl => ?_)
      refine lv_iconst (v := 0) hx hb dX7_number_20 (by decide) ?_
      refine lv_istore_n (lv' := [(3, .int 0), (2, .int 0), (0, .ref (ad 9)), (1, .int 4)]) hx hb dX7_number_21 rfl hl (by decide) rfl (fun ls hl => ?_)
      refine lv_iload_n hx hb dX7_number_22 rfl (lv_at hl 0 rfl) ?_
      refine lv_iload_n hx hb dX7_number_23 rfl (lv_at hl 3 rfl) ?_
      refine lv_icmp_ge (tgt := 68) hx hb dX7_number_24 (by decide) (fun c => absurd c (by decide)) (fun _ => ?_)
      refine lv_aload_n hx hb dX7_number_27 rfl (lv_at hl 2 rfl) ?_
      have I231 : jI9 σ226 := jI9_fr (f229 0 (by decide)) (f228 10 (by decide)) (f228 11 (by decide)) hI9
      have z232 : (σ226 9 1).toInt = (σ 9 1).toInt := (congrArg Int32.toInt (show σ226 9 1 = (σ 9 1) from (f229 1 (by decide))))
      have z233 : (σ226 9 0).toInt = (σ 9 0).toInt := (congrArg Int32.toInt (show σ226 9 0 = (σ 9 0) from (f229 0 (by decide))))
      refine jcallV (As := []) (rest := []) ⟨hx, hb, hml, hown, hts⟩ hK hP hA hS hZ (c_X7_sign_9 l D cI cL ad zz hJ σ226 τ I231) cw_RX7_35 (jc_9 cI cL ad σ226 τ) rfl ⟨Nat.le_of_ble_eq_true rfl, Nat.le_of_ble_eq_true rfl⟩ rfl rfl rfl hl.1 rfl (Nat.le_of_ble_eq_true rfl) dX7_number_28 ⟨Nat.zero_le _, Nat.zero_le _⟩ (fun r235 σ234 τ234 H locs h234 hP hS => ?_)
      obtain ⟨⟨rfl, rfl⟩, h234⟩ := h234
      rcases h234 with h236 | h237
      · obtain ⟨q240, k238, k239⟩ := h236
        have q241 : r235 = (σ 10 (σ 9 1).toNatClampNeg) := q240.trans (by rw [(show σ226 9 1 = (σ 9 1) from (f229 1 (by decide))), f228 10 (by decide)])
        have q241e : (σ226 10 (σ226 9 1).toNatClampNeg).toInt = (σ 10 (σ 9 1).toNatClampNeg).toInt := by rw [← q240, ← q241]
        have q241 := q241.symm
        subst q241
        refine jcallS (As := [.int (σ 10 (σ 9 1).toNatClampNeg)]) (rest := []) ⟨hx, hb, hml, hown, hts⟩ hK hP hA hS hZ (c_X7_isDigit l D cI cL ad zz hJ σ226 τ (σ 10 (σ 9 1).toNatClampNeg) ((σ 10 (σ 9 1).toNatClampNeg).toInt) rfl) cw_RX7_39 ⟨Nat.le_of_ble_eq_true rfl, Nat.le_of_ble_eq_true rfl⟩ rfl rfl rfl hl.1 rfl (Nat.le_of_ble_eq_true rfl) dX7_number_31 ⟨Nat.zero_le _, Nat.zero_le _⟩ (fun r243 σ242 τ242 H locs h242 hP hS => ?_)
        obtain ⟨⟨rfl, rfl⟩, h242⟩ := h242
        rcases h242 with h244 | h245
        · obtain ⟨q247, k246⟩ := h244
          have q247 := q247.symm
          subst q247
          refine lv_if_eq (tgt := 68) hx hb dX7_number_34 (by decide) (fun c => absurd c (by decide)) (fun _ => ?_)
          refine lv_iload_n hx hb dX7_number_37 rfl (lv_at hl 1 rfl) ?_
          refine lv_bipush (v := 10) hx hb dX7_number_38 (by decide) ?_
          refine lv_imul hx hb dX7_number_40 ?_
          refine jtopr (y := 0) (by decide) ?_
          refine lv_aload_n hx hb dX7_number_41 rfl (lv_at hl 2 rfl) ?_
          refine va_get (D := D) hx hb hts inlX7 hown hK hP 9 (jc_9 cI cL ad σ226 τ) rfl 3 (by decide) (hts _ kw_3_20) (fun _ h9 => h9) rfl dX7_number_42 ?_
          refine lv_aload_n hx hb dX7_number_45 rfl (lv_at hl 2 rfl) ?_
          refine lv_dup hx hb dX7_number_46 rfl ?_
          refine va_get (D := D) hx hb hts inlX7 hown hK hP 9 (jc_9 cI cL ad σ226 τ) rfl 1 (by decide) (hts _ kw_13_17) (fun _ h9 => h9) rfl dX7_number_47 ?_
          have m248 : σ226 9 1 = (σ 9 1) := (f229 1 (by decide))
          refine jtopr m248 ?_
          refine lv_dup_x1 hx hb dX7_number_50 rfl rfl ?_
          refine lv_iconst (v := 1) hx hb dX7_number_51 (by decide) ?_
          have g249 := jrg (rfl : (σ 9 1).toInt = (σ 9 1).toInt)
          refine lv_iadd hx hb dX7_number_52 ?_
          refine lv_topi (fun x250 ex250 => ?_)
          have tx250 : x250.toInt = (σ 9 1).toInt + 1 := (jadd ex250 rfl jz_1 (by omega) (by omega)).trans (by omega)
          refine jput (ty := .int) hx hb hts inlX7 tyX7 tyX7_ok nmX7 hown hK hP hJ hA hS (jc_9 cI cL ad σ226 τ) rfl (k := 1) (by decide) (Nat.le_of_ble_eq_true rfl) (jp_9_1 cI cL ad σ226 τ x250) (hts _ kw_13_17) (fun _ h9 => h9) rfl (by decide +kernel) rfl rfl dX7_number_53 (fun σ251 H locs eσ251 hP hS => ?_)
          refine jald hx hb hK hP (jc_10 cI cL ad σ251 τ) (jin rfl (by omega) (by omega)) dX7_number_56 ?_
          refine jtopr (y := (σ 10 (σ 9 1).toNatClampNeg)) (by rw [jnp 10 eσ251 (by decide), f228 10 (by decide)]) ?_
          refine lv_iadd hx hb dX7_number_57 ?_
          refine jtopr (y := (σ 10 (σ 9 1).toNatClampNeg)) (by rw [Int32.zero_add]) ?_
          refine lv_bipush (v := 48) hx hb dX7_number_58 (by decide) ?_
          have g252 := jrg (rfl : (σ 10 (σ 9 1).toNatClampNeg).toInt = (σ 10 (σ 9 1).toNatClampNeg).toInt)
          refine lv_isub hx hb dX7_number_60 ?_
          refine lv_topi (fun x253 ex253 => ?_)
          have tx253 : x253.toInt = (σ 10 (σ 9 1).toNatClampNeg).toInt - 48 := (jsub ex253 rfl jz_48 (by omega) (by omega)).trans (by omega)
          refine lv_istore_n (lv' := [(2, .int x253), (3, .int 0), (0, .ref (ad 9)), (1, .int 4)]) hx hb dX7_number_61 rfl hl (by decide) rfl (fun ls hl => ?_)
          refine lv_iinc (v := 1) (lv' := [(3, .int 1), (2, .int x253), (0, .ref (ad 9)), (1, .int 4)]) hx hb dX7_number_62 hl (k := 1) rfl (by decide) (by decide) rfl (fun ls hl => ?_)
          refine lv_goto (tgt := 22) hx hb dX7_number_65 (by decide) ?_
          refine lv_iload_n hx hb dX7_number_22 rfl (lv_at hl 0 rfl) ?_
          refine lv_iload_n hx hb dX7_number_23 rfl (lv_at hl 3 rfl) ?_
          refine lv_icmp_ge (tgt := 68) hx hb dX7_number_24 (by decide) (fun c => absurd c (by decide)) (fun _ => ?_)
          refine lv_aload_n hx hb dX7_number_27 rfl (lv_at hl 2 rfl) ?_
          have I254 : jI9 σ251 := jI9_fr (jkp 0 eσ251 (by decide)) (jnp 10 eσ251 (by decide)) (jnp 11 eσ251 (by decide)) I231
          have z255 : (σ251 9 1).toInt = (σ 9 1).toInt + 1 := ((congrArg Int32.toInt (show σ251 9 1 = x250 from (jsp eσ251))).trans tx250)
          have z256 : (σ251 9 0).toInt = (σ 9 0).toInt := (congrArg Int32.toInt (show σ251 9 0 = (σ 9 0) from ((jkp 0 eσ251 (by decide)).trans (f229 0 (by decide)))))
          refine jcallV (As := []) (rest := []) ⟨hx, hb, hml, hown, hts⟩ hK hP hA hS hZ (c_X7_sign_9 l D cI cL ad zz hJ σ251 τ I254) cw_RX7_35 (jc_9 cI cL ad σ251 τ) rfl ⟨Nat.le_of_ble_eq_true rfl, Nat.le_of_ble_eq_true rfl⟩ rfl rfl rfl hl.1 rfl (Nat.le_of_ble_eq_true rfl) dX7_number_28 ⟨Nat.zero_le _, Nat.zero_le _⟩ (fun r258 σ257 τ257 H locs h257 hP hS => ?_)
          obtain ⟨⟨rfl, rfl⟩, h257⟩ := h257
          rcases h257 with h259 | h260
          · obtain ⟨q263, k261, k262⟩ := h259
            exact absurd (by omega : False) id
          · obtain ⟨q265, k264⟩ := h260
            have q265 := q265.symm
            subst q265
            refine jcallS (As := [.int (-1)]) (rest := []) ⟨hx, hb, hml, hown, hts⟩ hK hP hA hS hZ (c_X7_isDigit l D cI cL ad zz hJ σ251 τ (-1) ((-1)) jz_m1) cw_RX7_39 ⟨Nat.le_of_ble_eq_true rfl, Nat.le_of_ble_eq_true rfl⟩ rfl rfl rfl hl.1 rfl (Nat.le_of_ble_eq_true rfl) dX7_number_31 ⟨Nat.zero_le _, Nat.zero_le _⟩ (fun r267 σ266 τ266 H locs h266 hP hS => ?_)
            obtain ⟨⟨rfl, rfl⟩, h266⟩ := h266
            rcases h266 with h268 | h269
            · obtain ⟨q271, k270⟩ := h268
              exact absurd (by omega : False) id
            · obtain ⟨q273, k272⟩ := h269
              have q273 := q273.symm
              subst q273
              refine lv_if_eq (tgt := 68) hx hb dX7_number_34 (by decide) (fun _ => ?_) (fun c => absurd (by decide) c)
              refine lv_iload_n hx hb dX7_number_68 rfl (lv_at hl 1 rfl) ?_
              have I274 : jI91 σ251 := ⟨(by omega), (by omega)⟩
              have z275 : (σ251 9 2).toInt = (σ226 9 2).toInt := (congrArg Int32.toInt (show σ251 9 2 = (σ226 9 2) from (jkp 2 eσ251 (by decide))))
              have I276 : jI92 σ251 := (show (-1) ≤ (σ251 9 2).toInt by omega)
              exact hret x253 σ251 τ _ _ _ _ rfl ⟨rfl, (fun i hi => ((jnp i eσ251 (imp_37 i hi)).trans (f228 i hi))), (fun i hi => ((jkp i eσ251 (imp_39 i hi)).trans (f229 i (imp_43 i hi)))), I254, I274, I276, (by omega), ⟨trivial, (by have h9 := tx253; omega)⟩⟩ hP hS dX7_number_69
        · obtain ⟨q278, k277⟩ := h245
          have q278 := q278.symm
          subst q278
          refine lv_if_eq (tgt := 68) hx hb dX7_number_34 (by decide) (fun _ => ?_) (fun c => absurd (by decide) c)
          refine lv_iload_n hx hb dX7_number_68 rfl (lv_at hl 1 rfl) ?_
          have I279 : jI91 σ226 := jI91_fr (f229 0 (by decide)) (f229 1 (by decide)) hI91
          have I280 : jI92 σ226 := (show (-1) ≤ (σ226 9 2).toInt by omega)
          exact hret 0 σ226 τ _ _ _ _ rfl ⟨rfl, (fun i hi => (f228 i hi)), (fun i hi => (f229 i (imp_43 i hi))), I231, I279, I280, (by omega), ⟨trivial, (by have h9 := jz_0; omega)⟩⟩ hP hS dX7_number_69
      · obtain ⟨q282, k281⟩ := h237
        have q282 := q282.symm
        subst q282
        refine jcallS (As := [.int (-1)]) (rest := []) ⟨hx, hb, hml, hown, hts⟩ hK hP hA hS hZ (c_X7_isDigit l D cI cL ad zz hJ σ226 τ (-1) ((-1)) jz_m1) cw_RX7_39 ⟨Nat.le_of_ble_eq_true rfl, Nat.le_of_ble_eq_true rfl⟩ rfl rfl rfl hl.1 rfl (Nat.le_of_ble_eq_true rfl) dX7_number_31 ⟨Nat.zero_le _, Nat.zero_le _⟩ (fun r284 σ283 τ283 H locs h283 hP hS => ?_)
        obtain ⟨⟨rfl, rfl⟩, h283⟩ := h283
        rcases h283 with h285 | h286
        · obtain ⟨q288, k287⟩ := h285
          exact absurd (by omega : False) id
        · obtain ⟨q290, k289⟩ := h286
          have q290 := q290.symm
          subst q290
          refine lv_if_eq (tgt := 68) hx hb dX7_number_34 (by decide) (fun _ => ?_) (fun c => absurd (by decide) c)
          refine lv_iload_n hx hb dX7_number_68 rfl (lv_at hl 1 rfl) ?_
          have I291 : jI91 σ226 := jI91_fr (f229 0 (by decide)) (f229 1 (by decide)) hI91
          have I292 : jI92 σ226 := (show (-1) ≤ (σ226 9 2).toInt by omega)
          exact hret 0 σ226 τ _ _ _ _ rfl ⟨rfl, (fun i hi => (f228 i hi)), (fun i hi => (f229 i (imp_43 i hi))), I231, I291, I292, (by omega), ⟨trivial, (by have h9 := jz_0; omega)⟩⟩ hP hS dX7_number_69
set_option maxHeartbeats 4000000 in
set_option maxRecDepth 100000 in
theorem c_X7_levelOf (l : Launch) (D : va_G) (cI cL : ClassId) (ad zz : Nat → Nat) (hJ : jD ad) (σ : Nat → Nat → Int32) (τ : Nat → Nat → Int64) (a1 : Int32) (A1 : Int) (t1 : a1.toInt = A1) : jM l yX7_levelOf cX7_levelOf 1 (some .int) ({ frames := 0, cells := 0, slots := 0, locals := 0 }) D cI cL ad zz [.int a1] σ τ (fun r σ' τ' => (σ = σ' ∧ τ = τ') ∧ ((r = 0 ∧ (A1 = 124)) ∨ (r = 1 ∧ (A1 = 38)) ∨ (r = 2 ∧ (A1 = 60)) ∨ (r = 2 ∧ (A1 = 61)) ∨ (r = 2 ∧ (A1 = 62)) ∨ (r = 3 ∧ (A1 = 43)) ∨ (r = 3 ∧ (A1 = 45)) ∨ (r = 4 ∧ (A1 = 42)) ∨ (r = 4 ∧ (A1 = 47)) ∨ (r = 4 ∧ (A1 = 37)) ∨ (r = 5 ∧ True))) := by
  refine jM.of hJ (by decide +kernel) (nt := .int) rfl (Nat.le_of_ble_eq_true rfl) ?_
  intro p e s m args below meth c Q ls hC hret hl hP
  obtain ⟨hx, hb, hr, hml, hown, hts, hK, -, hlocks, hZ⟩ := hC
  have hown : s.vm.findClass RX7 = some m.cls := hown
  have hS : va_S (jA ad) s.heap s.heap [] := va_S.rf
  have hA : ∀ q, jA ad q → jA ad q := fun _ h => h
  have hl : lv_has ls 1 [(0, .int a1)] := hl
  have g1 := jrg t1
  refine lv_iload_n hx hb dX7_levelOf_0 rfl (lv_at hl 0 rfl) ?_
  by_cases c1 : a1 = 37
  · have kc1 := jeq c1 t1 jz_37
    refine jtopr c1 ?_
    refine lv_lookup (off := 99) (tgt := 100) hx hb dX7_levelOf_1 (by decide) (by decide) (by decide) ?_
    refine lv_iconst (v := 4) hx hb dX7_levelOf_100 (by decide) ?_
    exact hret 4 σ τ _ _ _ _ rfl ⟨⟨rfl, rfl⟩, Or.inr (Or.inr (Or.inr (Or.inr (Or.inr (Or.inr (Or.inr (Or.inr (Or.inr (Or.inl ⟨rfl, (by have h9 := jz_4; omega)⟩)))))))))⟩ hP hS dX7_levelOf_101
  have kc1 := jne c1 t1 jz_37
  by_cases c2 : a1 = 38
  · have kc2 := jeq c2 t1 jz_38
    refine jtopr c2 ?_
    refine lv_lookup (off := 93) (tgt := 94) hx hb dX7_levelOf_1 (by decide) (by decide) (by decide) ?_
    refine lv_iconst (v := 1) hx hb dX7_levelOf_94 (by decide) ?_
    exact hret 1 σ τ _ _ _ _ rfl ⟨⟨rfl, rfl⟩, Or.inr (Or.inl ⟨rfl, (by have h9 := jz_1; omega)⟩)⟩ hP hS dX7_levelOf_95
  have kc2 := jne c2 t1 jz_38
  by_cases c3 : a1 = 42
  · have kc3 := jeq c3 t1 jz_42
    refine jtopr c3 ?_
    refine lv_lookup (off := 99) (tgt := 100) hx hb dX7_levelOf_1 (by decide) (by decide) (by decide) ?_
    refine lv_iconst (v := 4) hx hb dX7_levelOf_100 (by decide) ?_
    exact hret 4 σ τ _ _ _ _ rfl ⟨⟨rfl, rfl⟩, Or.inr (Or.inr (Or.inr (Or.inr (Or.inr (Or.inr (Or.inr (Or.inl ⟨rfl, (by have h9 := jz_4; omega)⟩)))))))⟩ hP hS dX7_levelOf_101
  have kc3 := jne c3 t1 jz_42
  by_cases c4 : a1 = 43
  · have kc4 := jeq c4 t1 jz_43
    refine jtopr c4 ?_
    refine lv_lookup (off := 97) (tgt := 98) hx hb dX7_levelOf_1 (by decide) (by decide) (by decide) ?_
    refine lv_iconst (v := 3) hx hb dX7_levelOf_98 (by decide) ?_
    exact hret 3 σ τ _ _ _ _ rfl ⟨⟨rfl, rfl⟩, Or.inr (Or.inr (Or.inr (Or.inr (Or.inr (Or.inl ⟨rfl, (by have h9 := jz_3; omega)⟩)))))⟩ hP hS dX7_levelOf_99
  have kc4 := jne c4 t1 jz_43
  by_cases c5 : a1 = 45
  · have kc5 := jeq c5 t1 jz_45
    refine jtopr c5 ?_
    refine lv_lookup (off := 97) (tgt := 98) hx hb dX7_levelOf_1 (by decide) (by decide) (by decide) ?_
    refine lv_iconst (v := 3) hx hb dX7_levelOf_98 (by decide) ?_
    exact hret 3 σ τ _ _ _ _ rfl ⟨⟨rfl, rfl⟩, Or.inr (Or.inr (Or.inr (Or.inr (Or.inr (Or.inr (Or.inl ⟨rfl, (by have h9 := jz_3; omega)⟩))))))⟩ hP hS dX7_levelOf_99
  have kc5 := jne c5 t1 jz_45
  by_cases c6 : a1 = 47
  · have kc6 := jeq c6 t1 jz_47
    refine jtopr c6 ?_
    refine lv_lookup (off := 99) (tgt := 100) hx hb dX7_levelOf_1 (by decide) (by decide) (by decide) ?_
    refine lv_iconst (v := 4) hx hb dX7_levelOf_100 (by decide) ?_
    exact hret 4 σ τ _ _ _ _ rfl ⟨⟨rfl, rfl⟩, Or.inr (Or.inr (Or.inr (Or.inr (Or.inr (Or.inr (Or.inr (Or.inr (Or.inl ⟨rfl, (by have h9 := jz_4; omega)⟩))))))))⟩ hP hS dX7_levelOf_101
  have kc6 := jne c6 t1 jz_47
  by_cases c7 : a1 = 60
  · have kc7 := jeq c7 t1 jz_60
    refine jtopr c7 ?_
    refine lv_lookup (off := 95) (tgt := 96) hx hb dX7_levelOf_1 (by decide) (by decide) (by decide) ?_
    refine lv_iconst (v := 2) hx hb dX7_levelOf_96 (by decide) ?_
    exact hret 2 σ τ _ _ _ _ rfl ⟨⟨rfl, rfl⟩, Or.inr (Or.inr (Or.inl ⟨rfl, (by have h9 := jz_2; omega)⟩))⟩ hP hS dX7_levelOf_97
  have kc7 := jne c7 t1 jz_60
  by_cases c8 : a1 = 61
  · have kc8 := jeq c8 t1 jz_61
    refine jtopr c8 ?_
    refine lv_lookup (off := 95) (tgt := 96) hx hb dX7_levelOf_1 (by decide) (by decide) (by decide) ?_
    refine lv_iconst (v := 2) hx hb dX7_levelOf_96 (by decide) ?_
    exact hret 2 σ τ _ _ _ _ rfl ⟨⟨rfl, rfl⟩, Or.inr (Or.inr (Or.inr (Or.inl ⟨rfl, (by have h9 := jz_2; omega)⟩)))⟩ hP hS dX7_levelOf_97
  have kc8 := jne c8 t1 jz_61
  by_cases c9 : a1 = 62
  · have kc9 := jeq c9 t1 jz_62
    refine jtopr c9 ?_
    refine lv_lookup (off := 95) (tgt := 96) hx hb dX7_levelOf_1 (by decide) (by decide) (by decide) ?_
    refine lv_iconst (v := 2) hx hb dX7_levelOf_96 (by decide) ?_
    exact hret 2 σ τ _ _ _ _ rfl ⟨⟨rfl, rfl⟩, Or.inr (Or.inr (Or.inr (Or.inr (Or.inl ⟨rfl, (by have h9 := jz_2; omega)⟩))))⟩ hP hS dX7_levelOf_97
  have kc9 := jne c9 t1 jz_62
  by_cases c10 : a1 = 124
  · have kc10 := jeq c10 t1 jz_124
    refine jtopr c10 ?_
    refine lv_lookup (off := 91) (tgt := 92) hx hb dX7_levelOf_1 (by decide) (by decide) (by decide) ?_
    refine lv_iconst (v := 0) hx hb dX7_levelOf_92 (by decide) ?_
    exact hret 0 σ τ _ _ _ _ rfl ⟨⟨rfl, rfl⟩, Or.inl ⟨rfl, (by have h9 := jz_0; omega)⟩⟩ hP hS dX7_levelOf_93
  have kc10 := jne c10 t1 jz_124
  refine lv_lookup (off := 101) (tgt := 102) hx hb dX7_levelOf_1 (by decide) (jlook (fun p hp => by have h9 := t1; simp only [List.mem_cons, List.not_mem_nil, or_false] at hp; rcases hp with hp | hp | hp | hp | hp | hp | hp | hp | hp | hp <;> subst hp <;> simp only [] <;> omega)) (by decide) ?_
  refine lv_iconst (v := 5) hx hb dX7_levelOf_102 (by decide) ?_
  exact hret 5 σ τ _ _ _ _ rfl ⟨⟨rfl, rfl⟩, Or.inr (Or.inr (Or.inr (Or.inr (Or.inr (Or.inr (Or.inr (Or.inr (Or.inr (Or.inr (⟨rfl, trivial⟩))))))))))⟩ hP hS dX7_levelOf_103
set_option maxHeartbeats 4000000 in
set_option maxRecDepth 100000 in
theorem c_X7_nameOf (l : Launch) (D : va_G) (cI cL : ClassId) (ad zz : Nat → Nat) (hJ : jD ad) (σ : Nat → Nat → Int32) (τ : Nat → Nat → Int64) (a1 : Int32) (A1 : Int) (t1 : a1.toInt = A1) : jM l yX7_nameOf cX7_nameOf 1 (some .int) ({ frames := 0, cells := 0, slots := 0, locals := 0 }) D cI cL ad zz [.int a1] σ τ (fun r σ' τ' => (σ = σ' ∧ τ = τ') ∧ ((True ∧ (0 ≤ r.toInt ∧ r.toInt ≤ 7) ∧ (0 ≤ A1)) ∨ (r = (-1) ∧ True))) := by
  refine jM.of hJ (by decide +kernel) (nt := .int) rfl (Nat.le_of_ble_eq_true rfl) ?_
  intro p e s m args below meth c Q ls hC hret hl hP
  obtain ⟨hx, hb, hr, hml, hown, hts, hK, -, hlocks, hZ⟩ := hC
  have hown : s.vm.findClass RX7 = some m.cls := hown
  have hS : va_S (jA ad) s.heap s.heap [] := va_S.rf
  have hA : ∀ q, jA ad q → jA ad q := fun _ h => h
  have hl : lv_has ls 1 [(0, .int a1)] := hl
  have g1 := jrg t1
  refine lv_iload_n hx hb dX7_nameOf_0 rfl (lv_at hl 0 rfl) ?_
  by_cases c1 : a1 = 98
  · have kc1 := jeq c1 t1 jz_98
    refine jtopr c1 ?_
    refine lv_tableIn (off := 109) (tgt := 110) hx hb dX7_nameOf_1 (by decide) (by decide) (by decide) (by decide) ?_
    refine lv_iconst (v := 3) hx hb dX7_nameOf_110 (by decide) ?_
    exact hret 3 σ τ _ _ _ _ rfl ⟨⟨rfl, rfl⟩, Or.inl ⟨trivial, (by have h9 := jz_3; omega), (by have h9 := jz_3; omega)⟩⟩ hP hS dX7_nameOf_111
  have kc1 := jne c1 t1 jz_98
  by_cases c2 : a1 = 99
  · have kc2 := jeq c2 t1 jz_99
    refine jtopr c2 ?_
    refine lv_tableIn (off := 121) (tgt := 122) hx hb dX7_nameOf_1 (by decide) (by decide) (by decide) (by decide) ?_
    refine lv_iconst (v := (-1)) hx hb dX7_nameOf_122 (by decide) ?_
    exact hret (-1) σ τ _ _ _ _ rfl ⟨⟨rfl, rfl⟩, Or.inr (⟨rfl, trivial⟩)⟩ hP hS dX7_nameOf_123
  have kc2 := jne c2 t1 jz_99
  by_cases c3 : a1 = 100
  · have kc3 := jeq c3 t1 jz_100
    refine jtopr c3 ?_
    refine lv_tableIn (off := 121) (tgt := 122) hx hb dX7_nameOf_1 (by decide) (by decide) (by decide) (by decide) ?_
    refine lv_iconst (v := (-1)) hx hb dX7_nameOf_122 (by decide) ?_
    exact hret (-1) σ τ _ _ _ _ rfl ⟨⟨rfl, rfl⟩, Or.inr (⟨rfl, trivial⟩)⟩ hP hS dX7_nameOf_123
  have kc3 := jne c3 t1 jz_100
  by_cases c4 : a1 = 101
  · have kc4 := jeq c4 t1 jz_101
    refine jtopr c4 ?_
    refine lv_tableIn (off := 121) (tgt := 122) hx hb dX7_nameOf_1 (by decide) (by decide) (by decide) (by decide) ?_
    refine lv_iconst (v := (-1)) hx hb dX7_nameOf_122 (by decide) ?_
    exact hret (-1) σ τ _ _ _ _ rfl ⟨⟨rfl, rfl⟩, Or.inr (⟨rfl, trivial⟩)⟩ hP hS dX7_nameOf_123
  have kc4 := jne c4 t1 jz_101
  by_cases c5 : a1 = 102
  · have kc5 := jeq c5 t1 jz_102
    refine jtopr c5 ?_
    refine lv_tableIn (off := 121) (tgt := 122) hx hb dX7_nameOf_1 (by decide) (by decide) (by decide) (by decide) ?_
    refine lv_iconst (v := (-1)) hx hb dX7_nameOf_122 (by decide) ?_
    exact hret (-1) σ τ _ _ _ _ rfl ⟨⟨rfl, rfl⟩, Or.inr (⟨rfl, trivial⟩)⟩ hP hS dX7_nameOf_123
  have kc5 := jne c5 t1 jz_102
  by_cases c6 : a1 = 103
  · have kc6 := jeq c6 t1 jz_103
    refine jtopr c6 ?_
    refine lv_tableIn (off := 121) (tgt := 122) hx hb dX7_nameOf_1 (by decide) (by decide) (by decide) (by decide) ?_
    refine lv_iconst (v := (-1)) hx hb dX7_nameOf_122 (by decide) ?_
    exact hret (-1) σ τ _ _ _ _ rfl ⟨⟨rfl, rfl⟩, Or.inr (⟨rfl, trivial⟩)⟩ hP hS dX7_nameOf_123
  have kc6 := jne c6 t1 jz_103
  by_cases c7 : a1 = 104
  · have kc7 := jeq c7 t1 jz_104
    refine jtopr c7 ?_
    refine lv_tableIn (off := 121) (tgt := 122) hx hb dX7_nameOf_1 (by decide) (by decide) (by decide) (by decide) ?_
    refine lv_iconst (v := (-1)) hx hb dX7_nameOf_122 (by decide) ?_
    exact hret (-1) σ τ _ _ _ _ rfl ⟨⟨rfl, rfl⟩, Or.inr (⟨rfl, trivial⟩)⟩ hP hS dX7_nameOf_123
  have kc7 := jne c7 t1 jz_104
  by_cases c8 : a1 = 105
  · have kc8 := jeq c8 t1 jz_105
    refine jtopr c8 ?_
    refine lv_tableIn (off := 121) (tgt := 122) hx hb dX7_nameOf_1 (by decide) (by decide) (by decide) (by decide) ?_
    refine lv_iconst (v := (-1)) hx hb dX7_nameOf_122 (by decide) ?_
    exact hret (-1) σ τ _ _ _ _ rfl ⟨⟨rfl, rfl⟩, Or.inr (⟨rfl, trivial⟩)⟩ hP hS dX7_nameOf_123
  have kc8 := jne c8 t1 jz_105
  by_cases c9 : a1 = 106
  · have kc9 := jeq c9 t1 jz_106
    refine jtopr c9 ?_
    refine lv_tableIn (off := 121) (tgt := 122) hx hb dX7_nameOf_1 (by decide) (by decide) (by decide) (by decide) ?_
    refine lv_iconst (v := (-1)) hx hb dX7_nameOf_122 (by decide) ?_
    exact hret (-1) σ τ _ _ _ _ rfl ⟨⟨rfl, rfl⟩, Or.inr (⟨rfl, trivial⟩)⟩ hP hS dX7_nameOf_123
  have kc9 := jne c9 t1 jz_106
  by_cases c10 : a1 = 107
  · have kc10 := jeq c10 t1 jz_107
    refine jtopr c10 ?_
    refine lv_tableIn (off := 118) (tgt := 119) hx hb dX7_nameOf_1 (by decide) (by decide) (by decide) (by decide) ?_
    refine lv_bipush (v := 7) hx hb dX7_nameOf_119 (by decide) ?_
    exact hret 7 σ τ _ _ _ _ rfl ⟨⟨rfl, rfl⟩, Or.inl ⟨trivial, (by have h9 := jz_7; omega), (by have h9 := jz_7; omega)⟩⟩ hP hS dX7_nameOf_121
  have kc10 := jne c10 t1 jz_107
  by_cases c11 : a1 = 108
  · have kc11 := jeq c11 t1 jz_108
    refine jtopr c11 ?_
    refine lv_tableIn (off := 113) (tgt := 114) hx hb dX7_nameOf_1 (by decide) (by decide) (by decide) (by decide) ?_
    refine lv_iconst (v := 5) hx hb dX7_nameOf_114 (by decide) ?_
    exact hret 5 σ τ _ _ _ _ rfl ⟨⟨rfl, rfl⟩, Or.inl ⟨trivial, (by have h9 := jz_5; omega), (by have h9 := jz_5; omega)⟩⟩ hP hS dX7_nameOf_115
  have kc11 := jne c11 t1 jz_108
  by_cases c12 : a1 = 109
  · have kc12 := jeq c12 t1 jz_109
    refine jtopr c12 ?_
    refine lv_tableIn (off := 121) (tgt := 122) hx hb dX7_nameOf_1 (by decide) (by decide) (by decide) (by decide) ?_
    refine lv_iconst (v := (-1)) hx hb dX7_nameOf_122 (by decide) ?_
    exact hret (-1) σ τ _ _ _ _ rfl ⟨⟨rfl, rfl⟩, Or.inr (⟨rfl, trivial⟩)⟩ hP hS dX7_nameOf_123
  have kc12 := jne c12 t1 jz_109
  by_cases c13 : a1 = 110
  · have kc13 := jeq c13 t1 jz_110
    refine jtopr c13 ?_
    refine lv_tableIn (off := 121) (tgt := 122) hx hb dX7_nameOf_1 (by decide) (by decide) (by decide) (by decide) ?_
    refine lv_iconst (v := (-1)) hx hb dX7_nameOf_122 (by decide) ?_
    exact hret (-1) σ τ _ _ _ _ rfl ⟨⟨rfl, rfl⟩, Or.inr (⟨rfl, trivial⟩)⟩ hP hS dX7_nameOf_123
  have kc13 := jne c13 t1 jz_110
  by_cases c14 : a1 = 111
  · have kc14 := jeq c14 t1 jz_111
    refine jtopr c14 ?_
    refine lv_tableIn (off := 103) (tgt := 104) hx hb dX7_nameOf_1 (by decide) (by decide) (by decide) (by decide) ?_
    refine lv_iconst (v := 0) hx hb dX7_nameOf_104 (by decide) ?_
    exact hret 0 σ τ _ _ _ _ rfl ⟨⟨rfl, rfl⟩, Or.inl ⟨trivial, (by have h9 := jz_0; omega), (by have h9 := jz_0; omega)⟩⟩ hP hS dX7_nameOf_105
  have kc14 := jne c14 t1 jz_111
  by_cases c15 : a1 = 112
  · have kc15 := jeq c15 t1 jz_112
    refine jtopr c15 ?_
    refine lv_tableIn (off := 115) (tgt := 116) hx hb dX7_nameOf_1 (by decide) (by decide) (by decide) (by decide) ?_
    refine lv_bipush (v := 6) hx hb dX7_nameOf_116 (by decide) ?_
    exact hret 6 σ τ _ _ _ _ rfl ⟨⟨rfl, rfl⟩, Or.inl ⟨trivial, (by have h9 := jz_6; omega), (by have h9 := jz_6; omega)⟩⟩ hP hS dX7_nameOf_118
  have kc15 := jne c15 t1 jz_112
  by_cases c16 : a1 = 113
  · have kc16 := jeq c16 t1 jz_113
    refine jtopr c16 ?_
    refine lv_tableIn (off := 121) (tgt := 122) hx hb dX7_nameOf_1 (by decide) (by decide) (by decide) (by decide) ?_
    refine lv_iconst (v := (-1)) hx hb dX7_nameOf_122 (by decide) ?_
    exact hret (-1) σ τ _ _ _ _ rfl ⟨⟨rfl, rfl⟩, Or.inr (⟨rfl, trivial⟩)⟩ hP hS dX7_nameOf_123
  have kc16 := jne c16 t1 jz_113
  by_cases c17 : a1 = 114
  · have kc17 := jeq c17 t1 jz_114
    refine jtopr c17 ?_
    refine lv_tableIn (off := 121) (tgt := 122) hx hb dX7_nameOf_1 (by decide) (by decide) (by decide) (by decide) ?_
    refine lv_iconst (v := (-1)) hx hb dX7_nameOf_122 (by decide) ?_
    exact hret (-1) σ τ _ _ _ _ rfl ⟨⟨rfl, rfl⟩, Or.inr (⟨rfl, trivial⟩)⟩ hP hS dX7_nameOf_123
  have kc17 := jne c17 t1 jz_114
  by_cases c18 : a1 = 115
  · have kc18 := jeq c18 t1 jz_115
    refine jtopr c18 ?_
    refine lv_tableIn (off := 107) (tgt := 108) hx hb dX7_nameOf_1 (by decide) (by decide) (by decide) (by decide) ?_
    refine lv_iconst (v := 2) hx hb dX7_nameOf_108 (by decide) ?_
    exact hret 2 σ τ _ _ _ _ rfl ⟨⟨rfl, rfl⟩, Or.inl ⟨trivial, (by have h9 := jz_2; omega), (by have h9 := jz_2; omega)⟩⟩ hP hS dX7_nameOf_109
  have kc18 := jne c18 t1 jz_115
  by_cases c19 : a1 = 116
  · have kc19 := jeq c19 t1 jz_116
    refine jtopr c19 ?_
    refine lv_tableIn (off := 111) (tgt := 112) hx hb dX7_nameOf_1 (by decide) (by decide) (by decide) (by decide) ?_
    refine lv_iconst (v := 4) hx hb dX7_nameOf_112 (by decide) ?_
    exact hret 4 σ τ _ _ _ _ rfl ⟨⟨rfl, rfl⟩, Or.inl ⟨trivial, (by have h9 := jz_4; omega), (by have h9 := jz_4; omega)⟩⟩ hP hS dX7_nameOf_113
  have kc19 := jne c19 t1 jz_116
  by_cases c20 : a1 = 117
  · have kc20 := jeq c20 t1 jz_117
    refine jtopr c20 ?_
    refine lv_tableIn (off := 121) (tgt := 122) hx hb dX7_nameOf_1 (by decide) (by decide) (by decide) (by decide) ?_
    refine lv_iconst (v := (-1)) hx hb dX7_nameOf_122 (by decide) ?_
    exact hret (-1) σ τ _ _ _ _ rfl ⟨⟨rfl, rfl⟩, Or.inr (⟨rfl, trivial⟩)⟩ hP hS dX7_nameOf_123
  have kc20 := jne c20 t1 jz_117
  by_cases c21 : a1 = 118
  · have kc21 := jeq c21 t1 jz_118
    refine jtopr c21 ?_
    refine lv_tableIn (off := 121) (tgt := 122) hx hb dX7_nameOf_1 (by decide) (by decide) (by decide) (by decide) ?_
    refine lv_iconst (v := (-1)) hx hb dX7_nameOf_122 (by decide) ?_
    exact hret (-1) σ τ _ _ _ _ rfl ⟨⟨rfl, rfl⟩, Or.inr (⟨rfl, trivial⟩)⟩ hP hS dX7_nameOf_123
  have kc21 := jne c21 t1 jz_118
  by_cases c22 : a1 = 119
  · have kc22 := jeq c22 t1 jz_119
    refine jtopr c22 ?_
    refine lv_tableIn (off := 105) (tgt := 106) hx hb dX7_nameOf_1 (by decide) (by decide) (by decide) (by decide) ?_
    refine lv_iconst (v := 1) hx hb dX7_nameOf_106 (by decide) ?_
    exact hret 1 σ τ _ _ _ _ rfl ⟨⟨rfl, rfl⟩, Or.inl ⟨trivial, (by have h9 := jz_1; omega), (by have h9 := jz_1; omega)⟩⟩ hP hS dX7_nameOf_107
  have kc22 := jne c22 t1 jz_119
  refine lv_tableOut (tgt := 122) hx hb dX7_nameOf_1 (by rw [t1]; omega) (by decide) ?_
  refine lv_iconst (v := (-1)) hx hb dX7_nameOf_122 (by decide) ?_
  exact hret (-1) σ τ _ _ _ _ rfl ⟨⟨rfl, rfl⟩, Or.inr (⟨rfl, trivial⟩)⟩ hP hS dX7_nameOf_123
set_option maxHeartbeats 4000000 in
set_option maxRecDepth 100000 in
theorem c_X7_readOrder_9 (l : Launch) (D : va_G) (cI cL : ClassId) (ad zz : Nat → Nat) (hJ : jD ad) (σ : Nat → Nat → Int32) (τ : Nat → Nat → Int64) (hI9 : jI9 σ) (hI16 : jI16 σ) : jM l yX7_readOrder cX7_readOrder 6 (some .int) ({ frames := 2, cells := 0, slots := 0, locals := 44 }) D cI cL ad zz [.ref (ad 9), .ref (ad 16)] σ τ (fun r σ' τ' => τ = τ' ∧ (∀ i : Nat, (i < 9 ∨ 9 < i) ∧ (i < 11 ∨ 11 < i) ∧ (i < 16 ∨ 17 < i) → σ' i = σ i) ∧ (∀ k : Nat, (k < 0 ∨ 0 < k) ∧ (k < 1 ∨ 1 < k) ∧ (k < 2 ∨ 2 < k) → σ' 9 k = σ 9 k) ∧ (∀ k : Nat, (k < 0 ∨ 0 < k) ∧ (k < 1 ∨ 1 < k) ∧ (k < 2 ∨ 2 < k) → σ' 16 k = σ 16 k) ∧ (jI9 σ') ∧ (jI16 σ') ∧ ((σ' 9 0).toInt = 0) ∧ True) := by
  refine jM.of hJ (by decide +kernel) (nt := .int) rfl (Nat.le_of_ble_eq_true rfl) ?_
  intro p e s m args below meth c Q ls hC hret hl hP
  obtain ⟨hx, hb, hr, hml, hown, hts, hK, -, hlocks, hZ⟩ := hC
  have hown : s.vm.findClass RX7 = some m.cls := hown
  have hS : va_S (jA ad) s.heap s.heap [] := va_S.rf
  have hA : ∀ q, jA ad q → jA ad q := fun _ h => h
  have hl : lv_has ls 6 [(0, .ref (ad 9)), (1, .ref (ad 16))] := hl
  obtain ⟨i1, w2, w3⟩ : (0 ≤ (σ 9 0).toInt ∧ (σ 9 0).toInt ≤ 80) ∧ (∀ k : Nat, k < 80 → 0 ≤ (σ 10 k).toInt ∧ (σ 10 k).toInt ≤ 255) ∧ (∀ k : Nat, k < 8 → 0 ≤ (σ 11 k).toInt ∧ (σ 11 k).toInt ≤ 3) := id hI9
  obtain ⟨i4, i5, i6, w7⟩ : (1 ≤ (σ 16 0).toInt ∧ (σ 16 0).toInt ≤ 8) ∧ (1 ≤ (σ 16 1).toInt ∧ (σ 16 1).toInt ≤ 12) ∧ (0 ≤ (σ 16 2).toInt ∧ (σ 16 2).toInt ≤ 999) ∧ (∀ k : Nat, k < 8 → 0 ≤ (σ 17 k).toInt ∧ (σ 17 k).toInt ≤ 3) := id hI16
  refine lv_aload_n hx hb dX7_readOrder_0 rfl (lv_at hl 0 rfl) ?_
  refine jcallVv (As := []) (rest := []) ⟨hx, hb, hml, hown, hts⟩ hK hP hA hS hZ (c_X7_begin_9 l D cI cL ad zz hJ σ τ hI9) cw_RX7_47 (jc_9 cI cL ad σ τ) rfl ⟨Nat.le_of_ble_eq_true rfl, Nat.le_of_ble_eq_true rfl⟩ rfl rfl rfl hl.1 rfl (Nat.le_of_ble_eq_true rfl) dX7_readOrder_1 ⟨Nat.zero_le _, Nat.zero_le _⟩ (fun σ8 τ8 H locs h8 hP hS => ?_)
  obtain ⟨rfl, f10, f11, I12, I13, I14, h8⟩ := h8
  obtain ⟨i15, w16, w17⟩ : (0 ≤ (σ8 9 0).toInt ∧ (σ8 9 0).toInt ≤ 80) ∧ (∀ k : Nat, k < 80 → 0 ≤ (σ8 10 k).toInt ∧ (σ8 10 k).toInt ≤ 255) ∧ (∀ k : Nat, k < 8 → 0 ≤ (σ8 11 k).toInt ∧ (σ8 11 k).toInt ≤ 3) := id I12
  obtain ⟨i18, i19⟩ : (0 ≤ (σ8 9 1).toInt) ∧ ((σ8 9 1).toInt ≤ (σ8 9 0).toInt) := id I13
  have i20 : (-1) ≤ (σ8 9 2).toInt := I14
  have z21 : (σ8 9 0).toInt = (σ 9 0).toInt := (congrArg Int32.toInt (show σ8 9 0 = (σ 9 0) from (f11 0 (by decide))))
  refine lv_iconst (v := 0) hx hb dX7_readOrder_4 (by decide) ?_
  refine lv_istore_n (lv' := [(2, .int 0), (0, .ref (ad 9)), (1, .ref (ad 16))]) hx hb dX7_readOrder_5 rfl hl (by decide) rfl (fun ls hl => ?_)
  refine lv_bipush (v := 8) hx hb dX7_readOrder_6 (by decide) ?_
  refine lv_istore_n (lv' := [(3, .int 8), (2, .int 0), (0, .ref (ad 9)), (1, .ref (ad 16))]) hx hb dX7_readOrder_8 rfl hl (by decide) rfl (fun ls hl => ?_)
  refine lv_iconst (v := 0) hx hb dX7_readOrder_9 (by decide) ?_
  refine lv_istore (lv' := [(4, .int 0), (3, .int 8), (2, .int 0), (0, .ref (ad 9)), (1, .ref (ad 16))]) hx hb dX7_readOrder_10 hl (by decide) rfl (fun ls hl => ?_)
  have lp22 : ∀ (n23 : Nat) (x24 : Int32) (σ25 : Nat → Nat → Int32) (H : Heap) (locs : List Loc) (ls : Array Slot), (-x24.toInt + 8 : Int) < n23 → 0 ≤ x24.toInt → x24.toInt ≤ 8 → 0 ≤ (σ25 9 1).toInt → (σ25 9 1).toInt ≤ (σ25 9 0).toInt → (∀ i : Nat, (i < 9 ∨ 9 < i) ∧ (i < 11 ∨ 11 < i) → σ25 i = σ8 i) → (∀ k : Nat, (k < 1 ∨ 1 < k) → σ25 9 k = σ8 9 k) → jI9 σ25 → jH D cI cL ad σ25 τ H → va_S (jA ad) s.heap H locs → lv_has ls 6 [(4, .int 0), (3, .int 8), (2, .int x24), (0, .ref (ad 9)), (1, .ref (ad 16))] → W p l e ({ frames := 2, cells := 0, slots := 0, locals := 44 }) s m args below meth c H locs 0 0 Q (F0 m 12 ls []) := by
    intro n23
    induction n23 with
    | zero => intro x24 σ25 H locs ls h26 h27 h28 h29 h30; exact absurd h26 (by omega)
    | succ n23 ihlp22 =>
      intro x24 σ25 H locs ls h26 h27 h28 h29 h30 f31 f32 p33 hP hS hl
      obtain ⟨i34, w35, w36⟩ : (0 ≤ (σ25 9 0).toInt ∧ (σ25 9 0).toInt ≤ 80) ∧ (∀ k : Nat, k < 80 → 0 ≤ (σ25 10 k).toInt ∧ (σ25 10 k).toInt ≤ 255) ∧ (∀ k : Nat, k < 8 → 0 ≤ (σ25 11 k).toInt ∧ (σ25 11 k).toInt ≤ 3) := id p33
      have z37 : (σ25 9 0).toInt = (σ 9 0).toInt := (congrArg Int32.toInt (show σ25 9 0 = (σ 9 0) from ((f32 0 (by decide)).trans (f11 0 (by decide)))))
      refine lv_iload_n hx hb dX7_readOrder_12 rfl (lv_at hl 2 rfl) ?_
      refine lv_bipush (v := 8) hx hb dX7_readOrder_13 (by decide) ?_
      refine lv_icmp_ge (tgt := 67) hx hb dX7_readOrder_15 (by decide) (fun c38 => ?_) (fun c38 => ?_)
      · have kc38 := jle c38 jz_8 rfl
        refine lv_iload_n hx hb dX7_readOrder_67 rfl (lv_at hl 2 rfl) ?_
        refine lv_if_ne (tgt := 79) hx hb dX7_readOrder_68 (by decide) (fun c39 => ?_) (fun c => absurd (jeq c rfl jz_0) (by omega))
        have kc39 := jne c39 rfl jz_0
        refine lv_aload_n hx hb dX7_readOrder_79 rfl (lv_at hl 3 rfl) ?_
        refine lv_bipush (v := 58) hx hb dX7_readOrder_80 (by decide) ?_
        have I40 : jI91 σ25 := ⟨(by omega), (by omega)⟩
        have I41 : jI92 σ25 := jI92_fr (f32 2 (by decide)) I14
        refine jcallV (As := [.int 58]) (rest := []) ⟨hx, hb, hml, hown, hts⟩ hK hP hA hS hZ (c_X7_skip_9 l D cI cL ad zz hJ σ25 τ 58 (58) jz_58 p33 I40 I41 (by omega)) cw_RX7_50 (jc_9 cI cL ad σ25 τ) rfl ⟨Nat.le_of_ble_eq_true rfl, Nat.le_of_ble_eq_true rfl⟩ rfl rfl rfl hl.1 rfl (Nat.le_of_ble_eq_true rfl) dX7_readOrder_82 ⟨Nat.zero_le _, Nat.zero_le _⟩ (fun r43 σ42 τ42 H locs h42 hP hS => ?_)
        obtain ⟨rfl, f44, f45, I46, I47, I48, h42⟩ := h42
        obtain ⟨i49, w50, w51⟩ : (0 ≤ (σ42 9 0).toInt ∧ (σ42 9 0).toInt ≤ 80) ∧ (∀ k : Nat, k < 80 → 0 ≤ (σ42 10 k).toInt ∧ (σ42 10 k).toInt ≤ 255) ∧ (∀ k : Nat, k < 8 → 0 ≤ (σ42 11 k).toInt ∧ (σ42 11 k).toInt ≤ 3) := id I46
        obtain ⟨i52, i53⟩ : (0 ≤ (σ42 9 1).toInt) ∧ ((σ42 9 1).toInt ≤ (σ42 9 0).toInt) := id I47
        have i54 : (-1) ≤ (σ42 9 2).toInt := I48
        have z55 : (σ42 9 0).toInt = (σ 9 0).toInt := (congrArg Int32.toInt (show σ42 9 0 = (σ 9 0) from ((f45 0 (by decide)).trans ((f32 0 (by decide)).trans (f11 0 (by decide))))))
        have z56 : (σ42 9 2).toInt = (σ8 9 2).toInt := (congrArg Int32.toInt (show σ42 9 2 = (σ8 9 2) from ((f45 2 (by decide)).trans (f32 2 (by decide)))))
        refine lv_if_eq (tgt := 117) hx hb dX7_readOrder_85 (by decide) (fun c57 => ?_) (fun c57 => ?_)
        · have kc57 := jeq c57 rfl jz_0
          refine lv_aload_n hx hb dX7_readOrder_117 rfl (lv_at hl 3 rfl) ?_
          refine lv_bipush (v := 114) hx hb dX7_readOrder_118 (by decide) ?_
          refine jcallV (As := [.int 114]) (rest := []) ⟨hx, hb, hml, hown, hts⟩ hK hP hA hS hZ (c_X7_skip_9 l D cI cL ad zz hJ σ42 τ 114 (114) jz_114 I46 I47 I48 (by omega)) cw_RX7_50 (jc_9 cI cL ad σ42 τ) rfl ⟨Nat.le_of_ble_eq_true rfl, Nat.le_of_ble_eq_true rfl⟩ rfl rfl rfl hl.1 rfl (Nat.le_of_ble_eq_true rfl) dX7_readOrder_120 ⟨Nat.zero_le _, Nat.zero_le _⟩ (fun r59 σ58 τ58 H locs h58 hP hS => ?_)
          obtain ⟨rfl, f60, f61, I62, I63, I64, h58⟩ := h58
          obtain ⟨i65, w66, w67⟩ : (0 ≤ (σ58 9 0).toInt ∧ (σ58 9 0).toInt ≤ 80) ∧ (∀ k : Nat, k < 80 → 0 ≤ (σ58 10 k).toInt ∧ (σ58 10 k).toInt ≤ 255) ∧ (∀ k : Nat, k < 8 → 0 ≤ (σ58 11 k).toInt ∧ (σ58 11 k).toInt ≤ 3) := id I62
          obtain ⟨i68, i69⟩ : (0 ≤ (σ58 9 1).toInt) ∧ ((σ58 9 1).toInt ≤ (σ58 9 0).toInt) := id I63
          have i70 : (-1) ≤ (σ58 9 2).toInt := I64
          have z71 : (σ58 9 0).toInt = (σ 9 0).toInt := (congrArg Int32.toInt (show σ58 9 0 = (σ 9 0) from ((f61 0 (by decide)).trans ((f45 0 (by decide)).trans ((f32 0 (by decide)).trans (f11 0 (by decide)))))))
          have z72 : (σ58 9 2).toInt = (σ8 9 2).toInt := (congrArg Int32.toInt (show σ58 9 2 = (σ8 9 2) from ((f61 2 (by decide)).trans ((f45 2 (by decide)).trans (f32 2 (by decide))))))
          refine lv_if_eq (tgt := 133) hx hb dX7_readOrder_123 (by decide) (fun c73 => ?_) (fun c73 => ?_)
          · have kc73 := jeq c73 rfl jz_0
            refine lv_aload_n hx hb dX7_readOrder_133 rfl (lv_at hl 3 rfl) ?_
            refine jcallV (As := []) (rest := []) ⟨hx, hb, hml, hown, hts⟩ hK hP hA hS hZ (c_X7_end_9 l D cI cL ad zz hJ σ58 τ I62 I63 I64) cw_RX7_57 (jc_9 cI cL ad σ58 τ) rfl ⟨Nat.le_of_ble_eq_true rfl, Nat.le_of_ble_eq_true rfl⟩ rfl rfl rfl hl.1 rfl (Nat.le_of_ble_eq_true rfl) dX7_readOrder_134 ⟨Nat.zero_le _, Nat.zero_le _⟩ (fun r75 σ74 τ74 H locs h74 hP hS => ?_)
            obtain ⟨rfl, f76, f77, I78, I79, h74⟩ := h74
            obtain ⟨i80, w81, w82⟩ : (0 ≤ (σ74 9 0).toInt ∧ (σ74 9 0).toInt ≤ 80) ∧ (∀ k : Nat, k < 80 → 0 ≤ (σ74 10 k).toInt ∧ (σ74 10 k).toInt ≤ 255) ∧ (∀ k : Nat, k < 8 → 0 ≤ (σ74 11 k).toInt ∧ (σ74 11 k).toInt ≤ 3) := id I78
            have i83 : (-1) ≤ (σ74 9 2).toInt := I79
            obtain ⟨k84, h74⟩ := h74
            rcases h74 with h85 | h86
            · obtain ⟨q88, k87⟩ := h85
              have q88 := q88.symm
              subst q88
              refine lv_istore (lv' := [(5, .int (-1)), (4, .int 0), (3, .int 8), (2, .int x24), (0, .ref (ad 9)), (1, .ref (ad 16))]) hx hb dX7_readOrder_137 hl (by decide) rfl (fun ls hl => ?_)
              refine lv_iload hx hb dX7_readOrder_139 (lv_at hl 0 rfl) ?_
              refine lv_iconst (v := (-1)) hx hb dX7_readOrder_141 (by decide) ?_
              refine lv_icmp_eq (tgt := 148) hx hb dX7_readOrder_142 (by decide) (fun _ => ?_) (fun c => absurd (by decide) c)
              refine lv_aload_n hx hb dX7_readOrder_148 rfl (lv_at hl 5 rfl) ?_
              refine lv_iload_n hx hb dX7_readOrder_149 rfl (lv_at hl 3 rfl) ?_
              refine jput (ty := .int) hx hb hts inlX6 tyX6 tyX6_ok nmX6 hown hK hP hJ hA hS (jc_16 cI cL ad σ74 τ) rfl (k := 0) (by decide) (Nat.le_of_ble_eq_true rfl) (jp_16_0 cI cL ad σ74 τ x24) (hts _ kw_13_18) (fun _ h9 => h9) rfl (by decide +kernel) rfl rfl dX7_readOrder_150 (fun σ89 H locs eσ89 hP hS => ?_)
              refine lv_aload_n hx hb dX7_readOrder_153 rfl (lv_at hl 5 rfl) ?_
              refine lv_iload_n hx hb dX7_readOrder_154 rfl (lv_at hl 2 rfl) ?_
              refine jput (ty := .int) hx hb hts inlX6 tyX6 tyX6_ok nmX6 hown hK hP hJ hA hS (jc_16 cI cL ad σ89 τ) rfl (k := 1) (by decide) (Nat.le_of_ble_eq_true rfl) (jp_16_1 cI cL ad σ89 τ 8) (hts _ kw_13_19) (fun _ h9 => h9) rfl (by decide +kernel) rfl rfl dX7_readOrder_155 (fun σ90 H locs eσ90 hP hS => ?_)
              refine lv_aload_n hx hb dX7_readOrder_158 rfl (lv_at hl 5 rfl) ?_
              refine lv_iload hx hb dX7_readOrder_159 (lv_at hl 1 rfl) ?_
              refine jput (ty := .int) hx hb hts inlX6 tyX6 tyX6_ok nmX6 hown hK hP hJ hA hS (jc_16 cI cL ad σ90 τ) rfl (k := 2) (by decide) (Nat.le_of_ble_eq_true rfl) (jp_16_2 cI cL ad σ90 τ 0) (hts _ kw_13_20) (fun _ h9 => h9) rfl (by decide +kernel) rfl rfl dX7_readOrder_161 (fun σ91 H locs eσ91 hP hS => ?_)
              refine lv_aload_n hx hb dX7_readOrder_164 rfl (lv_at hl 4 rfl) ?_
              refine va_get (D := D) hx hb hts inlX7 hown hK hP 9 (jc_9 cI cL ad σ91 τ) rfl 4 (by decide) (hts _ kw_3_21) (fun _ h9 => h9) rfl dX7_readOrder_165 ?_
              refine lv_iconst (v := 0) hx hb dX7_readOrder_168 (by decide) ?_
              refine lv_aload_n hx hb dX7_readOrder_169 rfl (lv_at hl 5 rfl) ?_
              refine va_get (D := D) hx hb hts inlX6 hown hK hP 16 (jc_16 cI cL ad σ91 τ) rfl 3 (by decide) (hts _ kw_13_21) (fun _ h9 => h9) rfl dX7_readOrder_170 ?_
              refine lv_iconst (v := 0) hx hb dX7_readOrder_173 (by decide) ?_
              refine lv_iload_n hx hb dX7_readOrder_174 rfl (lv_at hl 3 rfl) ?_
              refine jcpyI (q0 := 11) (q1 := 17) hx hb (hml.trans hl.1.symm) hown (hts _ kw_13_22) (hts _ kw_13_23) (hts _ kw_14_0) (hts _ kw_14_1) hK hP hJ hA hS (jc_11 cI cL ad σ91 τ) (jc_17 cI cL ad σ91 τ) (fun _ => rfl) jz_0 jz_0 rfl (by omega) (by omega) (by omega) (by omega) (by omega) (Nat.le_of_ble_eq_true rfl) (Nat.le_of_ble_eq_true rfl) dX7_readOrder_175 (fun σ92 H locs eσ92 hP hS => ?_)
              have w93 : ∀ k : Nat, k < 8 → 0 ≤ (σ91 11 k).toInt ∧ (σ91 11 k).toInt ≤ 3 := (jrr_fr (jnp 11 eσ91 (by decide)) (jrr_fr (jnp 11 eσ90 (by decide)) (jrr_fr (jnp 11 eσ89 (by decide)) w82)))
              have w94 : ∀ k : Nat, k < 8 → 0 ≤ (σ91 17 k).toInt ∧ (σ91 17 k).toInt ≤ 3 := (jrr_fr (jnp 17 eσ91 (by decide)) (jrr_fr (jnp 17 eσ90 (by decide)) (jrr_fr (jnp 17 eσ89 (by decide)) (jrr_fr (f76 17 (by decide)) (jrr_fr (f60 17 (by decide)) (jrr_fr (f44 17 (by decide)) (jrr_fr (f31 17 (by decide)) (jrr_fr (f10 17 (by decide)) w7))))))))
              have f95 : (∀ i : Nat, (i < 17 ∨ 17 < i) → σ92 i = σ91 i) := by rw [eσ92]; exact jrow_n
              have w96 : ∀ k : Nat, k < 8 → 0 ≤ (σ92 17 k).toInt ∧ (σ92 17 k).toInt ≤ 3 := by rw [eσ92]; exact jrow_rr w93 w94 jz_0 rfl (n0 := 8) (by omega) (by omega) (by omega)
              refine lv_iconst (v := (-1)) hx hb dX7_readOrder_178 (by decide) ?_
              have I97 : jI9 σ92 := jI9_fr ((congrFun (f95 9 (by decide)) 0).trans ((congrFun (jnp 9 eσ91 (by decide)) 0).trans ((congrFun (jnp 9 eσ90 (by decide)) 0).trans (congrFun (jnp 9 eσ89 (by decide)) 0)))) ((f95 10 (by decide)).trans ((jnp 10 eσ91 (by decide)).trans ((jnp 10 eσ90 (by decide)).trans (jnp 10 eσ89 (by decide))))) ((f95 11 (by decide)).trans ((jnp 11 eσ91 (by decide)).trans ((jnp 11 eσ90 (by decide)).trans (jnp 11 eσ89 (by decide))))) I78
              have z98 : (σ92 16 0).toInt = x24.toInt := (congrArg Int32.toInt (show σ92 16 0 = x24 from ((congrFun (f95 16 (by decide)) 0).trans ((jkp 0 eσ91 (by decide)).trans ((jkp 0 eσ90 (by decide)).trans (jsp eσ89))))))
              have z99 : (σ92 16 1).toInt = 8 := ((congrArg Int32.toInt (show σ92 16 1 = 8 from ((congrFun (f95 16 (by decide)) 1).trans ((jkp 1 eσ91 (by decide)).trans (jsp eσ90))))).trans jz_8)
              have z100 : (σ92 16 2).toInt = 0 := ((congrArg Int32.toInt (show σ92 16 2 = 0 from ((congrFun (f95 16 (by decide)) 2).trans (jsp eσ91)))).trans jz_0)
              have I101 : jI16 σ92 := ⟨(by omega), (by omega), (by omega), w96⟩
              have z102 : (σ92 9 0).toInt = (σ74 9 0).toInt := (congrArg Int32.toInt (show σ92 9 0 = (σ74 9 0) from ((congrFun (f95 9 (by decide)) 0).trans ((congrFun (jnp 9 eσ91 (by decide)) 0).trans ((congrFun (jnp 9 eσ90 (by decide)) 0).trans (congrFun (jnp 9 eσ89 (by decide)) 0))))))
              exact hret (-1) σ92 τ _ _ _ _ rfl ⟨rfl, (fun i hi => ((f95 i (imp_44 i hi)).trans ((jnp i eσ91 (imp_45 i hi)).trans ((jnp i eσ90 (imp_45 i hi)).trans ((jnp i eσ89 (imp_45 i hi)).trans ((f76 i (imp_46 i hi)).trans ((f60 i (imp_46 i hi)).trans ((f44 i (imp_46 i hi)).trans ((f31 i (imp_47 i hi)).trans (f10 i (imp_46 i hi))))))))))), (fun i hi => ((congrFun (f95 9 (by decide)) i).trans ((congrFun (jnp 9 eσ91 (by decide)) i).trans ((congrFun (jnp 9 eσ90 (by decide)) i).trans ((congrFun (jnp 9 eσ89 (by decide)) i).trans ((f77 i (imp_48 i hi)).trans ((f61 i (imp_49 i hi)).trans ((f45 i (imp_49 i hi)).trans ((f32 i (imp_49 i hi)).trans (f11 i (imp_50 i hi))))))))))), (fun i hi => ((congrFun (f95 16 (by decide)) i).trans ((jkp i eσ91 (imp_51 i hi)).trans ((jkp i eσ90 (imp_52 i hi)).trans ((jkp i eσ89 (imp_53 i hi)).trans ((congrFun (f76 16 (by decide)) i).trans ((congrFun (f60 16 (by decide)) i).trans ((congrFun (f44 16 (by decide)) i).trans ((congrFun (f31 16 (by decide)) i).trans (congrFun (f10 16 (by decide)) i)))))))))), I97, I101, (by omega), trivial⟩ hP hS dX7_readOrder_179
            · obtain ⟨q104, k103⟩ := h86
              refine lv_istore (lv' := [(5, .int r75), (4, .int 0), (3, .int 8), (2, .int x24), (0, .ref (ad 9)), (1, .ref (ad 16))]) hx hb dX7_readOrder_137 hl (by decide) rfl (fun ls hl => ?_)
              refine lv_iload hx hb dX7_readOrder_139 (lv_at hl 0 rfl) ?_
              refine lv_iconst (v := (-1)) hx hb dX7_readOrder_141 (by decide) ?_
              refine lv_icmp_eq (tgt := 148) hx hb dX7_readOrder_142 (by decide) (fun c => absurd (jeq c rfl jz_m1) (by omega)) (fun c105 => ?_)
              have kc105 := jne c105 rfl jz_m1
              refine lv_iload hx hb dX7_readOrder_145 (lv_at hl 0 rfl) ?_
              have I106 : jI16 σ74 := jI16_fr ((congrFun (f76 16 (by decide)) 0).trans ((congrFun (f60 16 (by decide)) 0).trans ((congrFun (f44 16 (by decide)) 0).trans ((congrFun (f31 16 (by decide)) 0).trans (congrFun (f10 16 (by decide)) 0))))) ((congrFun (f76 16 (by decide)) 1).trans ((congrFun (f60 16 (by decide)) 1).trans ((congrFun (f44 16 (by decide)) 1).trans ((congrFun (f31 16 (by decide)) 1).trans (congrFun (f10 16 (by decide)) 1))))) ((congrFun (f76 16 (by decide)) 2).trans ((congrFun (f60 16 (by decide)) 2).trans ((congrFun (f44 16 (by decide)) 2).trans ((congrFun (f31 16 (by decide)) 2).trans (congrFun (f10 16 (by decide)) 2))))) ((f76 17 (by decide)).trans ((f60 17 (by decide)).trans ((f44 17 (by decide)).trans ((f31 17 (by decide)).trans (f10 17 (by decide)))))) hI16
              exact hret r75 σ74 τ _ _ _ _ rfl ⟨rfl, (fun i hi => ((f76 i (imp_46 i hi)).trans ((f60 i (imp_46 i hi)).trans ((f44 i (imp_46 i hi)).trans ((f31 i (imp_47 i hi)).trans (f10 i (imp_46 i hi))))))), (fun i hi => ((f77 i (imp_48 i hi)).trans ((f61 i (imp_49 i hi)).trans ((f45 i (imp_49 i hi)).trans ((f32 i (imp_49 i hi)).trans (f11 i (imp_50 i hi))))))), (fun i hi => ((congrFun (f76 16 (by decide)) i).trans ((congrFun (f60 16 (by decide)) i).trans ((congrFun (f44 16 (by decide)) i).trans ((congrFun (f31 16 (by decide)) i).trans (congrFun (f10 16 (by decide)) i)))))), I78, I106, (by omega), trivial⟩ hP hS dX7_readOrder_147
          · have kc73 := jne c73 rfl jz_0
            refine lv_aload_n hx hb dX7_readOrder_126 rfl (lv_at hl 3 rfl) ?_
            refine lv_iconst (v := 3) hx hb dX7_readOrder_127 (by decide) ?_
            refine jcallV (As := [.int 3]) (rest := []) ⟨hx, hb, hml, hown, hts⟩ hK hP hA hS hZ (c_X7_number_3 l D cI cL ad zz hJ σ58 τ I62 I63 I64) cw_RX7_53 (jc_9 cI cL ad σ58 τ) rfl ⟨Nat.le_of_ble_eq_true rfl, Nat.le_of_ble_eq_true rfl⟩ rfl rfl rfl hl.1 rfl (Nat.le_of_ble_eq_true rfl) dX7_readOrder_128 ⟨Nat.zero_le _, Nat.zero_le _⟩ (fun r108 σ107 τ107 H locs h107 hP hS => ?_)
            obtain ⟨rfl, f109, f110, I111, I112, I113, h107⟩ := h107
            obtain ⟨i114, w115, w116⟩ : (0 ≤ (σ107 9 0).toInt ∧ (σ107 9 0).toInt ≤ 80) ∧ (∀ k : Nat, k < 80 → 0 ≤ (σ107 10 k).toInt ∧ (σ107 10 k).toInt ≤ 255) ∧ (∀ k : Nat, k < 8 → 0 ≤ (σ107 11 k).toInt ∧ (σ107 11 k).toInt ≤ 3) := id I111
            obtain ⟨i117, i118⟩ : (0 ≤ (σ107 9 1).toInt) ∧ ((σ107 9 1).toInt ≤ (σ107 9 0).toInt) := id I112
            have i119 : (-1) ≤ (σ107 9 2).toInt := I113
            have z120 : (σ107 9 0).toInt = (σ 9 0).toInt := (congrArg Int32.toInt (show σ107 9 0 = (σ 9 0) from ((f110 0 (by decide)).trans ((f61 0 (by decide)).trans ((f45 0 (by decide)).trans ((f32 0 (by decide)).trans (f11 0 (by decide))))))))
            obtain ⟨k121, h107⟩ := h107
            have h122 := h107
            obtain ⟨q124, k123⟩ := h122
            refine lv_istore (lv' := [(4, .int r108), (3, .int 8), (2, .int x24), (0, .ref (ad 9)), (1, .ref (ad 16))]) hx hb dX7_readOrder_131 hl (by decide) rfl (fun ls hl => ?_)
            refine lv_aload_n hx hb dX7_readOrder_133 rfl (lv_at hl 3 rfl) ?_
            refine jcallV (As := []) (rest := []) ⟨hx, hb, hml, hown, hts⟩ hK hP hA hS hZ (c_X7_end_9 l D cI cL ad zz hJ σ107 τ I111 I112 I113) cw_RX7_57 (jc_9 cI cL ad σ107 τ) rfl ⟨Nat.le_of_ble_eq_true rfl, Nat.le_of_ble_eq_true rfl⟩ rfl rfl rfl hl.1 rfl (Nat.le_of_ble_eq_true rfl) dX7_readOrder_134 ⟨Nat.zero_le _, Nat.zero_le _⟩ (fun r126 σ125 τ125 H locs h125 hP hS => ?_)
            obtain ⟨rfl, f127, f128, I129, I130, h125⟩ := h125
            obtain ⟨i131, w132, w133⟩ : (0 ≤ (σ125 9 0).toInt ∧ (σ125 9 0).toInt ≤ 80) ∧ (∀ k : Nat, k < 80 → 0 ≤ (σ125 10 k).toInt ∧ (σ125 10 k).toInt ≤ 255) ∧ (∀ k : Nat, k < 8 → 0 ≤ (σ125 11 k).toInt ∧ (σ125 11 k).toInt ≤ 3) := id I129
            have i134 : (-1) ≤ (σ125 9 2).toInt := I130
            obtain ⟨k135, h125⟩ := h125
            rcases h125 with h136 | h137
            · obtain ⟨q139, k138⟩ := h136
              have q139 := q139.symm
              subst q139
              refine lv_istore (lv' := [(5, .int (-1)), (4, .int r108), (3, .int 8), (2, .int x24), (0, .ref (ad 9)), (1, .ref (ad 16))]) hx hb dX7_readOrder_137 hl (by decide) rfl (fun ls hl => ?_)
              refine lv_iload hx hb dX7_readOrder_139 (lv_at hl 0 rfl) ?_
              refine lv_iconst (v := (-1)) hx hb dX7_readOrder_141 (by decide) ?_
              refine lv_icmp_eq (tgt := 148) hx hb dX7_readOrder_142 (by decide) (fun _ => ?_) (fun c => absurd (by decide) c)
              refine lv_aload_n hx hb dX7_readOrder_148 rfl (lv_at hl 5 rfl) ?_
              refine lv_iload_n hx hb dX7_readOrder_149 rfl (lv_at hl 3 rfl) ?_
              refine jput (ty := .int) hx hb hts inlX6 tyX6 tyX6_ok nmX6 hown hK hP hJ hA hS (jc_16 cI cL ad σ125 τ) rfl (k := 0) (by decide) (Nat.le_of_ble_eq_true rfl) (jp_16_0 cI cL ad σ125 τ x24) (hts _ kw_13_18) (fun _ h9 => h9) rfl (by decide +kernel) rfl rfl dX7_readOrder_150 (fun σ140 H locs eσ140 hP hS => ?_)
              refine lv_aload_n hx hb dX7_readOrder_153 rfl (lv_at hl 5 rfl) ?_
              refine lv_iload_n hx hb dX7_readOrder_154 rfl (lv_at hl 2 rfl) ?_
              refine jput (ty := .int) hx hb hts inlX6 tyX6 tyX6_ok nmX6 hown hK hP hJ hA hS (jc_16 cI cL ad σ140 τ) rfl (k := 1) (by decide) (Nat.le_of_ble_eq_true rfl) (jp_16_1 cI cL ad σ140 τ 8) (hts _ kw_13_19) (fun _ h9 => h9) rfl (by decide +kernel) rfl rfl dX7_readOrder_155 (fun σ141 H locs eσ141 hP hS => ?_)
              refine lv_aload_n hx hb dX7_readOrder_158 rfl (lv_at hl 5 rfl) ?_
              refine lv_iload hx hb dX7_readOrder_159 (lv_at hl 1 rfl) ?_
              refine jput (ty := .int) hx hb hts inlX6 tyX6 tyX6_ok nmX6 hown hK hP hJ hA hS (jc_16 cI cL ad σ141 τ) rfl (k := 2) (by decide) (Nat.le_of_ble_eq_true rfl) (jp_16_2 cI cL ad σ141 τ r108) (hts _ kw_13_20) (fun _ h9 => h9) rfl (by decide +kernel) rfl rfl dX7_readOrder_161 (fun σ142 H locs eσ142 hP hS => ?_)
              refine lv_aload_n hx hb dX7_readOrder_164 rfl (lv_at hl 4 rfl) ?_
              refine va_get (D := D) hx hb hts inlX7 hown hK hP 9 (jc_9 cI cL ad σ142 τ) rfl 4 (by decide) (hts _ kw_3_21) (fun _ h9 => h9) rfl dX7_readOrder_165 ?_
              refine lv_iconst (v := 0) hx hb dX7_readOrder_168 (by decide) ?_
              refine lv_aload_n hx hb dX7_readOrder_169 rfl (lv_at hl 5 rfl) ?_
              refine va_get (D := D) hx hb hts inlX6 hown hK hP 16 (jc_16 cI cL ad σ142 τ) rfl 3 (by decide) (hts _ kw_13_21) (fun _ h9 => h9) rfl dX7_readOrder_170 ?_
              refine lv_iconst (v := 0) hx hb dX7_readOrder_173 (by decide) ?_
              refine lv_iload_n hx hb dX7_readOrder_174 rfl (lv_at hl 3 rfl) ?_
              refine jcpyI (q0 := 11) (q1 := 17) hx hb (hml.trans hl.1.symm) hown (hts _ kw_13_22) (hts _ kw_13_23) (hts _ kw_14_0) (hts _ kw_14_1) hK hP hJ hA hS (jc_11 cI cL ad σ142 τ) (jc_17 cI cL ad σ142 τ) (fun _ => rfl) jz_0 jz_0 rfl (by omega) (by omega) (by omega) (by omega) (by omega) (Nat.le_of_ble_eq_true rfl) (Nat.le_of_ble_eq_true rfl) dX7_readOrder_175 (fun σ143 H locs eσ143 hP hS => ?_)
              have w144 : ∀ k : Nat, k < 8 → 0 ≤ (σ142 11 k).toInt ∧ (σ142 11 k).toInt ≤ 3 := (jrr_fr (jnp 11 eσ142 (by decide)) (jrr_fr (jnp 11 eσ141 (by decide)) (jrr_fr (jnp 11 eσ140 (by decide)) w133)))
              have w145 : ∀ k : Nat, k < 8 → 0 ≤ (σ142 17 k).toInt ∧ (σ142 17 k).toInt ≤ 3 := (jrr_fr (jnp 17 eσ142 (by decide)) (jrr_fr (jnp 17 eσ141 (by decide)) (jrr_fr (jnp 17 eσ140 (by decide)) (jrr_fr (f127 17 (by decide)) (jrr_fr (f109 17 (by decide)) (jrr_fr (f60 17 (by decide)) (jrr_fr (f44 17 (by decide)) (jrr_fr (f31 17 (by decide)) (jrr_fr (f10 17 (by decide)) w7)))))))))
              have f146 : (∀ i : Nat, (i < 17 ∨ 17 < i) → σ143 i = σ142 i) := by rw [eσ143]; exact jrow_n
              have w147 : ∀ k : Nat, k < 8 → 0 ≤ (σ143 17 k).toInt ∧ (σ143 17 k).toInt ≤ 3 := by rw [eσ143]; exact jrow_rr w144 w145 jz_0 rfl (n0 := 8) (by omega) (by omega) (by omega)
              refine lv_iconst (v := (-1)) hx hb dX7_readOrder_178 (by decide) ?_
              have I148 : jI9 σ143 := jI9_fr ((congrFun (f146 9 (by decide)) 0).trans ((congrFun (jnp 9 eσ142 (by decide)) 0).trans ((congrFun (jnp 9 eσ141 (by decide)) 0).trans (congrFun (jnp 9 eσ140 (by decide)) 0)))) ((f146 10 (by decide)).trans ((jnp 10 eσ142 (by decide)).trans ((jnp 10 eσ141 (by decide)).trans (jnp 10 eσ140 (by decide))))) ((f146 11 (by decide)).trans ((jnp 11 eσ142 (by decide)).trans ((jnp 11 eσ141 (by decide)).trans (jnp 11 eσ140 (by decide))))) I129
              have z149 : (σ143 16 0).toInt = x24.toInt := (congrArg Int32.toInt (show σ143 16 0 = x24 from ((congrFun (f146 16 (by decide)) 0).trans ((jkp 0 eσ142 (by decide)).trans ((jkp 0 eσ141 (by decide)).trans (jsp eσ140))))))
              have z150 : (σ143 16 1).toInt = 8 := ((congrArg Int32.toInt (show σ143 16 1 = 8 from ((congrFun (f146 16 (by decide)) 1).trans ((jkp 1 eσ142 (by decide)).trans (jsp eσ141))))).trans jz_8)
              have z151 : (σ143 16 2).toInt = r108.toInt := (congrArg Int32.toInt (show σ143 16 2 = r108 from ((congrFun (f146 16 (by decide)) 2).trans (jsp eσ142))))
              have I152 : jI16 σ143 := ⟨(by omega), (by omega), (by omega), w147⟩
              have z153 : (σ143 9 0).toInt = (σ125 9 0).toInt := (congrArg Int32.toInt (show σ143 9 0 = (σ125 9 0) from ((congrFun (f146 9 (by decide)) 0).trans ((congrFun (jnp 9 eσ142 (by decide)) 0).trans ((congrFun (jnp 9 eσ141 (by decide)) 0).trans (congrFun (jnp 9 eσ140 (by decide)) 0))))))
              exact hret (-1) σ143 τ _ _ _ _ rfl ⟨rfl, (fun i hi => ((f146 i (imp_44 i hi)).trans ((jnp i eσ142 (imp_45 i hi)).trans ((jnp i eσ141 (imp_45 i hi)).trans ((jnp i eσ140 (imp_45 i hi)).trans ((f127 i (imp_46 i hi)).trans ((f109 i (imp_46 i hi)).trans ((f60 i (imp_46 i hi)).trans ((f44 i (imp_46 i hi)).trans ((f31 i (imp_47 i hi)).trans (f10 i (imp_46 i hi)))))))))))), (fun i hi => ((congrFun (f146 9 (by decide)) i).trans ((congrFun (jnp 9 eσ142 (by decide)) i).trans ((congrFun (jnp 9 eσ141 (by decide)) i).trans ((congrFun (jnp 9 eσ140 (by decide)) i).trans ((f128 i (imp_48 i hi)).trans ((f110 i (imp_50 i hi)).trans ((f61 i (imp_49 i hi)).trans ((f45 i (imp_49 i hi)).trans ((f32 i (imp_49 i hi)).trans (f11 i (imp_50 i hi)))))))))))), (fun i hi => ((congrFun (f146 16 (by decide)) i).trans ((jkp i eσ142 (imp_51 i hi)).trans ((jkp i eσ141 (imp_52 i hi)).trans ((jkp i eσ140 (imp_53 i hi)).trans ((congrFun (f127 16 (by decide)) i).trans ((congrFun (f109 16 (by decide)) i).trans ((congrFun (f60 16 (by decide)) i).trans ((congrFun (f44 16 (by decide)) i).trans ((congrFun (f31 16 (by decide)) i).trans (congrFun (f10 16 (by decide)) i))))))))))), I148, I152, (by omega), trivial⟩ hP hS dX7_readOrder_179
            · obtain ⟨q155, k154⟩ := h137
              refine lv_istore (lv' := [(5, .int r126), (4, .int r108), (3, .int 8), (2, .int x24), (0, .ref (ad 9)), (1, .ref (ad 16))]) hx hb dX7_readOrder_137 hl (by decide) rfl (fun ls hl => ?_)
              refine lv_iload hx hb dX7_readOrder_139 (lv_at hl 0 rfl) ?_
              refine lv_iconst (v := (-1)) hx hb dX7_readOrder_141 (by decide) ?_
              refine lv_icmp_eq (tgt := 148) hx hb dX7_readOrder_142 (by decide) (fun c => absurd (jeq c rfl jz_m1) (by omega)) (fun c156 => ?_)
              have kc156 := jne c156 rfl jz_m1
              refine lv_iload hx hb dX7_readOrder_145 (lv_at hl 0 rfl) ?_
              have I157 : jI16 σ125 := jI16_fr ((congrFun (f127 16 (by decide)) 0).trans ((congrFun (f109 16 (by decide)) 0).trans ((congrFun (f60 16 (by decide)) 0).trans ((congrFun (f44 16 (by decide)) 0).trans ((congrFun (f31 16 (by decide)) 0).trans (congrFun (f10 16 (by decide)) 0)))))) ((congrFun (f127 16 (by decide)) 1).trans ((congrFun (f109 16 (by decide)) 1).trans ((congrFun (f60 16 (by decide)) 1).trans ((congrFun (f44 16 (by decide)) 1).trans ((congrFun (f31 16 (by decide)) 1).trans (congrFun (f10 16 (by decide)) 1)))))) ((congrFun (f127 16 (by decide)) 2).trans ((congrFun (f109 16 (by decide)) 2).trans ((congrFun (f60 16 (by decide)) 2).trans ((congrFun (f44 16 (by decide)) 2).trans ((congrFun (f31 16 (by decide)) 2).trans (congrFun (f10 16 (by decide)) 2)))))) ((f127 17 (by decide)).trans ((f109 17 (by decide)).trans ((f60 17 (by decide)).trans ((f44 17 (by decide)).trans ((f31 17 (by decide)).trans (f10 17 (by decide))))))) hI16
              exact hret r126 σ125 τ _ _ _ _ rfl ⟨rfl, (fun i hi => ((f127 i (imp_46 i hi)).trans ((f109 i (imp_46 i hi)).trans ((f60 i (imp_46 i hi)).trans ((f44 i (imp_46 i hi)).trans ((f31 i (imp_47 i hi)).trans (f10 i (imp_46 i hi)))))))), (fun i hi => ((f128 i (imp_48 i hi)).trans ((f110 i (imp_50 i hi)).trans ((f61 i (imp_49 i hi)).trans ((f45 i (imp_49 i hi)).trans ((f32 i (imp_49 i hi)).trans (f11 i (imp_50 i hi)))))))), (fun i hi => ((congrFun (f127 16 (by decide)) i).trans ((congrFun (f109 16 (by decide)) i).trans ((congrFun (f60 16 (by decide)) i).trans ((congrFun (f44 16 (by decide)) i).trans ((congrFun (f31 16 (by decide)) i).trans (congrFun (f10 16 (by decide)) i))))))), I129, I157, (by omega), trivial⟩ hP hS dX7_readOrder_147
        · have kc57 := jne c57 rfl jz_0
          refine lv_aload_n hx hb dX7_readOrder_88 rfl (lv_at hl 3 rfl) ?_
          refine va_get (D := D) hx hb hts inlX7 hown hK hP 9 (jc_9 cI cL ad σ42 τ) rfl 1 (by decide) (hts _ kw_13_17) (fun _ h9 => h9) rfl dX7_readOrder_89 ?_
          refine lv_istore (lv' := [(5, .int (σ42 9 1)), (4, .int 0), (3, .int 8), (2, .int x24), (0, .ref (ad 9)), (1, .ref (ad 16))]) hx hb dX7_readOrder_92 hl (by decide) rfl (fun ls hl => ?_)
          refine lv_aload_n hx hb dX7_readOrder_94 rfl (lv_at hl 4 rfl) ?_
          refine lv_iconst (v := 2) hx hb dX7_readOrder_95 (by decide) ?_
          refine jcallV (As := [.int 2]) (rest := []) ⟨hx, hb, hml, hown, hts⟩ hK hP hA hS hZ (c_X7_number_2 l D cI cL ad zz hJ σ42 τ I46 I47 I48) cw_RX7_53 (jc_9 cI cL ad σ42 τ) rfl ⟨Nat.le_of_ble_eq_true rfl, Nat.le_of_ble_eq_true rfl⟩ rfl rfl rfl hl.1 rfl (Nat.le_of_ble_eq_true rfl) dX7_readOrder_96 ⟨Nat.zero_le _, Nat.zero_le _⟩ (fun r159 σ158 τ158 H locs h158 hP hS => ?_)
          obtain ⟨rfl, f160, f161, I162, I163, I164, h158⟩ := h158
          obtain ⟨i165, w166, w167⟩ : (0 ≤ (σ158 9 0).toInt ∧ (σ158 9 0).toInt ≤ 80) ∧ (∀ k : Nat, k < 80 → 0 ≤ (σ158 10 k).toInt ∧ (σ158 10 k).toInt ≤ 255) ∧ (∀ k : Nat, k < 8 → 0 ≤ (σ158 11 k).toInt ∧ (σ158 11 k).toInt ≤ 3) := id I162
          obtain ⟨i168, i169⟩ : (0 ≤ (σ158 9 1).toInt) ∧ ((σ158 9 1).toInt ≤ (σ158 9 0).toInt) := id I163
          have i170 : (-1) ≤ (σ158 9 2).toInt := I164
          have z171 : (σ158 9 0).toInt = (σ 9 0).toInt := (congrArg Int32.toInt (show σ158 9 0 = (σ 9 0) from ((f161 0 (by decide)).trans ((f45 0 (by decide)).trans ((f32 0 (by decide)).trans (f11 0 (by decide)))))))
          obtain ⟨k172, h158⟩ := h158
          have h173 := h158
          obtain ⟨q175, k174⟩ := h173
          refine lv_istore_n (lv' := [(3, .int r159), (5, .int (σ42 9 1)), (4, .int 0), (2, .int x24), (0, .ref (ad 9)), (1, .ref (ad 16))]) hx hb dX7_readOrder_99 rfl hl (by decide) rfl (fun ls hl => ?_)
          refine lv_iload_n hx hb dX7_readOrder_100 rfl (lv_at hl 0 rfl) ?_
          refine lv_iconst (v := 1) hx hb dX7_readOrder_101 (by decide) ?_
          refine lv_icmp_lt (tgt := 111) hx hb dX7_readOrder_102 (by decide) (fun c176 => ?_) (fun c176 => ?_)
          · have kc176 := jlt c176 rfl jz_1
            refine lv_aload_n hx hb dX7_readOrder_111 rfl (lv_at hl 4 rfl) ?_
            refine lv_iload hx hb dX7_readOrder_112 (lv_at hl 1 rfl) ?_
            refine jcallVv (As := [.int (σ42 9 1)]) (rest := []) ⟨hx, hb, hml, hown, hts⟩ hK hP hA hS hZ (c_X7_fail_9 l D cI cL ad zz hJ σ158 τ (σ42 9 1) ((σ42 9 1).toInt) rfl I164 (by omega)) cw_RX7_43 (jc_9 cI cL ad σ158 τ) rfl ⟨Nat.le_of_ble_eq_true rfl, Nat.le_of_ble_eq_true rfl⟩ rfl rfl rfl hl.1 rfl (Nat.le_of_ble_eq_true rfl) dX7_readOrder_114 ⟨Nat.zero_le _, Nat.zero_le _⟩ (fun σ177 τ177 H locs h177 hP hS => ?_)
            obtain ⟨rfl, f179, f180, h177⟩ := h177
            obtain ⟨k181, h177⟩ := h177
            refine lv_aload_n hx hb dX7_readOrder_117 rfl (lv_at hl 4 rfl) ?_
            refine lv_bipush (v := 114) hx hb dX7_readOrder_118 (by decide) ?_
            have I182 : jI9 σ177 := jI9_fr (f180 0 (by decide)) (f179 10 (by decide)) (f179 11 (by decide)) I162
            have I183 : jI91 σ177 := jI91_fr (f180 0 (by decide)) (f180 1 (by decide)) I163
            have I184 : jI92 σ177 := (show (-1) ≤ (σ177 9 2).toInt by omega)
            refine jcallV (As := [.int 114]) (rest := []) ⟨hx, hb, hml, hown, hts⟩ hK hP hA hS hZ (c_X7_skip_9 l D cI cL ad zz hJ σ177 τ 114 (114) jz_114 I182 I183 I184 (by omega)) cw_RX7_50 (jc_9 cI cL ad σ177 τ) rfl ⟨Nat.le_of_ble_eq_true rfl, Nat.le_of_ble_eq_true rfl⟩ rfl rfl rfl hl.1 rfl (Nat.le_of_ble_eq_true rfl) dX7_readOrder_120 ⟨Nat.zero_le _, Nat.zero_le _⟩ (fun r186 σ185 τ185 H locs h185 hP hS => ?_)
            obtain ⟨rfl, f187, f188, I189, I190, I191, h185⟩ := h185
            obtain ⟨i192, w193, w194⟩ : (0 ≤ (σ185 9 0).toInt ∧ (σ185 9 0).toInt ≤ 80) ∧ (∀ k : Nat, k < 80 → 0 ≤ (σ185 10 k).toInt ∧ (σ185 10 k).toInt ≤ 255) ∧ (∀ k : Nat, k < 8 → 0 ≤ (σ185 11 k).toInt ∧ (σ185 11 k).toInt ≤ 3) := id I189
            obtain ⟨i195, i196⟩ : (0 ≤ (σ185 9 1).toInt) ∧ ((σ185 9 1).toInt ≤ (σ185 9 0).toInt) := id I190
            have i197 : (-1) ≤ (σ185 9 2).toInt := I191
            have z198 : (σ185 9 0).toInt = (σ 9 0).toInt := (congrArg Int32.toInt (show σ185 9 0 = (σ 9 0) from ((f188 0 (by decide)).trans ((f180 0 (by decide)).trans ((f161 0 (by decide)).trans ((f45 0 (by decide)).trans ((f32 0 (by decide)).trans (f11 0 (by decide)))))))))
            have z199 : (σ185 9 2).toInt = (σ177 9 2).toInt := (congrArg Int32.toInt (show σ185 9 2 = (σ177 9 2) from (f188 2 (by decide))))
            refine lv_if_eq (tgt := 133) hx hb dX7_readOrder_123 (by decide) (fun c200 => ?_) (fun c200 => ?_)
            · have kc200 := jeq c200 rfl jz_0
              refine lv_aload_n hx hb dX7_readOrder_133 rfl (lv_at hl 4 rfl) ?_
              refine jcallV (As := []) (rest := []) ⟨hx, hb, hml, hown, hts⟩ hK hP hA hS hZ (c_X7_end_9 l D cI cL ad zz hJ σ185 τ I189 I190 I191) cw_RX7_57 (jc_9 cI cL ad σ185 τ) rfl ⟨Nat.le_of_ble_eq_true rfl, Nat.le_of_ble_eq_true rfl⟩ rfl rfl rfl hl.1 rfl (Nat.le_of_ble_eq_true rfl) dX7_readOrder_134 ⟨Nat.zero_le _, Nat.zero_le _⟩ (fun r202 σ201 τ201 H locs h201 hP hS => ?_)
              obtain ⟨rfl, f203, f204, I205, I206, h201⟩ := h201
              obtain ⟨i207, w208, w209⟩ : (0 ≤ (σ201 9 0).toInt ∧ (σ201 9 0).toInt ≤ 80) ∧ (∀ k : Nat, k < 80 → 0 ≤ (σ201 10 k).toInt ∧ (σ201 10 k).toInt ≤ 255) ∧ (∀ k : Nat, k < 8 → 0 ≤ (σ201 11 k).toInt ∧ (σ201 11 k).toInt ≤ 3) := id I205
              have i210 : (-1) ≤ (σ201 9 2).toInt := I206
              obtain ⟨k211, h201⟩ := h201
              rcases h201 with h212 | h213
              · obtain ⟨q215, k214⟩ := h212
                exact absurd (by omega : False) id
              · obtain ⟨q217, k216⟩ := h213
                refine lv_istore (lv' := [(5, .int r202), (3, .int r159), (4, .int 0), (2, .int x24), (0, .ref (ad 9)), (1, .ref (ad 16))]) hx hb dX7_readOrder_137 hl (by decide) rfl (fun ls hl => ?_)
                refine lv_iload hx hb dX7_readOrder_139 (lv_at hl 0 rfl) ?_
                refine lv_iconst (v := (-1)) hx hb dX7_readOrder_141 (by decide) ?_
                refine lv_icmp_eq (tgt := 148) hx hb dX7_readOrder_142 (by decide) (fun c => absurd (jeq c rfl jz_m1) (by omega)) (fun c218 => ?_)
                have kc218 := jne c218 rfl jz_m1
                refine lv_iload hx hb dX7_readOrder_145 (lv_at hl 0 rfl) ?_
                have I219 : jI16 σ201 := jI16_fr ((congrFun (f203 16 (by decide)) 0).trans ((congrFun (f187 16 (by decide)) 0).trans ((congrFun (f179 16 (by decide)) 0).trans ((congrFun (f160 16 (by decide)) 0).trans ((congrFun (f44 16 (by decide)) 0).trans ((congrFun (f31 16 (by decide)) 0).trans (congrFun (f10 16 (by decide)) 0))))))) ((congrFun (f203 16 (by decide)) 1).trans ((congrFun (f187 16 (by decide)) 1).trans ((congrFun (f179 16 (by decide)) 1).trans ((congrFun (f160 16 (by decide)) 1).trans ((congrFun (f44 16 (by decide)) 1).trans ((congrFun (f31 16 (by decide)) 1).trans (congrFun (f10 16 (by decide)) 1))))))) ((congrFun (f203 16 (by decide)) 2).trans ((congrFun (f187 16 (by decide)) 2).trans ((congrFun (f179 16 (by decide)) 2).trans ((congrFun (f160 16 (by decide)) 2).trans ((congrFun (f44 16 (by decide)) 2).trans ((congrFun (f31 16 (by decide)) 2).trans (congrFun (f10 16 (by decide)) 2))))))) ((f203 17 (by decide)).trans ((f187 17 (by decide)).trans ((f179 17 (by decide)).trans ((f160 17 (by decide)).trans ((f44 17 (by decide)).trans ((f31 17 (by decide)).trans (f10 17 (by decide)))))))) hI16
                exact hret r202 σ201 τ _ _ _ _ rfl ⟨rfl, (fun i hi => ((f203 i (imp_46 i hi)).trans ((f187 i (imp_46 i hi)).trans ((f179 i (imp_46 i hi)).trans ((f160 i (imp_46 i hi)).trans ((f44 i (imp_46 i hi)).trans ((f31 i (imp_47 i hi)).trans (f10 i (imp_46 i hi))))))))), (fun i hi => ((f204 i (imp_48 i hi)).trans ((f188 i (imp_49 i hi)).trans ((f180 i (imp_54 i hi)).trans ((f161 i (imp_50 i hi)).trans ((f45 i (imp_49 i hi)).trans ((f32 i (imp_49 i hi)).trans (f11 i (imp_50 i hi))))))))), (fun i hi => ((congrFun (f203 16 (by decide)) i).trans ((congrFun (f187 16 (by decide)) i).trans ((congrFun (f179 16 (by decide)) i).trans ((congrFun (f160 16 (by decide)) i).trans ((congrFun (f44 16 (by decide)) i).trans ((congrFun (f31 16 (by decide)) i).trans (congrFun (f10 16 (by decide)) i)))))))), I205, I219, (by omega), trivial⟩ hP hS dX7_readOrder_147
            · have kc200 := jne c200 rfl jz_0
              refine lv_aload_n hx hb dX7_readOrder_126 rfl (lv_at hl 4 rfl) ?_
              refine lv_iconst (v := 3) hx hb dX7_readOrder_127 (by decide) ?_
              refine jcallV (As := [.int 3]) (rest := []) ⟨hx, hb, hml, hown, hts⟩ hK hP hA hS hZ (c_X7_number_3 l D cI cL ad zz hJ σ185 τ I189 I190 I191) cw_RX7_53 (jc_9 cI cL ad σ185 τ) rfl ⟨Nat.le_of_ble_eq_true rfl, Nat.le_of_ble_eq_true rfl⟩ rfl rfl rfl hl.1 rfl (Nat.le_of_ble_eq_true rfl) dX7_readOrder_128 ⟨Nat.zero_le _, Nat.zero_le _⟩ (fun r221 σ220 τ220 H locs h220 hP hS => ?_)
              obtain ⟨rfl, f222, f223, I224, I225, I226, h220⟩ := h220
              obtain ⟨i227, w228, w229⟩ : (0 ≤ (σ220 9 0).toInt ∧ (σ220 9 0).toInt ≤ 80) ∧ (∀ k : Nat, k < 80 → 0 ≤ (σ220 10 k).toInt ∧ (σ220 10 k).toInt ≤ 255) ∧ (∀ k : Nat, k < 8 → 0 ≤ (σ220 11 k).toInt ∧ (σ220 11 k).toInt ≤ 3) := id I224
              obtain ⟨i230, i231⟩ : (0 ≤ (σ220 9 1).toInt) ∧ ((σ220 9 1).toInt ≤ (σ220 9 0).toInt) := id I225
              have i232 : (-1) ≤ (σ220 9 2).toInt := I226
              have z233 : (σ220 9 0).toInt = (σ 9 0).toInt := (congrArg Int32.toInt (show σ220 9 0 = (σ 9 0) from ((f223 0 (by decide)).trans ((f188 0 (by decide)).trans ((f180 0 (by decide)).trans ((f161 0 (by decide)).trans ((f45 0 (by decide)).trans ((f32 0 (by decide)).trans (f11 0 (by decide))))))))))
              obtain ⟨k234, h220⟩ := h220
              have h235 := h220
              obtain ⟨q237, k236⟩ := h235
              refine lv_istore (lv' := [(4, .int r221), (3, .int r159), (5, .int (σ42 9 1)), (2, .int x24), (0, .ref (ad 9)), (1, .ref (ad 16))]) hx hb dX7_readOrder_131 hl (by decide) rfl (fun ls hl => ?_)
              refine lv_aload_n hx hb dX7_readOrder_133 rfl (lv_at hl 4 rfl) ?_
              refine jcallV (As := []) (rest := []) ⟨hx, hb, hml, hown, hts⟩ hK hP hA hS hZ (c_X7_end_9 l D cI cL ad zz hJ σ220 τ I224 I225 I226) cw_RX7_57 (jc_9 cI cL ad σ220 τ) rfl ⟨Nat.le_of_ble_eq_true rfl, Nat.le_of_ble_eq_true rfl⟩ rfl rfl rfl hl.1 rfl (Nat.le_of_ble_eq_true rfl) dX7_readOrder_134 ⟨Nat.zero_le _, Nat.zero_le _⟩ (fun r239 σ238 τ238 H locs h238 hP hS => ?_)
              obtain ⟨rfl, f240, f241, I242, I243, h238⟩ := h238
              obtain ⟨i244, w245, w246⟩ : (0 ≤ (σ238 9 0).toInt ∧ (σ238 9 0).toInt ≤ 80) ∧ (∀ k : Nat, k < 80 → 0 ≤ (σ238 10 k).toInt ∧ (σ238 10 k).toInt ≤ 255) ∧ (∀ k : Nat, k < 8 → 0 ≤ (σ238 11 k).toInt ∧ (σ238 11 k).toInt ≤ 3) := id I242
              have i247 : (-1) ≤ (σ238 9 2).toInt := I243
              obtain ⟨k248, h238⟩ := h238
              rcases h238 with h249 | h250
              · obtain ⟨q252, k251⟩ := h249
                exact absurd (by omega : False) id
              · obtain ⟨q254, k253⟩ := h250
                refine lv_istore (lv' := [(5, .int r239), (4, .int r221), (3, .int r159), (2, .int x24), (0, .ref (ad 9)), (1, .ref (ad 16))]) hx hb dX7_readOrder_137 hl (by decide) rfl (fun ls hl => ?_)
                refine lv_iload hx hb dX7_readOrder_139 (lv_at hl 0 rfl) ?_
                refine lv_iconst (v := (-1)) hx hb dX7_readOrder_141 (by decide) ?_
                refine lv_icmp_eq (tgt := 148) hx hb dX7_readOrder_142 (by decide) (fun c => absurd (jeq c rfl jz_m1) (by omega)) (fun c255 => ?_)
                have kc255 := jne c255 rfl jz_m1
                refine lv_iload hx hb dX7_readOrder_145 (lv_at hl 0 rfl) ?_
                have I256 : jI16 σ238 := jI16_fr ((congrFun (f240 16 (by decide)) 0).trans ((congrFun (f222 16 (by decide)) 0).trans ((congrFun (f187 16 (by decide)) 0).trans ((congrFun (f179 16 (by decide)) 0).trans ((congrFun (f160 16 (by decide)) 0).trans ((congrFun (f44 16 (by decide)) 0).trans ((congrFun (f31 16 (by decide)) 0).trans (congrFun (f10 16 (by decide)) 0)))))))) ((congrFun (f240 16 (by decide)) 1).trans ((congrFun (f222 16 (by decide)) 1).trans ((congrFun (f187 16 (by decide)) 1).trans ((congrFun (f179 16 (by decide)) 1).trans ((congrFun (f160 16 (by decide)) 1).trans ((congrFun (f44 16 (by decide)) 1).trans ((congrFun (f31 16 (by decide)) 1).trans (congrFun (f10 16 (by decide)) 1)))))))) ((congrFun (f240 16 (by decide)) 2).trans ((congrFun (f222 16 (by decide)) 2).trans ((congrFun (f187 16 (by decide)) 2).trans ((congrFun (f179 16 (by decide)) 2).trans ((congrFun (f160 16 (by decide)) 2).trans ((congrFun (f44 16 (by decide)) 2).trans ((congrFun (f31 16 (by decide)) 2).trans (congrFun (f10 16 (by decide)) 2)))))))) ((f240 17 (by decide)).trans ((f222 17 (by decide)).trans ((f187 17 (by decide)).trans ((f179 17 (by decide)).trans ((f160 17 (by decide)).trans ((f44 17 (by decide)).trans ((f31 17 (by decide)).trans (f10 17 (by decide))))))))) hI16
                exact hret r239 σ238 τ _ _ _ _ rfl ⟨rfl, (fun i hi => ((f240 i (imp_46 i hi)).trans ((f222 i (imp_46 i hi)).trans ((f187 i (imp_46 i hi)).trans ((f179 i (imp_46 i hi)).trans ((f160 i (imp_46 i hi)).trans ((f44 i (imp_46 i hi)).trans ((f31 i (imp_47 i hi)).trans (f10 i (imp_46 i hi)))))))))), (fun i hi => ((f241 i (imp_48 i hi)).trans ((f223 i (imp_50 i hi)).trans ((f188 i (imp_49 i hi)).trans ((f180 i (imp_54 i hi)).trans ((f161 i (imp_50 i hi)).trans ((f45 i (imp_49 i hi)).trans ((f32 i (imp_49 i hi)).trans (f11 i (imp_50 i hi)))))))))), (fun i hi => ((congrFun (f240 16 (by decide)) i).trans ((congrFun (f222 16 (by decide)) i).trans ((congrFun (f187 16 (by decide)) i).trans ((congrFun (f179 16 (by decide)) i).trans ((congrFun (f160 16 (by decide)) i).trans ((congrFun (f44 16 (by decide)) i).trans ((congrFun (f31 16 (by decide)) i).trans (congrFun (f10 16 (by decide)) i))))))))), I242, I256, (by omega), trivial⟩ hP hS dX7_readOrder_147
          · have kc176 := jnlt c176 rfl jz_1
            refine lv_iload_n hx hb dX7_readOrder_105 rfl (lv_at hl 0 rfl) ?_
            refine lv_bipush (v := 12) hx hb dX7_readOrder_106 (by decide) ?_
            refine lv_icmp_le (tgt := 117) hx hb dX7_readOrder_108 (by decide) (fun c257 => ?_) (fun c257 => ?_)
            · have kc257 := jle c257 rfl jz_12
              refine lv_aload_n hx hb dX7_readOrder_117 rfl (lv_at hl 4 rfl) ?_
              refine lv_bipush (v := 114) hx hb dX7_readOrder_118 (by decide) ?_
              refine jcallV (As := [.int 114]) (rest := []) ⟨hx, hb, hml, hown, hts⟩ hK hP hA hS hZ (c_X7_skip_9 l D cI cL ad zz hJ σ158 τ 114 (114) jz_114 I162 I163 I164 (by omega)) cw_RX7_50 (jc_9 cI cL ad σ158 τ) rfl ⟨Nat.le_of_ble_eq_true rfl, Nat.le_of_ble_eq_true rfl⟩ rfl rfl rfl hl.1 rfl (Nat.le_of_ble_eq_true rfl) dX7_readOrder_120 ⟨Nat.zero_le _, Nat.zero_le _⟩ (fun r259 σ258 τ258 H locs h258 hP hS => ?_)
              obtain ⟨rfl, f260, f261, I262, I263, I264, h258⟩ := h258
              obtain ⟨i265, w266, w267⟩ : (0 ≤ (σ258 9 0).toInt ∧ (σ258 9 0).toInt ≤ 80) ∧ (∀ k : Nat, k < 80 → 0 ≤ (σ258 10 k).toInt ∧ (σ258 10 k).toInt ≤ 255) ∧ (∀ k : Nat, k < 8 → 0 ≤ (σ258 11 k).toInt ∧ (σ258 11 k).toInt ≤ 3) := id I262
              obtain ⟨i268, i269⟩ : (0 ≤ (σ258 9 1).toInt) ∧ ((σ258 9 1).toInt ≤ (σ258 9 0).toInt) := id I263
              have i270 : (-1) ≤ (σ258 9 2).toInt := I264
              have z271 : (σ258 9 0).toInt = (σ 9 0).toInt := (congrArg Int32.toInt (show σ258 9 0 = (σ 9 0) from ((f261 0 (by decide)).trans ((f161 0 (by decide)).trans ((f45 0 (by decide)).trans ((f32 0 (by decide)).trans (f11 0 (by decide))))))))
              have z272 : (σ258 9 2).toInt = (σ158 9 2).toInt := (congrArg Int32.toInt (show σ258 9 2 = (σ158 9 2) from (f261 2 (by decide))))
              refine lv_if_eq (tgt := 133) hx hb dX7_readOrder_123 (by decide) (fun c273 => ?_) (fun c273 => ?_)
              · have kc273 := jeq c273 rfl jz_0
                refine lv_aload_n hx hb dX7_readOrder_133 rfl (lv_at hl 4 rfl) ?_
                refine jcallV (As := []) (rest := []) ⟨hx, hb, hml, hown, hts⟩ hK hP hA hS hZ (c_X7_end_9 l D cI cL ad zz hJ σ258 τ I262 I263 I264) cw_RX7_57 (jc_9 cI cL ad σ258 τ) rfl ⟨Nat.le_of_ble_eq_true rfl, Nat.le_of_ble_eq_true rfl⟩ rfl rfl rfl hl.1 rfl (Nat.le_of_ble_eq_true rfl) dX7_readOrder_134 ⟨Nat.zero_le _, Nat.zero_le _⟩ (fun r275 σ274 τ274 H locs h274 hP hS => ?_)
                obtain ⟨rfl, f276, f277, I278, I279, h274⟩ := h274
                obtain ⟨i280, w281, w282⟩ : (0 ≤ (σ274 9 0).toInt ∧ (σ274 9 0).toInt ≤ 80) ∧ (∀ k : Nat, k < 80 → 0 ≤ (σ274 10 k).toInt ∧ (σ274 10 k).toInt ≤ 255) ∧ (∀ k : Nat, k < 8 → 0 ≤ (σ274 11 k).toInt ∧ (σ274 11 k).toInt ≤ 3) := id I278
                have i283 : (-1) ≤ (σ274 9 2).toInt := I279
                obtain ⟨k284, h274⟩ := h274
                rcases h274 with h285 | h286
                · obtain ⟨q288, k287⟩ := h285
                  have q288 := q288.symm
                  subst q288
                  refine lv_istore (lv' := [(5, .int (-1)), (3, .int r159), (4, .int 0), (2, .int x24), (0, .ref (ad 9)), (1, .ref (ad 16))]) hx hb dX7_readOrder_137 hl (by decide) rfl (fun ls hl => ?_)
                  refine lv_iload hx hb dX7_readOrder_139 (lv_at hl 0 rfl) ?_
                  refine lv_iconst (v := (-1)) hx hb dX7_readOrder_141 (by decide) ?_
                  refine lv_icmp_eq (tgt := 148) hx hb dX7_readOrder_142 (by decide) (fun _ => ?_) (fun c => absurd (by decide) c)
                  refine lv_aload_n hx hb dX7_readOrder_148 rfl (lv_at hl 5 rfl) ?_
                  refine lv_iload_n hx hb dX7_readOrder_149 rfl (lv_at hl 3 rfl) ?_
                  refine jput (ty := .int) hx hb hts inlX6 tyX6 tyX6_ok nmX6 hown hK hP hJ hA hS (jc_16 cI cL ad σ274 τ) rfl (k := 0) (by decide) (Nat.le_of_ble_eq_true rfl) (jp_16_0 cI cL ad σ274 τ x24) (hts _ kw_13_18) (fun _ h9 => h9) rfl (by decide +kernel) rfl rfl dX7_readOrder_150 (fun σ289 H locs eσ289 hP hS => ?_)
                  refine lv_aload_n hx hb dX7_readOrder_153 rfl (lv_at hl 5 rfl) ?_
                  refine lv_iload_n hx hb dX7_readOrder_154 rfl (lv_at hl 1 rfl) ?_
                  refine jput (ty := .int) hx hb hts inlX6 tyX6 tyX6_ok nmX6 hown hK hP hJ hA hS (jc_16 cI cL ad σ289 τ) rfl (k := 1) (by decide) (Nat.le_of_ble_eq_true rfl) (jp_16_1 cI cL ad σ289 τ r159) (hts _ kw_13_19) (fun _ h9 => h9) rfl (by decide +kernel) rfl rfl dX7_readOrder_155 (fun σ290 H locs eσ290 hP hS => ?_)
                  refine lv_aload_n hx hb dX7_readOrder_158 rfl (lv_at hl 5 rfl) ?_
                  refine lv_iload hx hb dX7_readOrder_159 (lv_at hl 2 rfl) ?_
                  refine jput (ty := .int) hx hb hts inlX6 tyX6 tyX6_ok nmX6 hown hK hP hJ hA hS (jc_16 cI cL ad σ290 τ) rfl (k := 2) (by decide) (Nat.le_of_ble_eq_true rfl) (jp_16_2 cI cL ad σ290 τ 0) (hts _ kw_13_20) (fun _ h9 => h9) rfl (by decide +kernel) rfl rfl dX7_readOrder_161 (fun σ291 H locs eσ291 hP hS => ?_)
                  refine lv_aload_n hx hb dX7_readOrder_164 rfl (lv_at hl 4 rfl) ?_
                  refine va_get (D := D) hx hb hts inlX7 hown hK hP 9 (jc_9 cI cL ad σ291 τ) rfl 4 (by decide) (hts _ kw_3_21) (fun _ h9 => h9) rfl dX7_readOrder_165 ?_
                  refine lv_iconst (v := 0) hx hb dX7_readOrder_168 (by decide) ?_
                  refine lv_aload_n hx hb dX7_readOrder_169 rfl (lv_at hl 5 rfl) ?_
                  refine va_get (D := D) hx hb hts inlX6 hown hK hP 16 (jc_16 cI cL ad σ291 τ) rfl 3 (by decide) (hts _ kw_13_21) (fun _ h9 => h9) rfl dX7_readOrder_170 ?_
                  refine lv_iconst (v := 0) hx hb dX7_readOrder_173 (by decide) ?_
                  refine lv_iload_n hx hb dX7_readOrder_174 rfl (lv_at hl 3 rfl) ?_
                  refine jcpyI (q0 := 11) (q1 := 17) hx hb (hml.trans hl.1.symm) hown (hts _ kw_13_22) (hts _ kw_13_23) (hts _ kw_14_0) (hts _ kw_14_1) hK hP hJ hA hS (jc_11 cI cL ad σ291 τ) (jc_17 cI cL ad σ291 τ) (fun _ => rfl) jz_0 jz_0 rfl (by omega) (by omega) (by omega) (by omega) (by omega) (Nat.le_of_ble_eq_true rfl) (Nat.le_of_ble_eq_true rfl) dX7_readOrder_175 (fun σ292 H locs eσ292 hP hS => ?_)
                  have w293 : ∀ k : Nat, k < 8 → 0 ≤ (σ291 11 k).toInt ∧ (σ291 11 k).toInt ≤ 3 := (jrr_fr (jnp 11 eσ291 (by decide)) (jrr_fr (jnp 11 eσ290 (by decide)) (jrr_fr (jnp 11 eσ289 (by decide)) w282)))
                  have w294 : ∀ k : Nat, k < 8 → 0 ≤ (σ291 17 k).toInt ∧ (σ291 17 k).toInt ≤ 3 := (jrr_fr (jnp 17 eσ291 (by decide)) (jrr_fr (jnp 17 eσ290 (by decide)) (jrr_fr (jnp 17 eσ289 (by decide)) (jrr_fr (f276 17 (by decide)) (jrr_fr (f260 17 (by decide)) (jrr_fr (f160 17 (by decide)) (jrr_fr (f44 17 (by decide)) (jrr_fr (f31 17 (by decide)) (jrr_fr (f10 17 (by decide)) w7)))))))))
                  have f295 : (∀ i : Nat, (i < 17 ∨ 17 < i) → σ292 i = σ291 i) := by rw [eσ292]; exact jrow_n
                  have w296 : ∀ k : Nat, k < 8 → 0 ≤ (σ292 17 k).toInt ∧ (σ292 17 k).toInt ≤ 3 := by rw [eσ292]; exact jrow_rr w293 w294 jz_0 rfl (n0 := 8) (by omega) (by omega) (by omega)
                  refine lv_iconst (v := (-1)) hx hb dX7_readOrder_178 (by decide) ?_
                  have I297 : jI9 σ292 := jI9_fr ((congrFun (f295 9 (by decide)) 0).trans ((congrFun (jnp 9 eσ291 (by decide)) 0).trans ((congrFun (jnp 9 eσ290 (by decide)) 0).trans (congrFun (jnp 9 eσ289 (by decide)) 0)))) ((f295 10 (by decide)).trans ((jnp 10 eσ291 (by decide)).trans ((jnp 10 eσ290 (by decide)).trans (jnp 10 eσ289 (by decide))))) ((f295 11 (by decide)).trans ((jnp 11 eσ291 (by decide)).trans ((jnp 11 eσ290 (by decide)).trans (jnp 11 eσ289 (by decide))))) I278
                  have z298 : (σ292 16 0).toInt = x24.toInt := (congrArg Int32.toInt (show σ292 16 0 = x24 from ((congrFun (f295 16 (by decide)) 0).trans ((jkp 0 eσ291 (by decide)).trans ((jkp 0 eσ290 (by decide)).trans (jsp eσ289))))))
                  have z299 : (σ292 16 1).toInt = r159.toInt := (congrArg Int32.toInt (show σ292 16 1 = r159 from ((congrFun (f295 16 (by decide)) 1).trans ((jkp 1 eσ291 (by decide)).trans (jsp eσ290)))))
                  have z300 : (σ292 16 2).toInt = 0 := ((congrArg Int32.toInt (show σ292 16 2 = 0 from ((congrFun (f295 16 (by decide)) 2).trans (jsp eσ291)))).trans jz_0)
                  have I301 : jI16 σ292 := ⟨(by omega), (by omega), (by omega), w296⟩
                  have z302 : (σ292 9 0).toInt = (σ274 9 0).toInt := (congrArg Int32.toInt (show σ292 9 0 = (σ274 9 0) from ((congrFun (f295 9 (by decide)) 0).trans ((congrFun (jnp 9 eσ291 (by decide)) 0).trans ((congrFun (jnp 9 eσ290 (by decide)) 0).trans (congrFun (jnp 9 eσ289 (by decide)) 0))))))
                  exact hret (-1) σ292 τ _ _ _ _ rfl ⟨rfl, (fun i hi => ((f295 i (imp_44 i hi)).trans ((jnp i eσ291 (imp_45 i hi)).trans ((jnp i eσ290 (imp_45 i hi)).trans ((jnp i eσ289 (imp_45 i hi)).trans ((f276 i (imp_46 i hi)).trans ((f260 i (imp_46 i hi)).trans ((f160 i (imp_46 i hi)).trans ((f44 i (imp_46 i hi)).trans ((f31 i (imp_47 i hi)).trans (f10 i (imp_46 i hi)))))))))))), (fun i hi => ((congrFun (f295 9 (by decide)) i).trans ((congrFun (jnp 9 eσ291 (by decide)) i).trans ((congrFun (jnp 9 eσ290 (by decide)) i).trans ((congrFun (jnp 9 eσ289 (by decide)) i).trans ((f277 i (imp_48 i hi)).trans ((f261 i (imp_49 i hi)).trans ((f161 i (imp_50 i hi)).trans ((f45 i (imp_49 i hi)).trans ((f32 i (imp_49 i hi)).trans (f11 i (imp_50 i hi)))))))))))), (fun i hi => ((congrFun (f295 16 (by decide)) i).trans ((jkp i eσ291 (imp_51 i hi)).trans ((jkp i eσ290 (imp_52 i hi)).trans ((jkp i eσ289 (imp_53 i hi)).trans ((congrFun (f276 16 (by decide)) i).trans ((congrFun (f260 16 (by decide)) i).trans ((congrFun (f160 16 (by decide)) i).trans ((congrFun (f44 16 (by decide)) i).trans ((congrFun (f31 16 (by decide)) i).trans (congrFun (f10 16 (by decide)) i))))))))))), I297, I301, (by omega), trivial⟩ hP hS dX7_readOrder_179
                · obtain ⟨q304, k303⟩ := h286
                  refine lv_istore (lv' := [(5, .int r275), (3, .int r159), (4, .int 0), (2, .int x24), (0, .ref (ad 9)), (1, .ref (ad 16))]) hx hb dX7_readOrder_137 hl (by decide) rfl (fun ls hl => ?_)
                  refine lv_iload hx hb dX7_readOrder_139 (lv_at hl 0 rfl) ?_
                  refine lv_iconst (v := (-1)) hx hb dX7_readOrder_141 (by decide) ?_
                  refine lv_icmp_eq (tgt := 148) hx hb dX7_readOrder_142 (by decide) (fun c => absurd (jeq c rfl jz_m1) (by omega)) (fun c305 => ?_)
                  have kc305 := jne c305 rfl jz_m1
                  refine lv_iload hx hb dX7_readOrder_145 (lv_at hl 0 rfl) ?_
                  have I306 : jI16 σ274 := jI16_fr ((congrFun (f276 16 (by decide)) 0).trans ((congrFun (f260 16 (by decide)) 0).trans ((congrFun (f160 16 (by decide)) 0).trans ((congrFun (f44 16 (by decide)) 0).trans ((congrFun (f31 16 (by decide)) 0).trans (congrFun (f10 16 (by decide)) 0)))))) ((congrFun (f276 16 (by decide)) 1).trans ((congrFun (f260 16 (by decide)) 1).trans ((congrFun (f160 16 (by decide)) 1).trans ((congrFun (f44 16 (by decide)) 1).trans ((congrFun (f31 16 (by decide)) 1).trans (congrFun (f10 16 (by decide)) 1)))))) ((congrFun (f276 16 (by decide)) 2).trans ((congrFun (f260 16 (by decide)) 2).trans ((congrFun (f160 16 (by decide)) 2).trans ((congrFun (f44 16 (by decide)) 2).trans ((congrFun (f31 16 (by decide)) 2).trans (congrFun (f10 16 (by decide)) 2)))))) ((f276 17 (by decide)).trans ((f260 17 (by decide)).trans ((f160 17 (by decide)).trans ((f44 17 (by decide)).trans ((f31 17 (by decide)).trans (f10 17 (by decide))))))) hI16
                  exact hret r275 σ274 τ _ _ _ _ rfl ⟨rfl, (fun i hi => ((f276 i (imp_46 i hi)).trans ((f260 i (imp_46 i hi)).trans ((f160 i (imp_46 i hi)).trans ((f44 i (imp_46 i hi)).trans ((f31 i (imp_47 i hi)).trans (f10 i (imp_46 i hi)))))))), (fun i hi => ((f277 i (imp_48 i hi)).trans ((f261 i (imp_49 i hi)).trans ((f161 i (imp_50 i hi)).trans ((f45 i (imp_49 i hi)).trans ((f32 i (imp_49 i hi)).trans (f11 i (imp_50 i hi)))))))), (fun i hi => ((congrFun (f276 16 (by decide)) i).trans ((congrFun (f260 16 (by decide)) i).trans ((congrFun (f160 16 (by decide)) i).trans ((congrFun (f44 16 (by decide)) i).trans ((congrFun (f31 16 (by decide)) i).trans (congrFun (f10 16 (by decide)) i))))))), I278, I306, (by omega), trivial⟩ hP hS dX7_readOrder_147
              · have kc273 := jne c273 rfl jz_0
                refine lv_aload_n hx hb dX7_readOrder_126 rfl (lv_at hl 4 rfl) ?_
                refine lv_iconst (v := 3) hx hb dX7_readOrder_127 (by decide) ?_
                refine jcallV (As := [.int 3]) (rest := []) ⟨hx, hb, hml, hown, hts⟩ hK hP hA hS hZ (c_X7_number_3 l D cI cL ad zz hJ σ258 τ I262 I263 I264) cw_RX7_53 (jc_9 cI cL ad σ258 τ) rfl ⟨Nat.le_of_ble_eq_true rfl, Nat.le_of_ble_eq_true rfl⟩ rfl rfl rfl hl.1 rfl (Nat.le_of_ble_eq_true rfl) dX7_readOrder_128 ⟨Nat.zero_le _, Nat.zero_le _⟩ (fun r308 σ307 τ307 H locs h307 hP hS => ?_)
                obtain ⟨rfl, f309, f310, I311, I312, I313, h307⟩ := h307
                obtain ⟨i314, w315, w316⟩ : (0 ≤ (σ307 9 0).toInt ∧ (σ307 9 0).toInt ≤ 80) ∧ (∀ k : Nat, k < 80 → 0 ≤ (σ307 10 k).toInt ∧ (σ307 10 k).toInt ≤ 255) ∧ (∀ k : Nat, k < 8 → 0 ≤ (σ307 11 k).toInt ∧ (σ307 11 k).toInt ≤ 3) := id I311
                obtain ⟨i317, i318⟩ : (0 ≤ (σ307 9 1).toInt) ∧ ((σ307 9 1).toInt ≤ (σ307 9 0).toInt) := id I312
                have i319 : (-1) ≤ (σ307 9 2).toInt := I313
                have z320 : (σ307 9 0).toInt = (σ 9 0).toInt := (congrArg Int32.toInt (show σ307 9 0 = (σ 9 0) from ((f310 0 (by decide)).trans ((f261 0 (by decide)).trans ((f161 0 (by decide)).trans ((f45 0 (by decide)).trans ((f32 0 (by decide)).trans (f11 0 (by decide)))))))))
                obtain ⟨k321, h307⟩ := h307
                have h322 := h307
                obtain ⟨q324, k323⟩ := h322
                refine lv_istore (lv' := [(4, .int r308), (3, .int r159), (5, .int (σ42 9 1)), (2, .int x24), (0, .ref (ad 9)), (1, .ref (ad 16))]) hx hb dX7_readOrder_131 hl (by decide) rfl (fun ls hl => ?_)
                refine lv_aload_n hx hb dX7_readOrder_133 rfl (lv_at hl 4 rfl) ?_
                refine jcallV (As := []) (rest := []) ⟨hx, hb, hml, hown, hts⟩ hK hP hA hS hZ (c_X7_end_9 l D cI cL ad zz hJ σ307 τ I311 I312 I313) cw_RX7_57 (jc_9 cI cL ad σ307 τ) rfl ⟨Nat.le_of_ble_eq_true rfl, Nat.le_of_ble_eq_true rfl⟩ rfl rfl rfl hl.1 rfl (Nat.le_of_ble_eq_true rfl) dX7_readOrder_134 ⟨Nat.zero_le _, Nat.zero_le _⟩ (fun r326 σ325 τ325 H locs h325 hP hS => ?_)
                obtain ⟨rfl, f327, f328, I329, I330, h325⟩ := h325
                obtain ⟨i331, w332, w333⟩ : (0 ≤ (σ325 9 0).toInt ∧ (σ325 9 0).toInt ≤ 80) ∧ (∀ k : Nat, k < 80 → 0 ≤ (σ325 10 k).toInt ∧ (σ325 10 k).toInt ≤ 255) ∧ (∀ k : Nat, k < 8 → 0 ≤ (σ325 11 k).toInt ∧ (σ325 11 k).toInt ≤ 3) := id I329
                have i334 : (-1) ≤ (σ325 9 2).toInt := I330
                obtain ⟨k335, h325⟩ := h325
                rcases h325 with h336 | h337
                · obtain ⟨q339, k338⟩ := h336
                  have q339 := q339.symm
                  subst q339
                  refine lv_istore (lv' := [(5, .int (-1)), (4, .int r308), (3, .int r159), (2, .int x24), (0, .ref (ad 9)), (1, .ref (ad 16))]) hx hb dX7_readOrder_137 hl (by decide) rfl (fun ls hl => ?_)
                  refine lv_iload hx hb dX7_readOrder_139 (lv_at hl 0 rfl) ?_
                  refine lv_iconst (v := (-1)) hx hb dX7_readOrder_141 (by decide) ?_
                  refine lv_icmp_eq (tgt := 148) hx hb dX7_readOrder_142 (by decide) (fun _ => ?_) (fun c => absurd (by decide) c)
                  refine lv_aload_n hx hb dX7_readOrder_148 rfl (lv_at hl 5 rfl) ?_
                  refine lv_iload_n hx hb dX7_readOrder_149 rfl (lv_at hl 3 rfl) ?_
                  refine jput (ty := .int) hx hb hts inlX6 tyX6 tyX6_ok nmX6 hown hK hP hJ hA hS (jc_16 cI cL ad σ325 τ) rfl (k := 0) (by decide) (Nat.le_of_ble_eq_true rfl) (jp_16_0 cI cL ad σ325 τ x24) (hts _ kw_13_18) (fun _ h9 => h9) rfl (by decide +kernel) rfl rfl dX7_readOrder_150 (fun σ340 H locs eσ340 hP hS => ?_)
                  refine lv_aload_n hx hb dX7_readOrder_153 rfl (lv_at hl 5 rfl) ?_
                  refine lv_iload_n hx hb dX7_readOrder_154 rfl (lv_at hl 2 rfl) ?_
                  refine jput (ty := .int) hx hb hts inlX6 tyX6 tyX6_ok nmX6 hown hK hP hJ hA hS (jc_16 cI cL ad σ340 τ) rfl (k := 1) (by decide) (Nat.le_of_ble_eq_true rfl) (jp_16_1 cI cL ad σ340 τ r159) (hts _ kw_13_19) (fun _ h9 => h9) rfl (by decide +kernel) rfl rfl dX7_readOrder_155 (fun σ341 H locs eσ341 hP hS => ?_)
                  refine lv_aload_n hx hb dX7_readOrder_158 rfl (lv_at hl 5 rfl) ?_
                  refine lv_iload hx hb dX7_readOrder_159 (lv_at hl 1 rfl) ?_
                  refine jput (ty := .int) hx hb hts inlX6 tyX6 tyX6_ok nmX6 hown hK hP hJ hA hS (jc_16 cI cL ad σ341 τ) rfl (k := 2) (by decide) (Nat.le_of_ble_eq_true rfl) (jp_16_2 cI cL ad σ341 τ r308) (hts _ kw_13_20) (fun _ h9 => h9) rfl (by decide +kernel) rfl rfl dX7_readOrder_161 (fun σ342 H locs eσ342 hP hS => ?_)
                  refine lv_aload_n hx hb dX7_readOrder_164 rfl (lv_at hl 4 rfl) ?_
                  refine va_get (D := D) hx hb hts inlX7 hown hK hP 9 (jc_9 cI cL ad σ342 τ) rfl 4 (by decide) (hts _ kw_3_21) (fun _ h9 => h9) rfl dX7_readOrder_165 ?_
                  refine lv_iconst (v := 0) hx hb dX7_readOrder_168 (by decide) ?_
                  refine lv_aload_n hx hb dX7_readOrder_169 rfl (lv_at hl 5 rfl) ?_
                  refine va_get (D := D) hx hb hts inlX6 hown hK hP 16 (jc_16 cI cL ad σ342 τ) rfl 3 (by decide) (hts _ kw_13_21) (fun _ h9 => h9) rfl dX7_readOrder_170 ?_
                  refine lv_iconst (v := 0) hx hb dX7_readOrder_173 (by decide) ?_
                  refine lv_iload_n hx hb dX7_readOrder_174 rfl (lv_at hl 3 rfl) ?_
                  refine jcpyI (q0 := 11) (q1 := 17) hx hb (hml.trans hl.1.symm) hown (hts _ kw_13_22) (hts _ kw_13_23) (hts _ kw_14_0) (hts _ kw_14_1) hK hP hJ hA hS (jc_11 cI cL ad σ342 τ) (jc_17 cI cL ad σ342 τ) (fun _ => rfl) jz_0 jz_0 rfl (by omega) (by omega) (by omega) (by omega) (by omega) (Nat.le_of_ble_eq_true rfl) (Nat.le_of_ble_eq_true rfl) dX7_readOrder_175 (fun σ343 H locs eσ343 hP hS => ?_)
                  have w344 : ∀ k : Nat, k < 8 → 0 ≤ (σ342 11 k).toInt ∧ (σ342 11 k).toInt ≤ 3 := (jrr_fr (jnp 11 eσ342 (by decide)) (jrr_fr (jnp 11 eσ341 (by decide)) (jrr_fr (jnp 11 eσ340 (by decide)) w333)))
                  have w345 : ∀ k : Nat, k < 8 → 0 ≤ (σ342 17 k).toInt ∧ (σ342 17 k).toInt ≤ 3 := (jrr_fr (jnp 17 eσ342 (by decide)) (jrr_fr (jnp 17 eσ341 (by decide)) (jrr_fr (jnp 17 eσ340 (by decide)) (jrr_fr (f327 17 (by decide)) (jrr_fr (f309 17 (by decide)) (jrr_fr (f260 17 (by decide)) (jrr_fr (f160 17 (by decide)) (jrr_fr (f44 17 (by decide)) (jrr_fr (f31 17 (by decide)) (jrr_fr (f10 17 (by decide)) w7))))))))))
                  have f346 : (∀ i : Nat, (i < 17 ∨ 17 < i) → σ343 i = σ342 i) := by rw [eσ343]; exact jrow_n
                  have w347 : ∀ k : Nat, k < 8 → 0 ≤ (σ343 17 k).toInt ∧ (σ343 17 k).toInt ≤ 3 := by rw [eσ343]; exact jrow_rr w344 w345 jz_0 rfl (n0 := 8) (by omega) (by omega) (by omega)
                  refine lv_iconst (v := (-1)) hx hb dX7_readOrder_178 (by decide) ?_
                  have I348 : jI9 σ343 := jI9_fr ((congrFun (f346 9 (by decide)) 0).trans ((congrFun (jnp 9 eσ342 (by decide)) 0).trans ((congrFun (jnp 9 eσ341 (by decide)) 0).trans (congrFun (jnp 9 eσ340 (by decide)) 0)))) ((f346 10 (by decide)).trans ((jnp 10 eσ342 (by decide)).trans ((jnp 10 eσ341 (by decide)).trans (jnp 10 eσ340 (by decide))))) ((f346 11 (by decide)).trans ((jnp 11 eσ342 (by decide)).trans ((jnp 11 eσ341 (by decide)).trans (jnp 11 eσ340 (by decide))))) I329
                  have z349 : (σ343 16 0).toInt = x24.toInt := (congrArg Int32.toInt (show σ343 16 0 = x24 from ((congrFun (f346 16 (by decide)) 0).trans ((jkp 0 eσ342 (by decide)).trans ((jkp 0 eσ341 (by decide)).trans (jsp eσ340))))))
                  have z350 : (σ343 16 1).toInt = r159.toInt := (congrArg Int32.toInt (show σ343 16 1 = r159 from ((congrFun (f346 16 (by decide)) 1).trans ((jkp 1 eσ342 (by decide)).trans (jsp eσ341)))))
                  have z351 : (σ343 16 2).toInt = r308.toInt := (congrArg Int32.toInt (show σ343 16 2 = r308 from ((congrFun (f346 16 (by decide)) 2).trans (jsp eσ342))))
                  have I352 : jI16 σ343 := ⟨(by omega), (by omega), (by omega), w347⟩
                  have z353 : (σ343 9 0).toInt = (σ325 9 0).toInt := (congrArg Int32.toInt (show σ343 9 0 = (σ325 9 0) from ((congrFun (f346 9 (by decide)) 0).trans ((congrFun (jnp 9 eσ342 (by decide)) 0).trans ((congrFun (jnp 9 eσ341 (by decide)) 0).trans (congrFun (jnp 9 eσ340 (by decide)) 0))))))
                  exact hret (-1) σ343 τ _ _ _ _ rfl ⟨rfl, (fun i hi => ((f346 i (imp_44 i hi)).trans ((jnp i eσ342 (imp_45 i hi)).trans ((jnp i eσ341 (imp_45 i hi)).trans ((jnp i eσ340 (imp_45 i hi)).trans ((f327 i (imp_46 i hi)).trans ((f309 i (imp_46 i hi)).trans ((f260 i (imp_46 i hi)).trans ((f160 i (imp_46 i hi)).trans ((f44 i (imp_46 i hi)).trans ((f31 i (imp_47 i hi)).trans (f10 i (imp_46 i hi))))))))))))), (fun i hi => ((congrFun (f346 9 (by decide)) i).trans ((congrFun (jnp 9 eσ342 (by decide)) i).trans ((congrFun (jnp 9 eσ341 (by decide)) i).trans ((congrFun (jnp 9 eσ340 (by decide)) i).trans ((f328 i (imp_48 i hi)).trans ((f310 i (imp_50 i hi)).trans ((f261 i (imp_49 i hi)).trans ((f161 i (imp_50 i hi)).trans ((f45 i (imp_49 i hi)).trans ((f32 i (imp_49 i hi)).trans (f11 i (imp_50 i hi))))))))))))), (fun i hi => ((congrFun (f346 16 (by decide)) i).trans ((jkp i eσ342 (imp_51 i hi)).trans ((jkp i eσ341 (imp_52 i hi)).trans ((jkp i eσ340 (imp_53 i hi)).trans ((congrFun (f327 16 (by decide)) i).trans ((congrFun (f309 16 (by decide)) i).trans ((congrFun (f260 16 (by decide)) i).trans ((congrFun (f160 16 (by decide)) i).trans ((congrFun (f44 16 (by decide)) i).trans ((congrFun (f31 16 (by decide)) i).trans (congrFun (f10 16 (by decide)) i)))))))))))), I348, I352, (by omega), trivial⟩ hP hS dX7_readOrder_179
                · obtain ⟨q355, k354⟩ := h337
                  refine lv_istore (lv' := [(5, .int r326), (4, .int r308), (3, .int r159), (2, .int x24), (0, .ref (ad 9)), (1, .ref (ad 16))]) hx hb dX7_readOrder_137 hl (by decide) rfl (fun ls hl => ?_)
                  refine lv_iload hx hb dX7_readOrder_139 (lv_at hl 0 rfl) ?_
                  refine lv_iconst (v := (-1)) hx hb dX7_readOrder_141 (by decide) ?_
                  refine lv_icmp_eq (tgt := 148) hx hb dX7_readOrder_142 (by decide) (fun c => absurd (jeq c rfl jz_m1) (by omega)) (fun c356 => ?_)
                  have kc356 := jne c356 rfl jz_m1
                  refine lv_iload hx hb dX7_readOrder_145 (lv_at hl 0 rfl) ?_
                  have I357 : jI16 σ325 := jI16_fr ((congrFun (f327 16 (by decide)) 0).trans ((congrFun (f309 16 (by decide)) 0).trans ((congrFun (f260 16 (by decide)) 0).trans ((congrFun (f160 16 (by decide)) 0).trans ((congrFun (f44 16 (by decide)) 0).trans ((congrFun (f31 16 (by decide)) 0).trans (congrFun (f10 16 (by decide)) 0))))))) ((congrFun (f327 16 (by decide)) 1).trans ((congrFun (f309 16 (by decide)) 1).trans ((congrFun (f260 16 (by decide)) 1).trans ((congrFun (f160 16 (by decide)) 1).trans ((congrFun (f44 16 (by decide)) 1).trans ((congrFun (f31 16 (by decide)) 1).trans (congrFun (f10 16 (by decide)) 1))))))) ((congrFun (f327 16 (by decide)) 2).trans ((congrFun (f309 16 (by decide)) 2).trans ((congrFun (f260 16 (by decide)) 2).trans ((congrFun (f160 16 (by decide)) 2).trans ((congrFun (f44 16 (by decide)) 2).trans ((congrFun (f31 16 (by decide)) 2).trans (congrFun (f10 16 (by decide)) 2))))))) ((f327 17 (by decide)).trans ((f309 17 (by decide)).trans ((f260 17 (by decide)).trans ((f160 17 (by decide)).trans ((f44 17 (by decide)).trans ((f31 17 (by decide)).trans (f10 17 (by decide)))))))) hI16
                  exact hret r326 σ325 τ _ _ _ _ rfl ⟨rfl, (fun i hi => ((f327 i (imp_46 i hi)).trans ((f309 i (imp_46 i hi)).trans ((f260 i (imp_46 i hi)).trans ((f160 i (imp_46 i hi)).trans ((f44 i (imp_46 i hi)).trans ((f31 i (imp_47 i hi)).trans (f10 i (imp_46 i hi))))))))), (fun i hi => ((f328 i (imp_48 i hi)).trans ((f310 i (imp_50 i hi)).trans ((f261 i (imp_49 i hi)).trans ((f161 i (imp_50 i hi)).trans ((f45 i (imp_49 i hi)).trans ((f32 i (imp_49 i hi)).trans (f11 i (imp_50 i hi))))))))), (fun i hi => ((congrFun (f327 16 (by decide)) i).trans ((congrFun (f309 16 (by decide)) i).trans ((congrFun (f260 16 (by decide)) i).trans ((congrFun (f160 16 (by decide)) i).trans ((congrFun (f44 16 (by decide)) i).trans ((congrFun (f31 16 (by decide)) i).trans (congrFun (f10 16 (by decide)) i)))))))), I329, I357, (by omega), trivial⟩ hP hS dX7_readOrder_147
            · have kc257 := jnle c257 rfl jz_12
              refine lv_aload_n hx hb dX7_readOrder_111 rfl (lv_at hl 4 rfl) ?_
              refine lv_iload hx hb dX7_readOrder_112 (lv_at hl 1 rfl) ?_
              refine jcallVv (As := [.int (σ42 9 1)]) (rest := []) ⟨hx, hb, hml, hown, hts⟩ hK hP hA hS hZ (c_X7_fail_9 l D cI cL ad zz hJ σ158 τ (σ42 9 1) ((σ42 9 1).toInt) rfl I164 (by omega)) cw_RX7_43 (jc_9 cI cL ad σ158 τ) rfl ⟨Nat.le_of_ble_eq_true rfl, Nat.le_of_ble_eq_true rfl⟩ rfl rfl rfl hl.1 rfl (Nat.le_of_ble_eq_true rfl) dX7_readOrder_114 ⟨Nat.zero_le _, Nat.zero_le _⟩ (fun σ358 τ358 H locs h358 hP hS => ?_)
              obtain ⟨rfl, f360, f361, h358⟩ := h358
              obtain ⟨k362, h358⟩ := h358
              refine lv_aload_n hx hb dX7_readOrder_117 rfl (lv_at hl 4 rfl) ?_
              refine lv_bipush (v := 114) hx hb dX7_readOrder_118 (by decide) ?_
              have I363 : jI9 σ358 := jI9_fr (f361 0 (by decide)) (f360 10 (by decide)) (f360 11 (by decide)) I162
              have I364 : jI91 σ358 := jI91_fr (f361 0 (by decide)) (f361 1 (by decide)) I163
              have I365 : jI92 σ358 := (show (-1) ≤ (σ358 9 2).toInt by omega)
              refine jcallV (As := [.int 114]) (rest := []) ⟨hx, hb, hml, hown, hts⟩ hK hP hA hS hZ (c_X7_skip_9 l D cI cL ad zz hJ σ358 τ 114 (114) jz_114 I363 I364 I365 (by omega)) cw_RX7_50 (jc_9 cI cL ad σ358 τ) rfl ⟨Nat.le_of_ble_eq_true rfl, Nat.le_of_ble_eq_true rfl⟩ rfl rfl rfl hl.1 rfl (Nat.le_of_ble_eq_true rfl) dX7_readOrder_120 ⟨Nat.zero_le _, Nat.zero_le _⟩ (fun r367 σ366 τ366 H locs h366 hP hS => ?_)
              obtain ⟨rfl, f368, f369, I370, I371, I372, h366⟩ := h366
              obtain ⟨i373, w374, w375⟩ : (0 ≤ (σ366 9 0).toInt ∧ (σ366 9 0).toInt ≤ 80) ∧ (∀ k : Nat, k < 80 → 0 ≤ (σ366 10 k).toInt ∧ (σ366 10 k).toInt ≤ 255) ∧ (∀ k : Nat, k < 8 → 0 ≤ (σ366 11 k).toInt ∧ (σ366 11 k).toInt ≤ 3) := id I370
              obtain ⟨i376, i377⟩ : (0 ≤ (σ366 9 1).toInt) ∧ ((σ366 9 1).toInt ≤ (σ366 9 0).toInt) := id I371
              have i378 : (-1) ≤ (σ366 9 2).toInt := I372
              have z379 : (σ366 9 0).toInt = (σ 9 0).toInt := (congrArg Int32.toInt (show σ366 9 0 = (σ 9 0) from ((f369 0 (by decide)).trans ((f361 0 (by decide)).trans ((f161 0 (by decide)).trans ((f45 0 (by decide)).trans ((f32 0 (by decide)).trans (f11 0 (by decide)))))))))
              have z380 : (σ366 9 2).toInt = (σ358 9 2).toInt := (congrArg Int32.toInt (show σ366 9 2 = (σ358 9 2) from (f369 2 (by decide))))
              refine lv_if_eq (tgt := 133) hx hb dX7_readOrder_123 (by decide) (fun c381 => ?_) (fun c381 => ?_)
              · have kc381 := jeq c381 rfl jz_0
                refine lv_aload_n hx hb dX7_readOrder_133 rfl (lv_at hl 4 rfl) ?_
                refine jcallV (As := []) (rest := []) ⟨hx, hb, hml, hown, hts⟩ hK hP hA hS hZ (c_X7_end_9 l D cI cL ad zz hJ σ366 τ I370 I371 I372) cw_RX7_57 (jc_9 cI cL ad σ366 τ) rfl ⟨Nat.le_of_ble_eq_true rfl, Nat.le_of_ble_eq_true rfl⟩ rfl rfl rfl hl.1 rfl (Nat.le_of_ble_eq_true rfl) dX7_readOrder_134 ⟨Nat.zero_le _, Nat.zero_le _⟩ (fun r383 σ382 τ382 H locs h382 hP hS => ?_)
                obtain ⟨rfl, f384, f385, I386, I387, h382⟩ := h382
                obtain ⟨i388, w389, w390⟩ : (0 ≤ (σ382 9 0).toInt ∧ (σ382 9 0).toInt ≤ 80) ∧ (∀ k : Nat, k < 80 → 0 ≤ (σ382 10 k).toInt ∧ (σ382 10 k).toInt ≤ 255) ∧ (∀ k : Nat, k < 8 → 0 ≤ (σ382 11 k).toInt ∧ (σ382 11 k).toInt ≤ 3) := id I386
                have i391 : (-1) ≤ (σ382 9 2).toInt := I387
                obtain ⟨k392, h382⟩ := h382
                rcases h382 with h393 | h394
                · obtain ⟨q396, k395⟩ := h393
                  exact absurd (by omega : False) id
                · obtain ⟨q398, k397⟩ := h394
                  refine lv_istore (lv' := [(5, .int r383), (3, .int r159), (4, .int 0), (2, .int x24), (0, .ref (ad 9)), (1, .ref (ad 16))]) hx hb dX7_readOrder_137 hl (by decide) rfl (fun ls hl => ?_)
                  refine lv_iload hx hb dX7_readOrder_139 (lv_at hl 0 rfl) ?_
                  refine lv_iconst (v := (-1)) hx hb dX7_readOrder_141 (by decide) ?_
                  refine lv_icmp_eq (tgt := 148) hx hb dX7_readOrder_142 (by decide) (fun c => absurd (jeq c rfl jz_m1) (by omega)) (fun c399 => ?_)
                  have kc399 := jne c399 rfl jz_m1
                  refine lv_iload hx hb dX7_readOrder_145 (lv_at hl 0 rfl) ?_
                  have I400 : jI16 σ382 := jI16_fr ((congrFun (f384 16 (by decide)) 0).trans ((congrFun (f368 16 (by decide)) 0).trans ((congrFun (f360 16 (by decide)) 0).trans ((congrFun (f160 16 (by decide)) 0).trans ((congrFun (f44 16 (by decide)) 0).trans ((congrFun (f31 16 (by decide)) 0).trans (congrFun (f10 16 (by decide)) 0))))))) ((congrFun (f384 16 (by decide)) 1).trans ((congrFun (f368 16 (by decide)) 1).trans ((congrFun (f360 16 (by decide)) 1).trans ((congrFun (f160 16 (by decide)) 1).trans ((congrFun (f44 16 (by decide)) 1).trans ((congrFun (f31 16 (by decide)) 1).trans (congrFun (f10 16 (by decide)) 1))))))) ((congrFun (f384 16 (by decide)) 2).trans ((congrFun (f368 16 (by decide)) 2).trans ((congrFun (f360 16 (by decide)) 2).trans ((congrFun (f160 16 (by decide)) 2).trans ((congrFun (f44 16 (by decide)) 2).trans ((congrFun (f31 16 (by decide)) 2).trans (congrFun (f10 16 (by decide)) 2))))))) ((f384 17 (by decide)).trans ((f368 17 (by decide)).trans ((f360 17 (by decide)).trans ((f160 17 (by decide)).trans ((f44 17 (by decide)).trans ((f31 17 (by decide)).trans (f10 17 (by decide)))))))) hI16
                  exact hret r383 σ382 τ _ _ _ _ rfl ⟨rfl, (fun i hi => ((f384 i (imp_46 i hi)).trans ((f368 i (imp_46 i hi)).trans ((f360 i (imp_46 i hi)).trans ((f160 i (imp_46 i hi)).trans ((f44 i (imp_46 i hi)).trans ((f31 i (imp_47 i hi)).trans (f10 i (imp_46 i hi))))))))), (fun i hi => ((f385 i (imp_48 i hi)).trans ((f369 i (imp_49 i hi)).trans ((f361 i (imp_54 i hi)).trans ((f161 i (imp_50 i hi)).trans ((f45 i (imp_49 i hi)).trans ((f32 i (imp_49 i hi)).trans (f11 i (imp_50 i hi))))))))), (fun i hi => ((congrFun (f384 16 (by decide)) i).trans ((congrFun (f368 16 (by decide)) i).trans ((congrFun (f360 16 (by decide)) i).trans ((congrFun (f160 16 (by decide)) i).trans ((congrFun (f44 16 (by decide)) i).trans ((congrFun (f31 16 (by decide)) i).trans (congrFun (f10 16 (by decide)) i)))))))), I386, I400, (by omega), trivial⟩ hP hS dX7_readOrder_147
              · have kc381 := jne c381 rfl jz_0
                refine lv_aload_n hx hb dX7_readOrder_126 rfl (lv_at hl 4 rfl) ?_
                refine lv_iconst (v := 3) hx hb dX7_readOrder_127 (by decide) ?_
                refine jcallV (As := [.int 3]) (rest := []) ⟨hx, hb, hml, hown, hts⟩ hK hP hA hS hZ (c_X7_number_3 l D cI cL ad zz hJ σ366 τ I370 I371 I372) cw_RX7_53 (jc_9 cI cL ad σ366 τ) rfl ⟨Nat.le_of_ble_eq_true rfl, Nat.le_of_ble_eq_true rfl⟩ rfl rfl rfl hl.1 rfl (Nat.le_of_ble_eq_true rfl) dX7_readOrder_128 ⟨Nat.zero_le _, Nat.zero_le _⟩ (fun r402 σ401 τ401 H locs h401 hP hS => ?_)
                obtain ⟨rfl, f403, f404, I405, I406, I407, h401⟩ := h401
                obtain ⟨i408, w409, w410⟩ : (0 ≤ (σ401 9 0).toInt ∧ (σ401 9 0).toInt ≤ 80) ∧ (∀ k : Nat, k < 80 → 0 ≤ (σ401 10 k).toInt ∧ (σ401 10 k).toInt ≤ 255) ∧ (∀ k : Nat, k < 8 → 0 ≤ (σ401 11 k).toInt ∧ (σ401 11 k).toInt ≤ 3) := id I405
                obtain ⟨i411, i412⟩ : (0 ≤ (σ401 9 1).toInt) ∧ ((σ401 9 1).toInt ≤ (σ401 9 0).toInt) := id I406
                have i413 : (-1) ≤ (σ401 9 2).toInt := I407
                have z414 : (σ401 9 0).toInt = (σ 9 0).toInt := (congrArg Int32.toInt (show σ401 9 0 = (σ 9 0) from ((f404 0 (by decide)).trans ((f369 0 (by decide)).trans ((f361 0 (by decide)).trans ((f161 0 (by decide)).trans ((f45 0 (by decide)).trans ((f32 0 (by decide)).trans (f11 0 (by decide))))))))))
                obtain ⟨k415, h401⟩ := h401
                have h416 := h401
                obtain ⟨q418, k417⟩ := h416
                refine lv_istore (lv' := [(4, .int r402), (3, .int r159), (5, .int (σ42 9 1)), (2, .int x24), (0, .ref (ad 9)), (1, .ref (ad 16))]) hx hb dX7_readOrder_131 hl (by decide) rfl (fun ls hl => ?_)
                refine lv_aload_n hx hb dX7_readOrder_133 rfl (lv_at hl 4 rfl) ?_
                refine jcallV (As := []) (rest := []) ⟨hx, hb, hml, hown, hts⟩ hK hP hA hS hZ (c_X7_end_9 l D cI cL ad zz hJ σ401 τ I405 I406 I407) cw_RX7_57 (jc_9 cI cL ad σ401 τ) rfl ⟨Nat.le_of_ble_eq_true rfl, Nat.le_of_ble_eq_true rfl⟩ rfl rfl rfl hl.1 rfl (Nat.le_of_ble_eq_true rfl) dX7_readOrder_134 ⟨Nat.zero_le _, Nat.zero_le _⟩ (fun r420 σ419 τ419 H locs h419 hP hS => ?_)
                obtain ⟨rfl, f421, f422, I423, I424, h419⟩ := h419
                obtain ⟨i425, w426, w427⟩ : (0 ≤ (σ419 9 0).toInt ∧ (σ419 9 0).toInt ≤ 80) ∧ (∀ k : Nat, k < 80 → 0 ≤ (σ419 10 k).toInt ∧ (σ419 10 k).toInt ≤ 255) ∧ (∀ k : Nat, k < 8 → 0 ≤ (σ419 11 k).toInt ∧ (σ419 11 k).toInt ≤ 3) := id I423
                have i428 : (-1) ≤ (σ419 9 2).toInt := I424
                obtain ⟨k429, h419⟩ := h419
                rcases h419 with h430 | h431
                · obtain ⟨q433, k432⟩ := h430
                  exact absurd (by omega : False) id
                · obtain ⟨q435, k434⟩ := h431
                  refine lv_istore (lv' := [(5, .int r420), (4, .int r402), (3, .int r159), (2, .int x24), (0, .ref (ad 9)), (1, .ref (ad 16))]) hx hb dX7_readOrder_137 hl (by decide) rfl (fun ls hl => ?_)
                  refine lv_iload hx hb dX7_readOrder_139 (lv_at hl 0 rfl) ?_
                  refine lv_iconst (v := (-1)) hx hb dX7_readOrder_141 (by decide) ?_
                  refine lv_icmp_eq (tgt := 148) hx hb dX7_readOrder_142 (by decide) (fun c => absurd (jeq c rfl jz_m1) (by omega)) (fun c436 => ?_)
                  have kc436 := jne c436 rfl jz_m1
                  refine lv_iload hx hb dX7_readOrder_145 (lv_at hl 0 rfl) ?_
                  have I437 : jI16 σ419 := jI16_fr ((congrFun (f421 16 (by decide)) 0).trans ((congrFun (f403 16 (by decide)) 0).trans ((congrFun (f368 16 (by decide)) 0).trans ((congrFun (f360 16 (by decide)) 0).trans ((congrFun (f160 16 (by decide)) 0).trans ((congrFun (f44 16 (by decide)) 0).trans ((congrFun (f31 16 (by decide)) 0).trans (congrFun (f10 16 (by decide)) 0)))))))) ((congrFun (f421 16 (by decide)) 1).trans ((congrFun (f403 16 (by decide)) 1).trans ((congrFun (f368 16 (by decide)) 1).trans ((congrFun (f360 16 (by decide)) 1).trans ((congrFun (f160 16 (by decide)) 1).trans ((congrFun (f44 16 (by decide)) 1).trans ((congrFun (f31 16 (by decide)) 1).trans (congrFun (f10 16 (by decide)) 1)))))))) ((congrFun (f421 16 (by decide)) 2).trans ((congrFun (f403 16 (by decide)) 2).trans ((congrFun (f368 16 (by decide)) 2).trans ((congrFun (f360 16 (by decide)) 2).trans ((congrFun (f160 16 (by decide)) 2).trans ((congrFun (f44 16 (by decide)) 2).trans ((congrFun (f31 16 (by decide)) 2).trans (congrFun (f10 16 (by decide)) 2)))))))) ((f421 17 (by decide)).trans ((f403 17 (by decide)).trans ((f368 17 (by decide)).trans ((f360 17 (by decide)).trans ((f160 17 (by decide)).trans ((f44 17 (by decide)).trans ((f31 17 (by decide)).trans (f10 17 (by decide))))))))) hI16
                  exact hret r420 σ419 τ _ _ _ _ rfl ⟨rfl, (fun i hi => ((f421 i (imp_46 i hi)).trans ((f403 i (imp_46 i hi)).trans ((f368 i (imp_46 i hi)).trans ((f360 i (imp_46 i hi)).trans ((f160 i (imp_46 i hi)).trans ((f44 i (imp_46 i hi)).trans ((f31 i (imp_47 i hi)).trans (f10 i (imp_46 i hi)))))))))), (fun i hi => ((f422 i (imp_48 i hi)).trans ((f404 i (imp_50 i hi)).trans ((f369 i (imp_49 i hi)).trans ((f361 i (imp_54 i hi)).trans ((f161 i (imp_50 i hi)).trans ((f45 i (imp_49 i hi)).trans ((f32 i (imp_49 i hi)).trans (f11 i (imp_50 i hi)))))))))), (fun i hi => ((congrFun (f421 16 (by decide)) i).trans ((congrFun (f403 16 (by decide)) i).trans ((congrFun (f368 16 (by decide)) i).trans ((congrFun (f360 16 (by decide)) i).trans ((congrFun (f160 16 (by decide)) i).trans ((congrFun (f44 16 (by decide)) i).trans ((congrFun (f31 16 (by decide)) i).trans (congrFun (f10 16 (by decide)) i))))))))), I423, I437, (by omega), trivial⟩ hP hS dX7_readOrder_147
      · have kc38 := jnle c38 jz_8 rfl
        refine lv_aload_n hx hb dX7_readOrder_18 rfl (lv_at hl 3 rfl) ?_
        refine jcallV (As := []) (rest := []) ⟨hx, hb, hml, hown, hts⟩ hK hP hA hS hZ (c_X7_sign_9 l D cI cL ad zz hJ σ25 τ p33) cw_RX7_35 (jc_9 cI cL ad σ25 τ) rfl ⟨Nat.le_of_ble_eq_true rfl, Nat.le_of_ble_eq_true rfl⟩ rfl rfl rfl hl.1 rfl (Nat.le_of_ble_eq_true rfl) dX7_readOrder_19 ⟨Nat.zero_le _, Nat.zero_le _⟩ (fun r439 σ438 τ438 H locs h438 hP hS => ?_)
        obtain ⟨⟨rfl, rfl⟩, h438⟩ := h438
        rcases h438 with h440 | h441
        · obtain ⟨q444, k442, k443⟩ := h440
          have q445 : r439 = (σ 10 (σ25 9 1).toNatClampNeg) := q444.trans (by rw [f31 10 (by decide), f10 10 (by decide)])
          have q445e : (σ25 10 (σ25 9 1).toNatClampNeg).toInt = (σ 10 (σ25 9 1).toNatClampNeg).toInt := by rw [← q444, ← q445]
          have q445 := q445.symm
          subst q445
          refine lv_bipush (v := 48) hx hb dX7_readOrder_22 (by decide) ?_
          refine lv_icmp_lt (tgt := 67) hx hb dX7_readOrder_24 (by decide) (fun c446 => ?_) (fun c446 => ?_)
          · have kc446 := jlt c446 rfl jz_48
            refine lv_iload_n hx hb dX7_readOrder_67 rfl (lv_at hl 2 rfl) ?_
            refine lv_if_ne (tgt := 79) hx hb dX7_readOrder_68 (by decide) (fun c447 => ?_) (fun c447 => ?_)
            · have kc447 := jne c447 rfl jz_0
              refine lv_aload_n hx hb dX7_readOrder_79 rfl (lv_at hl 3 rfl) ?_
              refine lv_bipush (v := 58) hx hb dX7_readOrder_80 (by decide) ?_
              have I448 : jI91 σ25 := ⟨(by omega), (by omega)⟩
              have I449 : jI92 σ25 := jI92_fr (f32 2 (by decide)) I14
              refine jcallV (As := [.int 58]) (rest := []) ⟨hx, hb, hml, hown, hts⟩ hK hP hA hS hZ (c_X7_skip_9 l D cI cL ad zz hJ σ25 τ 58 (58) jz_58 p33 I448 I449 (by omega)) cw_RX7_50 (jc_9 cI cL ad σ25 τ) rfl ⟨Nat.le_of_ble_eq_true rfl, Nat.le_of_ble_eq_true rfl⟩ rfl rfl rfl hl.1 rfl (Nat.le_of_ble_eq_true rfl) dX7_readOrder_82 ⟨Nat.zero_le _, Nat.zero_le _⟩ (fun r451 σ450 τ450 H locs h450 hP hS => ?_)
              obtain ⟨rfl, f452, f453, I454, I455, I456, h450⟩ := h450
              obtain ⟨i457, w458, w459⟩ : (0 ≤ (σ450 9 0).toInt ∧ (σ450 9 0).toInt ≤ 80) ∧ (∀ k : Nat, k < 80 → 0 ≤ (σ450 10 k).toInt ∧ (σ450 10 k).toInt ≤ 255) ∧ (∀ k : Nat, k < 8 → 0 ≤ (σ450 11 k).toInt ∧ (σ450 11 k).toInt ≤ 3) := id I454
              obtain ⟨i460, i461⟩ : (0 ≤ (σ450 9 1).toInt) ∧ ((σ450 9 1).toInt ≤ (σ450 9 0).toInt) := id I455
              have i462 : (-1) ≤ (σ450 9 2).toInt := I456
              have z463 : (σ450 9 0).toInt = (σ 9 0).toInt := (congrArg Int32.toInt (show σ450 9 0 = (σ 9 0) from ((f453 0 (by decide)).trans ((f32 0 (by decide)).trans (f11 0 (by decide))))))
              have z464 : (σ450 9 2).toInt = (σ8 9 2).toInt := (congrArg Int32.toInt (show σ450 9 2 = (σ8 9 2) from ((f453 2 (by decide)).trans (f32 2 (by decide)))))
              refine lv_if_eq (tgt := 117) hx hb dX7_readOrder_85 (by decide) (fun c465 => ?_) (fun c465 => ?_)
              · have kc465 := jeq c465 rfl jz_0
                refine lv_aload_n hx hb dX7_readOrder_117 rfl (lv_at hl 3 rfl) ?_
                refine lv_bipush (v := 114) hx hb dX7_readOrder_118 (by decide) ?_
                refine jcallV (As := [.int 114]) (rest := []) ⟨hx, hb, hml, hown, hts⟩ hK hP hA hS hZ (c_X7_skip_9 l D cI cL ad zz hJ σ450 τ 114 (114) jz_114 I454 I455 I456 (by omega)) cw_RX7_50 (jc_9 cI cL ad σ450 τ) rfl ⟨Nat.le_of_ble_eq_true rfl, Nat.le_of_ble_eq_true rfl⟩ rfl rfl rfl hl.1 rfl (Nat.le_of_ble_eq_true rfl) dX7_readOrder_120 ⟨Nat.zero_le _, Nat.zero_le _⟩ (fun r467 σ466 τ466 H locs h466 hP hS => ?_)
                obtain ⟨rfl, f468, f469, I470, I471, I472, h466⟩ := h466
                obtain ⟨i473, w474, w475⟩ : (0 ≤ (σ466 9 0).toInt ∧ (σ466 9 0).toInt ≤ 80) ∧ (∀ k : Nat, k < 80 → 0 ≤ (σ466 10 k).toInt ∧ (σ466 10 k).toInt ≤ 255) ∧ (∀ k : Nat, k < 8 → 0 ≤ (σ466 11 k).toInt ∧ (σ466 11 k).toInt ≤ 3) := id I470
                obtain ⟨i476, i477⟩ : (0 ≤ (σ466 9 1).toInt) ∧ ((σ466 9 1).toInt ≤ (σ466 9 0).toInt) := id I471
                have i478 : (-1) ≤ (σ466 9 2).toInt := I472
                have z479 : (σ466 9 0).toInt = (σ 9 0).toInt := (congrArg Int32.toInt (show σ466 9 0 = (σ 9 0) from ((f469 0 (by decide)).trans ((f453 0 (by decide)).trans ((f32 0 (by decide)).trans (f11 0 (by decide)))))))
                have z480 : (σ466 9 2).toInt = (σ8 9 2).toInt := (congrArg Int32.toInt (show σ466 9 2 = (σ8 9 2) from ((f469 2 (by decide)).trans ((f453 2 (by decide)).trans (f32 2 (by decide))))))
                refine lv_if_eq (tgt := 133) hx hb dX7_readOrder_123 (by decide) (fun c481 => ?_) (fun c481 => ?_)
                · have kc481 := jeq c481 rfl jz_0
                  refine lv_aload_n hx hb dX7_readOrder_133 rfl (lv_at hl 3 rfl) ?_
                  refine jcallV (As := []) (rest := []) ⟨hx, hb, hml, hown, hts⟩ hK hP hA hS hZ (c_X7_end_9 l D cI cL ad zz hJ σ466 τ I470 I471 I472) cw_RX7_57 (jc_9 cI cL ad σ466 τ) rfl ⟨Nat.le_of_ble_eq_true rfl, Nat.le_of_ble_eq_true rfl⟩ rfl rfl rfl hl.1 rfl (Nat.le_of_ble_eq_true rfl) dX7_readOrder_134 ⟨Nat.zero_le _, Nat.zero_le _⟩ (fun r483 σ482 τ482 H locs h482 hP hS => ?_)
                  obtain ⟨rfl, f484, f485, I486, I487, h482⟩ := h482
                  obtain ⟨i488, w489, w490⟩ : (0 ≤ (σ482 9 0).toInt ∧ (σ482 9 0).toInt ≤ 80) ∧ (∀ k : Nat, k < 80 → 0 ≤ (σ482 10 k).toInt ∧ (σ482 10 k).toInt ≤ 255) ∧ (∀ k : Nat, k < 8 → 0 ≤ (σ482 11 k).toInt ∧ (σ482 11 k).toInt ≤ 3) := id I486
                  have i491 : (-1) ≤ (σ482 9 2).toInt := I487
                  obtain ⟨k492, h482⟩ := h482
                  rcases h482 with h493 | h494
                  · obtain ⟨q496, k495⟩ := h493
                    have q496 := q496.symm
                    subst q496
                    refine lv_istore (lv' := [(5, .int (-1)), (4, .int 0), (3, .int 8), (2, .int x24), (0, .ref (ad 9)), (1, .ref (ad 16))]) hx hb dX7_readOrder_137 hl (by decide) rfl (fun ls hl => ?_)
                    refine lv_iload hx hb dX7_readOrder_139 (lv_at hl 0 rfl) ?_
                    refine lv_iconst (v := (-1)) hx hb dX7_readOrder_141 (by decide) ?_
                    refine lv_icmp_eq (tgt := 148) hx hb dX7_readOrder_142 (by decide) (fun _ => ?_) (fun c => absurd (by decide) c)
                    refine lv_aload_n hx hb dX7_readOrder_148 rfl (lv_at hl 5 rfl) ?_
                    refine lv_iload_n hx hb dX7_readOrder_149 rfl (lv_at hl 3 rfl) ?_
                    refine jput (ty := .int) hx hb hts inlX6 tyX6 tyX6_ok nmX6 hown hK hP hJ hA hS (jc_16 cI cL ad σ482 τ) rfl (k := 0) (by decide) (Nat.le_of_ble_eq_true rfl) (jp_16_0 cI cL ad σ482 τ x24) (hts _ kw_13_18) (fun _ h9 => h9) rfl (by decide +kernel) rfl rfl dX7_readOrder_150 (fun σ497 H locs eσ497 hP hS => ?_)
                    refine lv_aload_n hx hb dX7_readOrder_153 rfl (lv_at hl 5 rfl) ?_
                    refine lv_iload_n hx hb dX7_readOrder_154 rfl (lv_at hl 2 rfl) ?_
                    refine jput (ty := .int) hx hb hts inlX6 tyX6 tyX6_ok nmX6 hown hK hP hJ hA hS (jc_16 cI cL ad σ497 τ) rfl (k := 1) (by decide) (Nat.le_of_ble_eq_true rfl) (jp_16_1 cI cL ad σ497 τ 8) (hts _ kw_13_19) (fun _ h9 => h9) rfl (by decide +kernel) rfl rfl dX7_readOrder_155 (fun σ498 H locs eσ498 hP hS => ?_)
                    refine lv_aload_n hx hb dX7_readOrder_158 rfl (lv_at hl 5 rfl) ?_
                    refine lv_iload hx hb dX7_readOrder_159 (lv_at hl 1 rfl) ?_
                    refine jput (ty := .int) hx hb hts inlX6 tyX6 tyX6_ok nmX6 hown hK hP hJ hA hS (jc_16 cI cL ad σ498 τ) rfl (k := 2) (by decide) (Nat.le_of_ble_eq_true rfl) (jp_16_2 cI cL ad σ498 τ 0) (hts _ kw_13_20) (fun _ h9 => h9) rfl (by decide +kernel) rfl rfl dX7_readOrder_161 (fun σ499 H locs eσ499 hP hS => ?_)
                    refine lv_aload_n hx hb dX7_readOrder_164 rfl (lv_at hl 4 rfl) ?_
                    refine va_get (D := D) hx hb hts inlX7 hown hK hP 9 (jc_9 cI cL ad σ499 τ) rfl 4 (by decide) (hts _ kw_3_21) (fun _ h9 => h9) rfl dX7_readOrder_165 ?_
                    refine lv_iconst (v := 0) hx hb dX7_readOrder_168 (by decide) ?_
                    refine lv_aload_n hx hb dX7_readOrder_169 rfl (lv_at hl 5 rfl) ?_
                    refine va_get (D := D) hx hb hts inlX6 hown hK hP 16 (jc_16 cI cL ad σ499 τ) rfl 3 (by decide) (hts _ kw_13_21) (fun _ h9 => h9) rfl dX7_readOrder_170 ?_
                    refine lv_iconst (v := 0) hx hb dX7_readOrder_173 (by decide) ?_
                    refine lv_iload_n hx hb dX7_readOrder_174 rfl (lv_at hl 3 rfl) ?_
                    refine jcpyI (q0 := 11) (q1 := 17) hx hb (hml.trans hl.1.symm) hown (hts _ kw_13_22) (hts _ kw_13_23) (hts _ kw_14_0) (hts _ kw_14_1) hK hP hJ hA hS (jc_11 cI cL ad σ499 τ) (jc_17 cI cL ad σ499 τ) (fun _ => rfl) jz_0 jz_0 rfl (by omega) (by omega) (by omega) (by omega) (by omega) (Nat.le_of_ble_eq_true rfl) (Nat.le_of_ble_eq_true rfl) dX7_readOrder_175 (fun σ500 H locs eσ500 hP hS => ?_)
                    have w501 : ∀ k : Nat, k < 8 → 0 ≤ (σ499 11 k).toInt ∧ (σ499 11 k).toInt ≤ 3 := (jrr_fr (jnp 11 eσ499 (by decide)) (jrr_fr (jnp 11 eσ498 (by decide)) (jrr_fr (jnp 11 eσ497 (by decide)) w490)))
                    have w502 : ∀ k : Nat, k < 8 → 0 ≤ (σ499 17 k).toInt ∧ (σ499 17 k).toInt ≤ 3 := (jrr_fr (jnp 17 eσ499 (by decide)) (jrr_fr (jnp 17 eσ498 (by decide)) (jrr_fr (jnp 17 eσ497 (by decide)) (jrr_fr (f484 17 (by decide)) (jrr_fr (f468 17 (by decide)) (jrr_fr (f452 17 (by decide)) (jrr_fr (f31 17 (by decide)) (jrr_fr (f10 17 (by decide)) w7))))))))
                    have f503 : (∀ i : Nat, (i < 17 ∨ 17 < i) → σ500 i = σ499 i) := by rw [eσ500]; exact jrow_n
                    have w504 : ∀ k : Nat, k < 8 → 0 ≤ (σ500 17 k).toInt ∧ (σ500 17 k).toInt ≤ 3 := by rw [eσ500]; exact jrow_rr w501 w502 jz_0 rfl (n0 := 8) (by omega) (by omega) (by omega)
                    refine lv_iconst (v := (-1)) hx hb dX7_readOrder_178 (by decide) ?_
                    have I505 : jI9 σ500 := jI9_fr ((congrFun (f503 9 (by decide)) 0).trans ((congrFun (jnp 9 eσ499 (by decide)) 0).trans ((congrFun (jnp 9 eσ498 (by decide)) 0).trans (congrFun (jnp 9 eσ497 (by decide)) 0)))) ((f503 10 (by decide)).trans ((jnp 10 eσ499 (by decide)).trans ((jnp 10 eσ498 (by decide)).trans (jnp 10 eσ497 (by decide))))) ((f503 11 (by decide)).trans ((jnp 11 eσ499 (by decide)).trans ((jnp 11 eσ498 (by decide)).trans (jnp 11 eσ497 (by decide))))) I486
                    have z506 : (σ500 16 0).toInt = x24.toInt := (congrArg Int32.toInt (show σ500 16 0 = x24 from ((congrFun (f503 16 (by decide)) 0).trans ((jkp 0 eσ499 (by decide)).trans ((jkp 0 eσ498 (by decide)).trans (jsp eσ497))))))
                    have z507 : (σ500 16 1).toInt = 8 := ((congrArg Int32.toInt (show σ500 16 1 = 8 from ((congrFun (f503 16 (by decide)) 1).trans ((jkp 1 eσ499 (by decide)).trans (jsp eσ498))))).trans jz_8)
                    have z508 : (σ500 16 2).toInt = 0 := ((congrArg Int32.toInt (show σ500 16 2 = 0 from ((congrFun (f503 16 (by decide)) 2).trans (jsp eσ499)))).trans jz_0)
                    have I509 : jI16 σ500 := ⟨(by omega), (by omega), (by omega), w504⟩
                    have z510 : (σ500 9 0).toInt = (σ482 9 0).toInt := (congrArg Int32.toInt (show σ500 9 0 = (σ482 9 0) from ((congrFun (f503 9 (by decide)) 0).trans ((congrFun (jnp 9 eσ499 (by decide)) 0).trans ((congrFun (jnp 9 eσ498 (by decide)) 0).trans (congrFun (jnp 9 eσ497 (by decide)) 0))))))
                    exact hret (-1) σ500 τ _ _ _ _ rfl ⟨rfl, (fun i hi => ((f503 i (imp_44 i hi)).trans ((jnp i eσ499 (imp_45 i hi)).trans ((jnp i eσ498 (imp_45 i hi)).trans ((jnp i eσ497 (imp_45 i hi)).trans ((f484 i (imp_46 i hi)).trans ((f468 i (imp_46 i hi)).trans ((f452 i (imp_46 i hi)).trans ((f31 i (imp_47 i hi)).trans (f10 i (imp_46 i hi))))))))))), (fun i hi => ((congrFun (f503 9 (by decide)) i).trans ((congrFun (jnp 9 eσ499 (by decide)) i).trans ((congrFun (jnp 9 eσ498 (by decide)) i).trans ((congrFun (jnp 9 eσ497 (by decide)) i).trans ((f485 i (imp_48 i hi)).trans ((f469 i (imp_49 i hi)).trans ((f453 i (imp_49 i hi)).trans ((f32 i (imp_49 i hi)).trans (f11 i (imp_50 i hi))))))))))), (fun i hi => ((congrFun (f503 16 (by decide)) i).trans ((jkp i eσ499 (imp_51 i hi)).trans ((jkp i eσ498 (imp_52 i hi)).trans ((jkp i eσ497 (imp_53 i hi)).trans ((congrFun (f484 16 (by decide)) i).trans ((congrFun (f468 16 (by decide)) i).trans ((congrFun (f452 16 (by decide)) i).trans ((congrFun (f31 16 (by decide)) i).trans (congrFun (f10 16 (by decide)) i)))))))))), I505, I509, (by omega), trivial⟩ hP hS dX7_readOrder_179
                  · obtain ⟨q512, k511⟩ := h494
                    refine lv_istore (lv' := [(5, .int r483), (4, .int 0), (3, .int 8), (2, .int x24), (0, .ref (ad 9)), (1, .ref (ad 16))]) hx hb dX7_readOrder_137 hl (by decide) rfl (fun ls hl => ?_)
                    refine lv_iload hx hb dX7_readOrder_139 (lv_at hl 0 rfl) ?_
                    refine lv_iconst (v := (-1)) hx hb dX7_readOrder_141 (by decide) ?_
                    refine lv_icmp_eq (tgt := 148) hx hb dX7_readOrder_142 (by decide) (fun c => absurd (jeq c rfl jz_m1) (by omega)) (fun c513 => ?_)
                    have kc513 := jne c513 rfl jz_m1
                    refine lv_iload hx hb dX7_readOrder_145 (lv_at hl 0 rfl) ?_
                    have I514 : jI16 σ482 := jI16_fr ((congrFun (f484 16 (by decide)) 0).trans ((congrFun (f468 16 (by decide)) 0).trans ((congrFun (f452 16 (by decide)) 0).trans ((congrFun (f31 16 (by decide)) 0).trans (congrFun (f10 16 (by decide)) 0))))) ((congrFun (f484 16 (by decide)) 1).trans ((congrFun (f468 16 (by decide)) 1).trans ((congrFun (f452 16 (by decide)) 1).trans ((congrFun (f31 16 (by decide)) 1).trans (congrFun (f10 16 (by decide)) 1))))) ((congrFun (f484 16 (by decide)) 2).trans ((congrFun (f468 16 (by decide)) 2).trans ((congrFun (f452 16 (by decide)) 2).trans ((congrFun (f31 16 (by decide)) 2).trans (congrFun (f10 16 (by decide)) 2))))) ((f484 17 (by decide)).trans ((f468 17 (by decide)).trans ((f452 17 (by decide)).trans ((f31 17 (by decide)).trans (f10 17 (by decide)))))) hI16
                    exact hret r483 σ482 τ _ _ _ _ rfl ⟨rfl, (fun i hi => ((f484 i (imp_46 i hi)).trans ((f468 i (imp_46 i hi)).trans ((f452 i (imp_46 i hi)).trans ((f31 i (imp_47 i hi)).trans (f10 i (imp_46 i hi))))))), (fun i hi => ((f485 i (imp_48 i hi)).trans ((f469 i (imp_49 i hi)).trans ((f453 i (imp_49 i hi)).trans ((f32 i (imp_49 i hi)).trans (f11 i (imp_50 i hi))))))), (fun i hi => ((congrFun (f484 16 (by decide)) i).trans ((congrFun (f468 16 (by decide)) i).trans ((congrFun (f452 16 (by decide)) i).trans ((congrFun (f31 16 (by decide)) i).trans (congrFun (f10 16 (by decide)) i)))))), I486, I514, (by omega), trivial⟩ hP hS dX7_readOrder_147
                · have kc481 := jne c481 rfl jz_0
                  refine lv_aload_n hx hb dX7_readOrder_126 rfl (lv_at hl 3 rfl) ?_
                  refine lv_iconst (v := 3) hx hb dX7_readOrder_127 (by decide) ?_
                  refine jcallV (As := [.int 3]) (rest := []) ⟨hx, hb, hml, hown, hts⟩ hK hP hA hS hZ (c_X7_number_3 l D cI cL ad zz hJ σ466 τ I470 I471 I472) cw_RX7_53 (jc_9 cI cL ad σ466 τ) rfl ⟨Nat.le_of_ble_eq_true rfl, Nat.le_of_ble_eq_true rfl⟩ rfl rfl rfl hl.1 rfl (Nat.le_of_ble_eq_true rfl) dX7_readOrder_128 ⟨Nat.zero_le _, Nat.zero_le _⟩ (fun r516 σ515 τ515 H locs h515 hP hS => ?_)
                  obtain ⟨rfl, f517, f518, I519, I520, I521, h515⟩ := h515
                  obtain ⟨i522, w523, w524⟩ : (0 ≤ (σ515 9 0).toInt ∧ (σ515 9 0).toInt ≤ 80) ∧ (∀ k : Nat, k < 80 → 0 ≤ (σ515 10 k).toInt ∧ (σ515 10 k).toInt ≤ 255) ∧ (∀ k : Nat, k < 8 → 0 ≤ (σ515 11 k).toInt ∧ (σ515 11 k).toInt ≤ 3) := id I519
                  obtain ⟨i525, i526⟩ : (0 ≤ (σ515 9 1).toInt) ∧ ((σ515 9 1).toInt ≤ (σ515 9 0).toInt) := id I520
                  have i527 : (-1) ≤ (σ515 9 2).toInt := I521
                  have z528 : (σ515 9 0).toInt = (σ 9 0).toInt := (congrArg Int32.toInt (show σ515 9 0 = (σ 9 0) from ((f518 0 (by decide)).trans ((f469 0 (by decide)).trans ((f453 0 (by decide)).trans ((f32 0 (by decide)).trans (f11 0 (by decide))))))))
                  obtain ⟨k529, h515⟩ := h515
                  have h530 := h515
                  obtain ⟨q532, k531⟩ := h530
                  refine lv_istore (lv' := [(4, .int r516), (3, .int 8), (2, .int x24), (0, .ref (ad 9)), (1, .ref (ad 16))]) hx hb dX7_readOrder_131 hl (by decide) rfl (fun ls hl => ?_)
                  refine lv_aload_n hx hb dX7_readOrder_133 rfl (lv_at hl 3 rfl) ?_
                  refine jcallV (As := []) (rest := []) ⟨hx, hb, hml, hown, hts⟩ hK hP hA hS hZ (c_X7_end_9 l D cI cL ad zz hJ σ515 τ I519 I520 I521) cw_RX7_57 (jc_9 cI cL ad σ515 τ) rfl ⟨Nat.le_of_ble_eq_true rfl, Nat.le_of_ble_eq_true rfl⟩ rfl rfl rfl hl.1 rfl (Nat.le_of_ble_eq_true rfl) dX7_readOrder_134 ⟨Nat.zero_le _, Nat.zero_le _⟩ (fun r534 σ533 τ533 H locs h533 hP hS => ?_)
                  obtain ⟨rfl, f535, f536, I537, I538, h533⟩ := h533
                  obtain ⟨i539, w540, w541⟩ : (0 ≤ (σ533 9 0).toInt ∧ (σ533 9 0).toInt ≤ 80) ∧ (∀ k : Nat, k < 80 → 0 ≤ (σ533 10 k).toInt ∧ (σ533 10 k).toInt ≤ 255) ∧ (∀ k : Nat, k < 8 → 0 ≤ (σ533 11 k).toInt ∧ (σ533 11 k).toInt ≤ 3) := id I537
                  have i542 : (-1) ≤ (σ533 9 2).toInt := I538
                  obtain ⟨k543, h533⟩ := h533
                  rcases h533 with h544 | h545
                  · obtain ⟨q547, k546⟩ := h544
                    have q547 := q547.symm
                    subst q547
                    refine lv_istore (lv' := [(5, .int (-1)), (4, .int r516), (3, .int 8), (2, .int x24), (0, .ref (ad 9)), (1, .ref (ad 16))]) hx hb dX7_readOrder_137 hl (by decide) rfl (fun ls hl => ?_)
                    refine lv_iload hx hb dX7_readOrder_139 (lv_at hl 0 rfl) ?_
                    refine lv_iconst (v := (-1)) hx hb dX7_readOrder_141 (by decide) ?_
                    refine lv_icmp_eq (tgt := 148) hx hb dX7_readOrder_142 (by decide) (fun _ => ?_) (fun c => absurd (by decide) c)
                    refine lv_aload_n hx hb dX7_readOrder_148 rfl (lv_at hl 5 rfl) ?_
                    refine lv_iload_n hx hb dX7_readOrder_149 rfl (lv_at hl 3 rfl) ?_
                    refine jput (ty := .int) hx hb hts inlX6 tyX6 tyX6_ok nmX6 hown hK hP hJ hA hS (jc_16 cI cL ad σ533 τ) rfl (k := 0) (by decide) (Nat.le_of_ble_eq_true rfl) (jp_16_0 cI cL ad σ533 τ x24) (hts _ kw_13_18) (fun _ h9 => h9) rfl (by decide +kernel) rfl rfl dX7_readOrder_150 (fun σ548 H locs eσ548 hP hS => ?_)
                    refine lv_aload_n hx hb dX7_readOrder_153 rfl (lv_at hl 5 rfl) ?_
                    refine lv_iload_n hx hb dX7_readOrder_154 rfl (lv_at hl 2 rfl) ?_
                    refine jput (ty := .int) hx hb hts inlX6 tyX6 tyX6_ok nmX6 hown hK hP hJ hA hS (jc_16 cI cL ad σ548 τ) rfl (k := 1) (by decide) (Nat.le_of_ble_eq_true rfl) (jp_16_1 cI cL ad σ548 τ 8) (hts _ kw_13_19) (fun _ h9 => h9) rfl (by decide +kernel) rfl rfl dX7_readOrder_155 (fun σ549 H locs eσ549 hP hS => ?_)
                    refine lv_aload_n hx hb dX7_readOrder_158 rfl (lv_at hl 5 rfl) ?_
                    refine lv_iload hx hb dX7_readOrder_159 (lv_at hl 1 rfl) ?_
                    refine jput (ty := .int) hx hb hts inlX6 tyX6 tyX6_ok nmX6 hown hK hP hJ hA hS (jc_16 cI cL ad σ549 τ) rfl (k := 2) (by decide) (Nat.le_of_ble_eq_true rfl) (jp_16_2 cI cL ad σ549 τ r516) (hts _ kw_13_20) (fun _ h9 => h9) rfl (by decide +kernel) rfl rfl dX7_readOrder_161 (fun σ550 H locs eσ550 hP hS => ?_)
                    refine lv_aload_n hx hb dX7_readOrder_164 rfl (lv_at hl 4 rfl) ?_
                    refine va_get (D := D) hx hb hts inlX7 hown hK hP 9 (jc_9 cI cL ad σ550 τ) rfl 4 (by decide) (hts _ kw_3_21) (fun _ h9 => h9) rfl dX7_readOrder_165 ?_
                    refine lv_iconst (v := 0) hx hb dX7_readOrder_168 (by decide) ?_
                    refine lv_aload_n hx hb dX7_readOrder_169 rfl (lv_at hl 5 rfl) ?_
                    refine va_get (D := D) hx hb hts inlX6 hown hK hP 16 (jc_16 cI cL ad σ550 τ) rfl 3 (by decide) (hts _ kw_13_21) (fun _ h9 => h9) rfl dX7_readOrder_170 ?_
                    refine lv_iconst (v := 0) hx hb dX7_readOrder_173 (by decide) ?_
                    refine lv_iload_n hx hb dX7_readOrder_174 rfl (lv_at hl 3 rfl) ?_
                    refine jcpyI (q0 := 11) (q1 := 17) hx hb (hml.trans hl.1.symm) hown (hts _ kw_13_22) (hts _ kw_13_23) (hts _ kw_14_0) (hts _ kw_14_1) hK hP hJ hA hS (jc_11 cI cL ad σ550 τ) (jc_17 cI cL ad σ550 τ) (fun _ => rfl) jz_0 jz_0 rfl (by omega) (by omega) (by omega) (by omega) (by omega) (Nat.le_of_ble_eq_true rfl) (Nat.le_of_ble_eq_true rfl) dX7_readOrder_175 (fun σ551 H locs eσ551 hP hS => ?_)
                    have w552 : ∀ k : Nat, k < 8 → 0 ≤ (σ550 11 k).toInt ∧ (σ550 11 k).toInt ≤ 3 := (jrr_fr (jnp 11 eσ550 (by decide)) (jrr_fr (jnp 11 eσ549 (by decide)) (jrr_fr (jnp 11 eσ548 (by decide)) w541)))
                    have w553 : ∀ k : Nat, k < 8 → 0 ≤ (σ550 17 k).toInt ∧ (σ550 17 k).toInt ≤ 3 := (jrr_fr (jnp 17 eσ550 (by decide)) (jrr_fr (jnp 17 eσ549 (by decide)) (jrr_fr (jnp 17 eσ548 (by decide)) (jrr_fr (f535 17 (by decide)) (jrr_fr (f517 17 (by decide)) (jrr_fr (f468 17 (by decide)) (jrr_fr (f452 17 (by decide)) (jrr_fr (f31 17 (by decide)) (jrr_fr (f10 17 (by decide)) w7)))))))))
                    have f554 : (∀ i : Nat, (i < 17 ∨ 17 < i) → σ551 i = σ550 i) := by rw [eσ551]; exact jrow_n
                    have w555 : ∀ k : Nat, k < 8 → 0 ≤ (σ551 17 k).toInt ∧ (σ551 17 k).toInt ≤ 3 := by rw [eσ551]; exact jrow_rr w552 w553 jz_0 rfl (n0 := 8) (by omega) (by omega) (by omega)
                    refine lv_iconst (v := (-1)) hx hb dX7_readOrder_178 (by decide) ?_
                    have I556 : jI9 σ551 := jI9_fr ((congrFun (f554 9 (by decide)) 0).trans ((congrFun (jnp 9 eσ550 (by decide)) 0).trans ((congrFun (jnp 9 eσ549 (by decide)) 0).trans (congrFun (jnp 9 eσ548 (by decide)) 0)))) ((f554 10 (by decide)).trans ((jnp 10 eσ550 (by decide)).trans ((jnp 10 eσ549 (by decide)).trans (jnp 10 eσ548 (by decide))))) ((f554 11 (by decide)).trans ((jnp 11 eσ550 (by decide)).trans ((jnp 11 eσ549 (by decide)).trans (jnp 11 eσ548 (by decide))))) I537
                    have z557 : (σ551 16 0).toInt = x24.toInt := (congrArg Int32.toInt (show σ551 16 0 = x24 from ((congrFun (f554 16 (by decide)) 0).trans ((jkp 0 eσ550 (by decide)).trans ((jkp 0 eσ549 (by decide)).trans (jsp eσ548))))))
                    have z558 : (σ551 16 1).toInt = 8 := ((congrArg Int32.toInt (show σ551 16 1 = 8 from ((congrFun (f554 16 (by decide)) 1).trans ((jkp 1 eσ550 (by decide)).trans (jsp eσ549))))).trans jz_8)
                    have z559 : (σ551 16 2).toInt = r516.toInt := (congrArg Int32.toInt (show σ551 16 2 = r516 from ((congrFun (f554 16 (by decide)) 2).trans (jsp eσ550))))
                    have I560 : jI16 σ551 := ⟨(by omega), (by omega), (by omega), w555⟩
                    have z561 : (σ551 9 0).toInt = (σ533 9 0).toInt := (congrArg Int32.toInt (show σ551 9 0 = (σ533 9 0) from ((congrFun (f554 9 (by decide)) 0).trans ((congrFun (jnp 9 eσ550 (by decide)) 0).trans ((congrFun (jnp 9 eσ549 (by decide)) 0).trans (congrFun (jnp 9 eσ548 (by decide)) 0))))))
                    exact hret (-1) σ551 τ _ _ _ _ rfl ⟨rfl, (fun i hi => ((f554 i (imp_44 i hi)).trans ((jnp i eσ550 (imp_45 i hi)).trans ((jnp i eσ549 (imp_45 i hi)).trans ((jnp i eσ548 (imp_45 i hi)).trans ((f535 i (imp_46 i hi)).trans ((f517 i (imp_46 i hi)).trans ((f468 i (imp_46 i hi)).trans ((f452 i (imp_46 i hi)).trans ((f31 i (imp_47 i hi)).trans (f10 i (imp_46 i hi)))))))))))), (fun i hi => ((congrFun (f554 9 (by decide)) i).trans ((congrFun (jnp 9 eσ550 (by decide)) i).trans ((congrFun (jnp 9 eσ549 (by decide)) i).trans ((congrFun (jnp 9 eσ548 (by decide)) i).trans ((f536 i (imp_48 i hi)).trans ((f518 i (imp_50 i hi)).trans ((f469 i (imp_49 i hi)).trans ((f453 i (imp_49 i hi)).trans ((f32 i (imp_49 i hi)).trans (f11 i (imp_50 i hi)))))))))))), (fun i hi => ((congrFun (f554 16 (by decide)) i).trans ((jkp i eσ550 (imp_51 i hi)).trans ((jkp i eσ549 (imp_52 i hi)).trans ((jkp i eσ548 (imp_53 i hi)).trans ((congrFun (f535 16 (by decide)) i).trans ((congrFun (f517 16 (by decide)) i).trans ((congrFun (f468 16 (by decide)) i).trans ((congrFun (f452 16 (by decide)) i).trans ((congrFun (f31 16 (by decide)) i).trans (congrFun (f10 16 (by decide)) i))))))))))), I556, I560, (by omega), trivial⟩ hP hS dX7_readOrder_179
                  · obtain ⟨q563, k562⟩ := h545
                    refine lv_istore (lv' := [(5, .int r534), (4, .int r516), (3, .int 8), (2, .int x24), (0, .ref (ad 9)), (1, .ref (ad 16))]) hx hb dX7_readOrder_137 hl (by decide) rfl (fun ls hl => ?_)
                    refine lv_iload hx hb dX7_readOrder_139 (lv_at hl 0 rfl) ?_
                    refine lv_iconst (v := (-1)) hx hb dX7_readOrder_141 (by decide) ?_
                    refine lv_icmp_eq (tgt := 148) hx hb dX7_readOrder_142 (by decide) (fun c => absurd (jeq c rfl jz_m1) (by omega)) (fun c564 => ?_)
                    have kc564 := jne c564 rfl jz_m1
                    refine lv_iload hx hb dX7_readOrder_145 (lv_at hl 0 rfl) ?_
                    have I565 : jI16 σ533 := jI16_fr ((congrFun (f535 16 (by decide)) 0).trans ((congrFun (f517 16 (by decide)) 0).trans ((congrFun (f468 16 (by decide)) 0).trans ((congrFun (f452 16 (by decide)) 0).trans ((congrFun (f31 16 (by decide)) 0).trans (congrFun (f10 16 (by decide)) 0)))))) ((congrFun (f535 16 (by decide)) 1).trans ((congrFun (f517 16 (by decide)) 1).trans ((congrFun (f468 16 (by decide)) 1).trans ((congrFun (f452 16 (by decide)) 1).trans ((congrFun (f31 16 (by decide)) 1).trans (congrFun (f10 16 (by decide)) 1)))))) ((congrFun (f535 16 (by decide)) 2).trans ((congrFun (f517 16 (by decide)) 2).trans ((congrFun (f468 16 (by decide)) 2).trans ((congrFun (f452 16 (by decide)) 2).trans ((congrFun (f31 16 (by decide)) 2).trans (congrFun (f10 16 (by decide)) 2)))))) ((f535 17 (by decide)).trans ((f517 17 (by decide)).trans ((f468 17 (by decide)).trans ((f452 17 (by decide)).trans ((f31 17 (by decide)).trans (f10 17 (by decide))))))) hI16
                    exact hret r534 σ533 τ _ _ _ _ rfl ⟨rfl, (fun i hi => ((f535 i (imp_46 i hi)).trans ((f517 i (imp_46 i hi)).trans ((f468 i (imp_46 i hi)).trans ((f452 i (imp_46 i hi)).trans ((f31 i (imp_47 i hi)).trans (f10 i (imp_46 i hi)))))))), (fun i hi => ((f536 i (imp_48 i hi)).trans ((f518 i (imp_50 i hi)).trans ((f469 i (imp_49 i hi)).trans ((f453 i (imp_49 i hi)).trans ((f32 i (imp_49 i hi)).trans (f11 i (imp_50 i hi)))))))), (fun i hi => ((congrFun (f535 16 (by decide)) i).trans ((congrFun (f517 16 (by decide)) i).trans ((congrFun (f468 16 (by decide)) i).trans ((congrFun (f452 16 (by decide)) i).trans ((congrFun (f31 16 (by decide)) i).trans (congrFun (f10 16 (by decide)) i))))))), I537, I565, (by omega), trivial⟩ hP hS dX7_readOrder_147
              · have kc465 := jne c465 rfl jz_0
                refine lv_aload_n hx hb dX7_readOrder_88 rfl (lv_at hl 3 rfl) ?_
                refine va_get (D := D) hx hb hts inlX7 hown hK hP 9 (jc_9 cI cL ad σ450 τ) rfl 1 (by decide) (hts _ kw_13_17) (fun _ h9 => h9) rfl dX7_readOrder_89 ?_
                refine lv_istore (lv' := [(5, .int (σ450 9 1)), (4, .int 0), (3, .int 8), (2, .int x24), (0, .ref (ad 9)), (1, .ref (ad 16))]) hx hb dX7_readOrder_92 hl (by decide) rfl (fun ls hl => ?_)
                refine lv_aload_n hx hb dX7_readOrder_94 rfl (lv_at hl 4 rfl) ?_
                refine lv_iconst (v := 2) hx hb dX7_readOrder_95 (by decide) ?_
                refine jcallV (As := [.int 2]) (rest := []) ⟨hx, hb, hml, hown, hts⟩ hK hP hA hS hZ (c_X7_number_2 l D cI cL ad zz hJ σ450 τ I454 I455 I456) cw_RX7_53 (jc_9 cI cL ad σ450 τ) rfl ⟨Nat.le_of_ble_eq_true rfl, Nat.le_of_ble_eq_true rfl⟩ rfl rfl rfl hl.1 rfl (Nat.le_of_ble_eq_true rfl) dX7_readOrder_96 ⟨Nat.zero_le _, Nat.zero_le _⟩ (fun r567 σ566 τ566 H locs h566 hP hS => ?_)
                obtain ⟨rfl, f568, f569, I570, I571, I572, h566⟩ := h566
                obtain ⟨i573, w574, w575⟩ : (0 ≤ (σ566 9 0).toInt ∧ (σ566 9 0).toInt ≤ 80) ∧ (∀ k : Nat, k < 80 → 0 ≤ (σ566 10 k).toInt ∧ (σ566 10 k).toInt ≤ 255) ∧ (∀ k : Nat, k < 8 → 0 ≤ (σ566 11 k).toInt ∧ (σ566 11 k).toInt ≤ 3) := id I570
                obtain ⟨i576, i577⟩ : (0 ≤ (σ566 9 1).toInt) ∧ ((σ566 9 1).toInt ≤ (σ566 9 0).toInt) := id I571
                have i578 : (-1) ≤ (σ566 9 2).toInt := I572
                have z579 : (σ566 9 0).toInt = (σ 9 0).toInt := (congrArg Int32.toInt (show σ566 9 0 = (σ 9 0) from ((f569 0 (by decide)).trans ((f453 0 (by decide)).trans ((f32 0 (by decide)).trans (f11 0 (by decide)))))))
                obtain ⟨k580, h566⟩ := h566
                have h581 := h566
                obtain ⟨q583, k582⟩ := h581
                refine lv_istore_n (lv' := [(3, .int r567), (5, .int (σ450 9 1)), (4, .int 0), (2, .int x24), (0, .ref (ad 9)), (1, .ref (ad 16))]) hx hb dX7_readOrder_99 rfl hl (by decide) rfl (fun ls hl => ?_)
                refine lv_iload_n hx hb dX7_readOrder_100 rfl (lv_at hl 0 rfl) ?_
                refine lv_iconst (v := 1) hx hb dX7_readOrder_101 (by decide) ?_
                refine lv_icmp_lt (tgt := 111) hx hb dX7_readOrder_102 (by decide) (fun c584 => ?_) (fun c584 => ?_)
                · have kc584 := jlt c584 rfl jz_1
                  refine lv_aload_n hx hb dX7_readOrder_111 rfl (lv_at hl 4 rfl) ?_
                  refine lv_iload hx hb dX7_readOrder_112 (lv_at hl 1 rfl) ?_
                  refine jcallVv (As := [.int (σ450 9 1)]) (rest := []) ⟨hx, hb, hml, hown, hts⟩ hK hP hA hS hZ (c_X7_fail_9 l D cI cL ad zz hJ σ566 τ (σ450 9 1) ((σ450 9 1).toInt) rfl I572 (by omega)) cw_RX7_43 (jc_9 cI cL ad σ566 τ) rfl ⟨Nat.le_of_ble_eq_true rfl, Nat.le_of_ble_eq_true rfl⟩ rfl rfl rfl hl.1 rfl (Nat.le_of_ble_eq_true rfl) dX7_readOrder_114 ⟨Nat.zero_le _, Nat.zero_le _⟩ (fun σ585 τ585 H locs h585 hP hS => ?_)
                  obtain ⟨rfl, f587, f588, h585⟩ := h585
                  obtain ⟨k589, h585⟩ := h585
                  refine lv_aload_n hx hb dX7_readOrder_117 rfl (lv_at hl 4 rfl) ?_
                  refine lv_bipush (v := 114) hx hb dX7_readOrder_118 (by decide) ?_
                  have I590 : jI9 σ585 := jI9_fr (f588 0 (by decide)) (f587 10 (by decide)) (f587 11 (by decide)) I570
                  have I591 : jI91 σ585 := jI91_fr (f588 0 (by decide)) (f588 1 (by decide)) I571
                  have I592 : jI92 σ585 := (show (-1) ≤ (σ585 9 2).toInt by omega)
                  refine jcallV (As := [.int 114]) (rest := []) ⟨hx, hb, hml, hown, hts⟩ hK hP hA hS hZ (c_X7_skip_9 l D cI cL ad zz hJ σ585 τ 114 (114) jz_114 I590 I591 I592 (by omega)) cw_RX7_50 (jc_9 cI cL ad σ585 τ) rfl ⟨Nat.le_of_ble_eq_true rfl, Nat.le_of_ble_eq_true rfl⟩ rfl rfl rfl hl.1 rfl (Nat.le_of_ble_eq_true rfl) dX7_readOrder_120 ⟨Nat.zero_le _, Nat.zero_le _⟩ (fun r594 σ593 τ593 H locs h593 hP hS => ?_)
                  obtain ⟨rfl, f595, f596, I597, I598, I599, h593⟩ := h593
                  obtain ⟨i600, w601, w602⟩ : (0 ≤ (σ593 9 0).toInt ∧ (σ593 9 0).toInt ≤ 80) ∧ (∀ k : Nat, k < 80 → 0 ≤ (σ593 10 k).toInt ∧ (σ593 10 k).toInt ≤ 255) ∧ (∀ k : Nat, k < 8 → 0 ≤ (σ593 11 k).toInt ∧ (σ593 11 k).toInt ≤ 3) := id I597
                  obtain ⟨i603, i604⟩ : (0 ≤ (σ593 9 1).toInt) ∧ ((σ593 9 1).toInt ≤ (σ593 9 0).toInt) := id I598
                  have i605 : (-1) ≤ (σ593 9 2).toInt := I599
                  have z606 : (σ593 9 0).toInt = (σ 9 0).toInt := (congrArg Int32.toInt (show σ593 9 0 = (σ 9 0) from ((f596 0 (by decide)).trans ((f588 0 (by decide)).trans ((f569 0 (by decide)).trans ((f453 0 (by decide)).trans ((f32 0 (by decide)).trans (f11 0 (by decide)))))))))
                  have z607 : (σ593 9 2).toInt = (σ585 9 2).toInt := (congrArg Int32.toInt (show σ593 9 2 = (σ585 9 2) from (f596 2 (by decide))))
                  refine lv_if_eq (tgt := 133) hx hb dX7_readOrder_123 (by decide) (fun c608 => ?_) (fun c608 => ?_)
                  · have kc608 := jeq c608 rfl jz_0
                    refine lv_aload_n hx hb dX7_readOrder_133 rfl (lv_at hl 4 rfl) ?_
                    refine jcallV (As := []) (rest := []) ⟨hx, hb, hml, hown, hts⟩ hK hP hA hS hZ (c_X7_end_9 l D cI cL ad zz hJ σ593 τ I597 I598 I599) cw_RX7_57 (jc_9 cI cL ad σ593 τ) rfl ⟨Nat.le_of_ble_eq_true rfl, Nat.le_of_ble_eq_true rfl⟩ rfl rfl rfl hl.1 rfl (Nat.le_of_ble_eq_true rfl) dX7_readOrder_134 ⟨Nat.zero_le _, Nat.zero_le _⟩ (fun r610 σ609 τ609 H locs h609 hP hS => ?_)
                    obtain ⟨rfl, f611, f612, I613, I614, h609⟩ := h609
                    obtain ⟨i615, w616, w617⟩ : (0 ≤ (σ609 9 0).toInt ∧ (σ609 9 0).toInt ≤ 80) ∧ (∀ k : Nat, k < 80 → 0 ≤ (σ609 10 k).toInt ∧ (σ609 10 k).toInt ≤ 255) ∧ (∀ k : Nat, k < 8 → 0 ≤ (σ609 11 k).toInt ∧ (σ609 11 k).toInt ≤ 3) := id I613
                    have i618 : (-1) ≤ (σ609 9 2).toInt := I614
                    obtain ⟨k619, h609⟩ := h609
                    rcases h609 with h620 | h621
                    · obtain ⟨q623, k622⟩ := h620
                      exact absurd (by omega : False) id
                    · obtain ⟨q625, k624⟩ := h621
                      refine lv_istore (lv' := [(5, .int r610), (3, .int r567), (4, .int 0), (2, .int x24), (0, .ref (ad 9)), (1, .ref (ad 16))]) hx hb dX7_readOrder_137 hl (by decide) rfl (fun ls hl => ?_)
                      refine lv_iload hx hb dX7_readOrder_139 (lv_at hl 0 rfl) ?_
                      refine lv_iconst (v := (-1)) hx hb dX7_readOrder_141 (by decide) ?_
                      refine lv_icmp_eq (tgt := 148) hx hb dX7_readOrder_142 (by decide) (fun c => absurd (jeq c rfl jz_m1) (by omega)) (fun c626 => ?_)
                      have kc626 := jne c626 rfl jz_m1
                      refine lv_iload hx hb dX7_readOrder_145 (lv_at hl 0 rfl) ?_
                      have I627 : jI16 σ609 := jI16_fr ((congrFun (f611 16 (by decide)) 0).trans ((congrFun (f595 16 (by decide)) 0).trans ((congrFun (f587 16 (by decide)) 0).trans ((congrFun (f568 16 (by decide)) 0).trans ((congrFun (f452 16 (by decide)) 0).trans ((congrFun (f31 16 (by decide)) 0).trans (congrFun (f10 16 (by decide)) 0))))))) ((congrFun (f611 16 (by decide)) 1).trans ((congrFun (f595 16 (by decide)) 1).trans ((congrFun (f587 16 (by decide)) 1).trans ((congrFun (f568 16 (by decide)) 1).trans ((congrFun (f452 16 (by decide)) 1).trans ((congrFun (f31 16 (by decide)) 1).trans (congrFun (f10 16 (by decide)) 1))))))) ((congrFun (f611 16 (by decide)) 2).trans ((congrFun (f595 16 (by decide)) 2).trans ((congrFun (f587 16 (by decide)) 2).trans ((congrFun (f568 16 (by decide)) 2).trans ((congrFun (f452 16 (by decide)) 2).trans ((congrFun (f31 16 (by decide)) 2).trans (congrFun (f10 16 (by decide)) 2))))))) ((f611 17 (by decide)).trans ((f595 17 (by decide)).trans ((f587 17 (by decide)).trans ((f568 17 (by decide)).trans ((f452 17 (by decide)).trans ((f31 17 (by decide)).trans (f10 17 (by decide)))))))) hI16
                      exact hret r610 σ609 τ _ _ _ _ rfl ⟨rfl, (fun i hi => ((f611 i (imp_46 i hi)).trans ((f595 i (imp_46 i hi)).trans ((f587 i (imp_46 i hi)).trans ((f568 i (imp_46 i hi)).trans ((f452 i (imp_46 i hi)).trans ((f31 i (imp_47 i hi)).trans (f10 i (imp_46 i hi))))))))), (fun i hi => ((f612 i (imp_48 i hi)).trans ((f596 i (imp_49 i hi)).trans ((f588 i (imp_54 i hi)).trans ((f569 i (imp_50 i hi)).trans ((f453 i (imp_49 i hi)).trans ((f32 i (imp_49 i hi)).trans (f11 i (imp_50 i hi))))))))), (fun i hi => ((congrFun (f611 16 (by decide)) i).trans ((congrFun (f595 16 (by decide)) i).trans ((congrFun (f587 16 (by decide)) i).trans ((congrFun (f568 16 (by decide)) i).trans ((congrFun (f452 16 (by decide)) i).trans ((congrFun (f31 16 (by decide)) i).trans (congrFun (f10 16 (by decide)) i)))))))), I613, I627, (by omega), trivial⟩ hP hS dX7_readOrder_147
                  · have kc608 := jne c608 rfl jz_0
                    refine lv_aload_n hx hb dX7_readOrder_126 rfl (lv_at hl 4 rfl) ?_
                    refine lv_iconst (v := 3) hx hb dX7_readOrder_127 (by decide) ?_
                    refine jcallV (As := [.int 3]) (rest := []) ⟨hx, hb, hml, hown, hts⟩ hK hP hA hS hZ (c_X7_number_3 l D cI cL ad zz hJ σ593 τ I597 I598 I599) cw_RX7_53 (jc_9 cI cL ad σ593 τ) rfl ⟨Nat.le_of_ble_eq_true rfl, Nat.le_of_ble_eq_true rfl⟩ rfl rfl rfl hl.1 rfl (Nat.le_of_ble_eq_true rfl) dX7_readOrder_128 ⟨Nat.zero_le _, Nat.zero_le _⟩ (fun r629 σ628 τ628 H locs h628 hP hS => ?_)
                    obtain ⟨rfl, f630, f631, I632, I633, I634, h628⟩ := h628
                    obtain ⟨i635, w636, w637⟩ : (0 ≤ (σ628 9 0).toInt ∧ (σ628 9 0).toInt ≤ 80) ∧ (∀ k : Nat, k < 80 → 0 ≤ (σ628 10 k).toInt ∧ (σ628 10 k).toInt ≤ 255) ∧ (∀ k : Nat, k < 8 → 0 ≤ (σ628 11 k).toInt ∧ (σ628 11 k).toInt ≤ 3) := id I632
                    obtain ⟨i638, i639⟩ : (0 ≤ (σ628 9 1).toInt) ∧ ((σ628 9 1).toInt ≤ (σ628 9 0).toInt) := id I633
                    have i640 : (-1) ≤ (σ628 9 2).toInt := I634
                    have z641 : (σ628 9 0).toInt = (σ 9 0).toInt := (congrArg Int32.toInt (show σ628 9 0 = (σ 9 0) from ((f631 0 (by decide)).trans ((f596 0 (by decide)).trans ((f588 0 (by decide)).trans ((f569 0 (by decide)).trans ((f453 0 (by decide)).trans ((f32 0 (by decide)).trans (f11 0 (by decide))))))))))
                    obtain ⟨k642, h628⟩ := h628
                    have h643 := h628
                    obtain ⟨q645, k644⟩ := h643
                    refine lv_istore (lv' := [(4, .int r629), (3, .int r567), (5, .int (σ450 9 1)), (2, .int x24), (0, .ref (ad 9)), (1, .ref (ad 16))]) hx hb dX7_readOrder_131 hl (by decide) rfl (fun ls hl => ?_)
                    refine lv_aload_n hx hb dX7_readOrder_133 rfl (lv_at hl 4 rfl) ?_
                    refine jcallV (As := []) (rest := []) ⟨hx, hb, hml, hown, hts⟩ hK hP hA hS hZ (c_X7_end_9 l D cI cL ad zz hJ σ628 τ I632 I633 I634) cw_RX7_57 (jc_9 cI cL ad σ628 τ) rfl ⟨Nat.le_of_ble_eq_true rfl, Nat.le_of_ble_eq_true rfl⟩ rfl rfl rfl hl.1 rfl (Nat.le_of_ble_eq_true rfl) dX7_readOrder_134 ⟨Nat.zero_le _, Nat.zero_le _⟩ (fun r647 σ646 τ646 H locs h646 hP hS => ?_)
                    obtain ⟨rfl, f648, f649, I650, I651, h646⟩ := h646
                    obtain ⟨i652, w653, w654⟩ : (0 ≤ (σ646 9 0).toInt ∧ (σ646 9 0).toInt ≤ 80) ∧ (∀ k : Nat, k < 80 → 0 ≤ (σ646 10 k).toInt ∧ (σ646 10 k).toInt ≤ 255) ∧ (∀ k : Nat, k < 8 → 0 ≤ (σ646 11 k).toInt ∧ (σ646 11 k).toInt ≤ 3) := id I650
                    have i655 : (-1) ≤ (σ646 9 2).toInt := I651
                    obtain ⟨k656, h646⟩ := h646
                    rcases h646 with h657 | h658
                    · obtain ⟨q660, k659⟩ := h657
                      exact absurd (by omega : False) id
                    · obtain ⟨q662, k661⟩ := h658
                      refine lv_istore (lv' := [(5, .int r647), (4, .int r629), (3, .int r567), (2, .int x24), (0, .ref (ad 9)), (1, .ref (ad 16))]) hx hb dX7_readOrder_137 hl (by decide) rfl (fun ls hl => ?_)
                      refine lv_iload hx hb dX7_readOrder_139 (lv_at hl 0 rfl) ?_
                      refine lv_iconst (v := (-1)) hx hb dX7_readOrder_141 (by decide) ?_
                      refine lv_icmp_eq (tgt := 148) hx hb dX7_readOrder_142 (by decide) (fun c => absurd (jeq c rfl jz_m1) (by omega)) (fun c663 => ?_)
                      have kc663 := jne c663 rfl jz_m1
                      refine lv_iload hx hb dX7_readOrder_145 (lv_at hl 0 rfl) ?_
                      have I664 : jI16 σ646 := jI16_fr ((congrFun (f648 16 (by decide)) 0).trans ((congrFun (f630 16 (by decide)) 0).trans ((congrFun (f595 16 (by decide)) 0).trans ((congrFun (f587 16 (by decide)) 0).trans ((congrFun (f568 16 (by decide)) 0).trans ((congrFun (f452 16 (by decide)) 0).trans ((congrFun (f31 16 (by decide)) 0).trans (congrFun (f10 16 (by decide)) 0)))))))) ((congrFun (f648 16 (by decide)) 1).trans ((congrFun (f630 16 (by decide)) 1).trans ((congrFun (f595 16 (by decide)) 1).trans ((congrFun (f587 16 (by decide)) 1).trans ((congrFun (f568 16 (by decide)) 1).trans ((congrFun (f452 16 (by decide)) 1).trans ((congrFun (f31 16 (by decide)) 1).trans (congrFun (f10 16 (by decide)) 1)))))))) ((congrFun (f648 16 (by decide)) 2).trans ((congrFun (f630 16 (by decide)) 2).trans ((congrFun (f595 16 (by decide)) 2).trans ((congrFun (f587 16 (by decide)) 2).trans ((congrFun (f568 16 (by decide)) 2).trans ((congrFun (f452 16 (by decide)) 2).trans ((congrFun (f31 16 (by decide)) 2).trans (congrFun (f10 16 (by decide)) 2)))))))) ((f648 17 (by decide)).trans ((f630 17 (by decide)).trans ((f595 17 (by decide)).trans ((f587 17 (by decide)).trans ((f568 17 (by decide)).trans ((f452 17 (by decide)).trans ((f31 17 (by decide)).trans (f10 17 (by decide))))))))) hI16
                      exact hret r647 σ646 τ _ _ _ _ rfl ⟨rfl, (fun i hi => ((f648 i (imp_46 i hi)).trans ((f630 i (imp_46 i hi)).trans ((f595 i (imp_46 i hi)).trans ((f587 i (imp_46 i hi)).trans ((f568 i (imp_46 i hi)).trans ((f452 i (imp_46 i hi)).trans ((f31 i (imp_47 i hi)).trans (f10 i (imp_46 i hi)))))))))), (fun i hi => ((f649 i (imp_48 i hi)).trans ((f631 i (imp_50 i hi)).trans ((f596 i (imp_49 i hi)).trans ((f588 i (imp_54 i hi)).trans ((f569 i (imp_50 i hi)).trans ((f453 i (imp_49 i hi)).trans ((f32 i (imp_49 i hi)).trans (f11 i (imp_50 i hi)))))))))), (fun i hi => ((congrFun (f648 16 (by decide)) i).trans ((congrFun (f630 16 (by decide)) i).trans ((congrFun (f595 16 (by decide)) i).trans ((congrFun (f587 16 (by decide)) i).trans ((congrFun (f568 16 (by decide)) i).trans ((congrFun (f452 16 (by decide)) i).trans ((congrFun (f31 16 (by decide)) i).trans (congrFun (f10 16 (by decide)) i))))))))), I650, I664, (by omega), trivial⟩ hP hS dX7_readOrder_147
                · have kc584 := jnlt c584 rfl jz_1
                  refine lv_iload_n hx hb dX7_readOrder_105 rfl (lv_at hl 0 rfl) ?_
                  refine lv_bipush (v := 12) hx hb dX7_readOrder_106 (by decide) ?_
                  refine lv_icmp_le (tgt := 117) hx hb dX7_readOrder_108 (by decide) (fun c665 => ?_) (fun c665 => ?_)
                  · have kc665 := jle c665 rfl jz_12
                    refine lv_aload_n hx hb dX7_readOrder_117 rfl (lv_at hl 4 rfl) ?_
                    refine lv_bipush (v := 114) hx hb dX7_readOrder_118 (by decide) ?_
                    refine jcallV (As := [.int 114]) (rest := []) ⟨hx, hb, hml, hown, hts⟩ hK hP hA hS hZ (c_X7_skip_9 l D cI cL ad zz hJ σ566 τ 114 (114) jz_114 I570 I571 I572 (by omega)) cw_RX7_50 (jc_9 cI cL ad σ566 τ) rfl ⟨Nat.le_of_ble_eq_true rfl, Nat.le_of_ble_eq_true rfl⟩ rfl rfl rfl hl.1 rfl (Nat.le_of_ble_eq_true rfl) dX7_readOrder_120 ⟨Nat.zero_le _, Nat.zero_le _⟩ (fun r667 σ666 τ666 H locs h666 hP hS => ?_)
                    obtain ⟨rfl, f668, f669, I670, I671, I672, h666⟩ := h666
                    obtain ⟨i673, w674, w675⟩ : (0 ≤ (σ666 9 0).toInt ∧ (σ666 9 0).toInt ≤ 80) ∧ (∀ k : Nat, k < 80 → 0 ≤ (σ666 10 k).toInt ∧ (σ666 10 k).toInt ≤ 255) ∧ (∀ k : Nat, k < 8 → 0 ≤ (σ666 11 k).toInt ∧ (σ666 11 k).toInt ≤ 3) := id I670
                    obtain ⟨i676, i677⟩ : (0 ≤ (σ666 9 1).toInt) ∧ ((σ666 9 1).toInt ≤ (σ666 9 0).toInt) := id I671
                    have i678 : (-1) ≤ (σ666 9 2).toInt := I672
                    have z679 : (σ666 9 0).toInt = (σ 9 0).toInt := (congrArg Int32.toInt (show σ666 9 0 = (σ 9 0) from ((f669 0 (by decide)).trans ((f569 0 (by decide)).trans ((f453 0 (by decide)).trans ((f32 0 (by decide)).trans (f11 0 (by decide))))))))
                    have z680 : (σ666 9 2).toInt = (σ566 9 2).toInt := (congrArg Int32.toInt (show σ666 9 2 = (σ566 9 2) from (f669 2 (by decide))))
                    refine lv_if_eq (tgt := 133) hx hb dX7_readOrder_123 (by decide) (fun c681 => ?_) (fun c681 => ?_)
                    · have kc681 := jeq c681 rfl jz_0
                      refine lv_aload_n hx hb dX7_readOrder_133 rfl (lv_at hl 4 rfl) ?_
                      refine jcallV (As := []) (rest := []) ⟨hx, hb, hml, hown, hts⟩ hK hP hA hS hZ (c_X7_end_9 l D cI cL ad zz hJ σ666 τ I670 I671 I672) cw_RX7_57 (jc_9 cI cL ad σ666 τ) rfl ⟨Nat.le_of_ble_eq_true rfl, Nat.le_of_ble_eq_true rfl⟩ rfl rfl rfl hl.1 rfl (Nat.le_of_ble_eq_true rfl) dX7_readOrder_134 ⟨Nat.zero_le _, Nat.zero_le _⟩ (fun r683 σ682 τ682 H locs h682 hP hS => ?_)
                      obtain ⟨rfl, f684, f685, I686, I687, h682⟩ := h682
                      obtain ⟨i688, w689, w690⟩ : (0 ≤ (σ682 9 0).toInt ∧ (σ682 9 0).toInt ≤ 80) ∧ (∀ k : Nat, k < 80 → 0 ≤ (σ682 10 k).toInt ∧ (σ682 10 k).toInt ≤ 255) ∧ (∀ k : Nat, k < 8 → 0 ≤ (σ682 11 k).toInt ∧ (σ682 11 k).toInt ≤ 3) := id I686
                      have i691 : (-1) ≤ (σ682 9 2).toInt := I687
                      obtain ⟨k692, h682⟩ := h682
                      rcases h682 with h693 | h694
                      · obtain ⟨q696, k695⟩ := h693
                        have q696 := q696.symm
                        subst q696
                        refine lv_istore (lv' := [(5, .int (-1)), (3, .int r567), (4, .int 0), (2, .int x24), (0, .ref (ad 9)), (1, .ref (ad 16))]) hx hb dX7_readOrder_137 hl (by decide) rfl (fun ls hl => ?_)
                        refine lv_iload hx hb dX7_readOrder_139 (lv_at hl 0 rfl) ?_
                        refine lv_iconst (v := (-1)) hx hb dX7_readOrder_141 (by decide) ?_
                        refine lv_icmp_eq (tgt := 148) hx hb dX7_readOrder_142 (by decide) (fun _ => ?_) (fun c => absurd (by decide) c)
                        refine lv_aload_n hx hb dX7_readOrder_148 rfl (lv_at hl 5 rfl) ?_
                        refine lv_iload_n hx hb dX7_readOrder_149 rfl (lv_at hl 3 rfl) ?_
                        refine jput (ty := .int) hx hb hts inlX6 tyX6 tyX6_ok nmX6 hown hK hP hJ hA hS (jc_16 cI cL ad σ682 τ) rfl (k := 0) (by decide) (Nat.le_of_ble_eq_true rfl) (jp_16_0 cI cL ad σ682 τ x24) (hts _ kw_13_18) (fun _ h9 => h9) rfl (by decide +kernel) rfl rfl dX7_readOrder_150 (fun σ697 H locs eσ697 hP hS => ?_)
                        refine lv_aload_n hx hb dX7_readOrder_153 rfl (lv_at hl 5 rfl) ?_
                        refine lv_iload_n hx hb dX7_readOrder_154 rfl (lv_at hl 1 rfl) ?_
                        refine jput (ty := .int) hx hb hts inlX6 tyX6 tyX6_ok nmX6 hown hK hP hJ hA hS (jc_16 cI cL ad σ697 τ) rfl (k := 1) (by decide) (Nat.le_of_ble_eq_true rfl) (jp_16_1 cI cL ad σ697 τ r567) (hts _ kw_13_19) (fun _ h9 => h9) rfl (by decide +kernel) rfl rfl dX7_readOrder_155 (fun σ698 H locs eσ698 hP hS => ?_)
                        refine lv_aload_n hx hb dX7_readOrder_158 rfl (lv_at hl 5 rfl) ?_
                        refine lv_iload hx hb dX7_readOrder_159 (lv_at hl 2 rfl) ?_
                        refine jput (ty := .int) hx hb hts inlX6 tyX6 tyX6_ok nmX6 hown hK hP hJ hA hS (jc_16 cI cL ad σ698 τ) rfl (k := 2) (by decide) (Nat.le_of_ble_eq_true rfl) (jp_16_2 cI cL ad σ698 τ 0) (hts _ kw_13_20) (fun _ h9 => h9) rfl (by decide +kernel) rfl rfl dX7_readOrder_161 (fun σ699 H locs eσ699 hP hS => ?_)
                        refine lv_aload_n hx hb dX7_readOrder_164 rfl (lv_at hl 4 rfl) ?_
                        refine va_get (D := D) hx hb hts inlX7 hown hK hP 9 (jc_9 cI cL ad σ699 τ) rfl 4 (by decide) (hts _ kw_3_21) (fun _ h9 => h9) rfl dX7_readOrder_165 ?_
                        refine lv_iconst (v := 0) hx hb dX7_readOrder_168 (by decide) ?_
                        refine lv_aload_n hx hb dX7_readOrder_169 rfl (lv_at hl 5 rfl) ?_
                        refine va_get (D := D) hx hb hts inlX6 hown hK hP 16 (jc_16 cI cL ad σ699 τ) rfl 3 (by decide) (hts _ kw_13_21) (fun _ h9 => h9) rfl dX7_readOrder_170 ?_
                        refine lv_iconst (v := 0) hx hb dX7_readOrder_173 (by decide) ?_
                        refine lv_iload_n hx hb dX7_readOrder_174 rfl (lv_at hl 3 rfl) ?_
                        refine jcpyI (q0 := 11) (q1 := 17) hx hb (hml.trans hl.1.symm) hown (hts _ kw_13_22) (hts _ kw_13_23) (hts _ kw_14_0) (hts _ kw_14_1) hK hP hJ hA hS (jc_11 cI cL ad σ699 τ) (jc_17 cI cL ad σ699 τ) (fun _ => rfl) jz_0 jz_0 rfl (by omega) (by omega) (by omega) (by omega) (by omega) (Nat.le_of_ble_eq_true rfl) (Nat.le_of_ble_eq_true rfl) dX7_readOrder_175 (fun σ700 H locs eσ700 hP hS => ?_)
                        have w701 : ∀ k : Nat, k < 8 → 0 ≤ (σ699 11 k).toInt ∧ (σ699 11 k).toInt ≤ 3 := (jrr_fr (jnp 11 eσ699 (by decide)) (jrr_fr (jnp 11 eσ698 (by decide)) (jrr_fr (jnp 11 eσ697 (by decide)) w690)))
                        have w702 : ∀ k : Nat, k < 8 → 0 ≤ (σ699 17 k).toInt ∧ (σ699 17 k).toInt ≤ 3 := (jrr_fr (jnp 17 eσ699 (by decide)) (jrr_fr (jnp 17 eσ698 (by decide)) (jrr_fr (jnp 17 eσ697 (by decide)) (jrr_fr (f684 17 (by decide)) (jrr_fr (f668 17 (by decide)) (jrr_fr (f568 17 (by decide)) (jrr_fr (f452 17 (by decide)) (jrr_fr (f31 17 (by decide)) (jrr_fr (f10 17 (by decide)) w7)))))))))
                        have f703 : (∀ i : Nat, (i < 17 ∨ 17 < i) → σ700 i = σ699 i) := by rw [eσ700]; exact jrow_n
                        have w704 : ∀ k : Nat, k < 8 → 0 ≤ (σ700 17 k).toInt ∧ (σ700 17 k).toInt ≤ 3 := by rw [eσ700]; exact jrow_rr w701 w702 jz_0 rfl (n0 := 8) (by omega) (by omega) (by omega)
                        refine lv_iconst (v := (-1)) hx hb dX7_readOrder_178 (by decide) ?_
                        have I705 : jI9 σ700 := jI9_fr ((congrFun (f703 9 (by decide)) 0).trans ((congrFun (jnp 9 eσ699 (by decide)) 0).trans ((congrFun (jnp 9 eσ698 (by decide)) 0).trans (congrFun (jnp 9 eσ697 (by decide)) 0)))) ((f703 10 (by decide)).trans ((jnp 10 eσ699 (by decide)).trans ((jnp 10 eσ698 (by decide)).trans (jnp 10 eσ697 (by decide))))) ((f703 11 (by decide)).trans ((jnp 11 eσ699 (by decide)).trans ((jnp 11 eσ698 (by decide)).trans (jnp 11 eσ697 (by decide))))) I686
                        have z706 : (σ700 16 0).toInt = x24.toInt := (congrArg Int32.toInt (show σ700 16 0 = x24 from ((congrFun (f703 16 (by decide)) 0).trans ((jkp 0 eσ699 (by decide)).trans ((jkp 0 eσ698 (by decide)).trans (jsp eσ697))))))
                        have z707 : (σ700 16 1).toInt = r567.toInt := (congrArg Int32.toInt (show σ700 16 1 = r567 from ((congrFun (f703 16 (by decide)) 1).trans ((jkp 1 eσ699 (by decide)).trans (jsp eσ698)))))
                        have z708 : (σ700 16 2).toInt = 0 := ((congrArg Int32.toInt (show σ700 16 2 = 0 from ((congrFun (f703 16 (by decide)) 2).trans (jsp eσ699)))).trans jz_0)
                        have I709 : jI16 σ700 := ⟨(by omega), (by omega), (by omega), w704⟩
                        have z710 : (σ700 9 0).toInt = (σ682 9 0).toInt := (congrArg Int32.toInt (show σ700 9 0 = (σ682 9 0) from ((congrFun (f703 9 (by decide)) 0).trans ((congrFun (jnp 9 eσ699 (by decide)) 0).trans ((congrFun (jnp 9 eσ698 (by decide)) 0).trans (congrFun (jnp 9 eσ697 (by decide)) 0))))))
                        exact hret (-1) σ700 τ _ _ _ _ rfl ⟨rfl, (fun i hi => ((f703 i (imp_44 i hi)).trans ((jnp i eσ699 (imp_45 i hi)).trans ((jnp i eσ698 (imp_45 i hi)).trans ((jnp i eσ697 (imp_45 i hi)).trans ((f684 i (imp_46 i hi)).trans ((f668 i (imp_46 i hi)).trans ((f568 i (imp_46 i hi)).trans ((f452 i (imp_46 i hi)).trans ((f31 i (imp_47 i hi)).trans (f10 i (imp_46 i hi)))))))))))), (fun i hi => ((congrFun (f703 9 (by decide)) i).trans ((congrFun (jnp 9 eσ699 (by decide)) i).trans ((congrFun (jnp 9 eσ698 (by decide)) i).trans ((congrFun (jnp 9 eσ697 (by decide)) i).trans ((f685 i (imp_48 i hi)).trans ((f669 i (imp_49 i hi)).trans ((f569 i (imp_50 i hi)).trans ((f453 i (imp_49 i hi)).trans ((f32 i (imp_49 i hi)).trans (f11 i (imp_50 i hi)))))))))))), (fun i hi => ((congrFun (f703 16 (by decide)) i).trans ((jkp i eσ699 (imp_51 i hi)).trans ((jkp i eσ698 (imp_52 i hi)).trans ((jkp i eσ697 (imp_53 i hi)).trans ((congrFun (f684 16 (by decide)) i).trans ((congrFun (f668 16 (by decide)) i).trans ((congrFun (f568 16 (by decide)) i).trans ((congrFun (f452 16 (by decide)) i).trans ((congrFun (f31 16 (by decide)) i).trans (congrFun (f10 16 (by decide)) i))))))))))), I705, I709, (by omega), trivial⟩ hP hS dX7_readOrder_179
                      · obtain ⟨q712, k711⟩ := h694
                        refine lv_istore (lv' := [(5, .int r683), (3, .int r567), (4, .int 0), (2, .int x24), (0, .ref (ad 9)), (1, .ref (ad 16))]) hx hb dX7_readOrder_137 hl (by decide) rfl (fun ls hl => ?_)
                        refine lv_iload hx hb dX7_readOrder_139 (lv_at hl 0 rfl) ?_
                        refine lv_iconst (v := (-1)) hx hb dX7_readOrder_141 (by decide) ?_
                        refine lv_icmp_eq (tgt := 148) hx hb dX7_readOrder_142 (by decide) (fun c => absurd (jeq c rfl jz_m1) (by omega)) (fun c713 => ?_)
                        have kc713 := jne c713 rfl jz_m1
                        refine lv_iload hx hb dX7_readOrder_145 (lv_at hl 0 rfl) ?_
                        have I714 : jI16 σ682 := jI16_fr ((congrFun (f684 16 (by decide)) 0).trans ((congrFun (f668 16 (by decide)) 0).trans ((congrFun (f568 16 (by decide)) 0).trans ((congrFun (f452 16 (by decide)) 0).trans ((congrFun (f31 16 (by decide)) 0).trans (congrFun (f10 16 (by decide)) 0)))))) ((congrFun (f684 16 (by decide)) 1).trans ((congrFun (f668 16 (by decide)) 1).trans ((congrFun (f568 16 (by decide)) 1).trans ((congrFun (f452 16 (by decide)) 1).trans ((congrFun (f31 16 (by decide)) 1).trans (congrFun (f10 16 (by decide)) 1)))))) ((congrFun (f684 16 (by decide)) 2).trans ((congrFun (f668 16 (by decide)) 2).trans ((congrFun (f568 16 (by decide)) 2).trans ((congrFun (f452 16 (by decide)) 2).trans ((congrFun (f31 16 (by decide)) 2).trans (congrFun (f10 16 (by decide)) 2)))))) ((f684 17 (by decide)).trans ((f668 17 (by decide)).trans ((f568 17 (by decide)).trans ((f452 17 (by decide)).trans ((f31 17 (by decide)).trans (f10 17 (by decide))))))) hI16
                        exact hret r683 σ682 τ _ _ _ _ rfl ⟨rfl, (fun i hi => ((f684 i (imp_46 i hi)).trans ((f668 i (imp_46 i hi)).trans ((f568 i (imp_46 i hi)).trans ((f452 i (imp_46 i hi)).trans ((f31 i (imp_47 i hi)).trans (f10 i (imp_46 i hi)))))))), (fun i hi => ((f685 i (imp_48 i hi)).trans ((f669 i (imp_49 i hi)).trans ((f569 i (imp_50 i hi)).trans ((f453 i (imp_49 i hi)).trans ((f32 i (imp_49 i hi)).trans (f11 i (imp_50 i hi)))))))), (fun i hi => ((congrFun (f684 16 (by decide)) i).trans ((congrFun (f668 16 (by decide)) i).trans ((congrFun (f568 16 (by decide)) i).trans ((congrFun (f452 16 (by decide)) i).trans ((congrFun (f31 16 (by decide)) i).trans (congrFun (f10 16 (by decide)) i))))))), I686, I714, (by omega), trivial⟩ hP hS dX7_readOrder_147
                    · have kc681 := jne c681 rfl jz_0
                      refine lv_aload_n hx hb dX7_readOrder_126 rfl (lv_at hl 4 rfl) ?_
                      refine lv_iconst (v := 3) hx hb dX7_readOrder_127 (by decide) ?_
                      refine jcallV (As := [.int 3]) (rest := []) ⟨hx, hb, hml, hown, hts⟩ hK hP hA hS hZ (c_X7_number_3 l D cI cL ad zz hJ σ666 τ I670 I671 I672) cw_RX7_53 (jc_9 cI cL ad σ666 τ) rfl ⟨Nat.le_of_ble_eq_true rfl, Nat.le_of_ble_eq_true rfl⟩ rfl rfl rfl hl.1 rfl (Nat.le_of_ble_eq_true rfl) dX7_readOrder_128 ⟨Nat.zero_le _, Nat.zero_le _⟩ (fun r716 σ715 τ715 H locs h715 hP hS => ?_)
                      obtain ⟨rfl, f717, f718, I719, I720, I721, h715⟩ := h715
                      obtain ⟨i722, w723, w724⟩ : (0 ≤ (σ715 9 0).toInt ∧ (σ715 9 0).toInt ≤ 80) ∧ (∀ k : Nat, k < 80 → 0 ≤ (σ715 10 k).toInt ∧ (σ715 10 k).toInt ≤ 255) ∧ (∀ k : Nat, k < 8 → 0 ≤ (σ715 11 k).toInt ∧ (σ715 11 k).toInt ≤ 3) := id I719
                      obtain ⟨i725, i726⟩ : (0 ≤ (σ715 9 1).toInt) ∧ ((σ715 9 1).toInt ≤ (σ715 9 0).toInt) := id I720
                      have i727 : (-1) ≤ (σ715 9 2).toInt := I721
                      have z728 : (σ715 9 0).toInt = (σ 9 0).toInt := (congrArg Int32.toInt (show σ715 9 0 = (σ 9 0) from ((f718 0 (by decide)).trans ((f669 0 (by decide)).trans ((f569 0 (by decide)).trans ((f453 0 (by decide)).trans ((f32 0 (by decide)).trans (f11 0 (by decide)))))))))
                      obtain ⟨k729, h715⟩ := h715
                      have h730 := h715
                      obtain ⟨q732, k731⟩ := h730
                      refine lv_istore (lv' := [(4, .int r716), (3, .int r567), (5, .int (σ450 9 1)), (2, .int x24), (0, .ref (ad 9)), (1, .ref (ad 16))]) hx hb dX7_readOrder_131 hl (by decide) rfl (fun ls hl => ?_)
                      refine lv_aload_n hx hb dX7_readOrder_133 rfl (lv_at hl 4 rfl) ?_
                      refine jcallV (As := []) (rest := []) ⟨hx, hb, hml, hown, hts⟩ hK hP hA hS hZ (c_X7_end_9 l D cI cL ad zz hJ σ715 τ I719 I720 I721) cw_RX7_57 (jc_9 cI cL ad σ715 τ) rfl ⟨Nat.le_of_ble_eq_true rfl, Nat.le_of_ble_eq_true rfl⟩ rfl rfl rfl hl.1 rfl (Nat.le_of_ble_eq_true rfl) dX7_readOrder_134 ⟨Nat.zero_le _, Nat.zero_le _⟩ (fun r734 σ733 τ733 H locs h733 hP hS => ?_)
                      obtain ⟨rfl, f735, f736, I737, I738, h733⟩ := h733
                      obtain ⟨i739, w740, w741⟩ : (0 ≤ (σ733 9 0).toInt ∧ (σ733 9 0).toInt ≤ 80) ∧ (∀ k : Nat, k < 80 → 0 ≤ (σ733 10 k).toInt ∧ (σ733 10 k).toInt ≤ 255) ∧ (∀ k : Nat, k < 8 → 0 ≤ (σ733 11 k).toInt ∧ (σ733 11 k).toInt ≤ 3) := id I737
                      have i742 : (-1) ≤ (σ733 9 2).toInt := I738
                      obtain ⟨k743, h733⟩ := h733
                      rcases h733 with h744 | h745
                      · obtain ⟨q747, k746⟩ := h744
                        have q747 := q747.symm
                        subst q747
                        refine lv_istore (lv' := [(5, .int (-1)), (4, .int r716), (3, .int r567), (2, .int x24), (0, .ref (ad 9)), (1, .ref (ad 16))]) hx hb dX7_readOrder_137 hl (by decide) rfl (fun ls hl => ?_)
                        refine lv_iload hx hb dX7_readOrder_139 (lv_at hl 0 rfl) ?_
                        refine lv_iconst (v := (-1)) hx hb dX7_readOrder_141 (by decide) ?_
                        refine lv_icmp_eq (tgt := 148) hx hb dX7_readOrder_142 (by decide) (fun _ => ?_) (fun c => absurd (by decide) c)
                        refine lv_aload_n hx hb dX7_readOrder_148 rfl (lv_at hl 5 rfl) ?_
                        refine lv_iload_n hx hb dX7_readOrder_149 rfl (lv_at hl 3 rfl) ?_
                        refine jput (ty := .int) hx hb hts inlX6 tyX6 tyX6_ok nmX6 hown hK hP hJ hA hS (jc_16 cI cL ad σ733 τ) rfl (k := 0) (by decide) (Nat.le_of_ble_eq_true rfl) (jp_16_0 cI cL ad σ733 τ x24) (hts _ kw_13_18) (fun _ h9 => h9) rfl (by decide +kernel) rfl rfl dX7_readOrder_150 (fun σ748 H locs eσ748 hP hS => ?_)
                        refine lv_aload_n hx hb dX7_readOrder_153 rfl (lv_at hl 5 rfl) ?_
                        refine lv_iload_n hx hb dX7_readOrder_154 rfl (lv_at hl 2 rfl) ?_
                        refine jput (ty := .int) hx hb hts inlX6 tyX6 tyX6_ok nmX6 hown hK hP hJ hA hS (jc_16 cI cL ad σ748 τ) rfl (k := 1) (by decide) (Nat.le_of_ble_eq_true rfl) (jp_16_1 cI cL ad σ748 τ r567) (hts _ kw_13_19) (fun _ h9 => h9) rfl (by decide +kernel) rfl rfl dX7_readOrder_155 (fun σ749 H locs eσ749 hP hS => ?_)
                        refine lv_aload_n hx hb dX7_readOrder_158 rfl (lv_at hl 5 rfl) ?_
                        refine lv_iload hx hb dX7_readOrder_159 (lv_at hl 1 rfl) ?_
                        refine jput (ty := .int) hx hb hts inlX6 tyX6 tyX6_ok nmX6 hown hK hP hJ hA hS (jc_16 cI cL ad σ749 τ) rfl (k := 2) (by decide) (Nat.le_of_ble_eq_true rfl) (jp_16_2 cI cL ad σ749 τ r716) (hts _ kw_13_20) (fun _ h9 => h9) rfl (by decide +kernel) rfl rfl dX7_readOrder_161 (fun σ750 H locs eσ750 hP hS => ?_)
                        refine lv_aload_n hx hb dX7_readOrder_164 rfl (lv_at hl 4 rfl) ?_
                        refine va_get (D := D) hx hb hts inlX7 hown hK hP 9 (jc_9 cI cL ad σ750 τ) rfl 4 (by decide) (hts _ kw_3_21) (fun _ h9 => h9) rfl dX7_readOrder_165 ?_
                        refine lv_iconst (v := 0) hx hb dX7_readOrder_168 (by decide) ?_
                        refine lv_aload_n hx hb dX7_readOrder_169 rfl (lv_at hl 5 rfl) ?_
                        refine va_get (D := D) hx hb hts inlX6 hown hK hP 16 (jc_16 cI cL ad σ750 τ) rfl 3 (by decide) (hts _ kw_13_21) (fun _ h9 => h9) rfl dX7_readOrder_170 ?_
                        refine lv_iconst (v := 0) hx hb dX7_readOrder_173 (by decide) ?_
                        refine lv_iload_n hx hb dX7_readOrder_174 rfl (lv_at hl 3 rfl) ?_
                        refine jcpyI (q0 := 11) (q1 := 17) hx hb (hml.trans hl.1.symm) hown (hts _ kw_13_22) (hts _ kw_13_23) (hts _ kw_14_0) (hts _ kw_14_1) hK hP hJ hA hS (jc_11 cI cL ad σ750 τ) (jc_17 cI cL ad σ750 τ) (fun _ => rfl) jz_0 jz_0 rfl (by omega) (by omega) (by omega) (by omega) (by omega) (Nat.le_of_ble_eq_true rfl) (Nat.le_of_ble_eq_true rfl) dX7_readOrder_175 (fun σ751 H locs eσ751 hP hS => ?_)
                        have w752 : ∀ k : Nat, k < 8 → 0 ≤ (σ750 11 k).toInt ∧ (σ750 11 k).toInt ≤ 3 := (jrr_fr (jnp 11 eσ750 (by decide)) (jrr_fr (jnp 11 eσ749 (by decide)) (jrr_fr (jnp 11 eσ748 (by decide)) w741)))
                        have w753 : ∀ k : Nat, k < 8 → 0 ≤ (σ750 17 k).toInt ∧ (σ750 17 k).toInt ≤ 3 := (jrr_fr (jnp 17 eσ750 (by decide)) (jrr_fr (jnp 17 eσ749 (by decide)) (jrr_fr (jnp 17 eσ748 (by decide)) (jrr_fr (f735 17 (by decide)) (jrr_fr (f717 17 (by decide)) (jrr_fr (f668 17 (by decide)) (jrr_fr (f568 17 (by decide)) (jrr_fr (f452 17 (by decide)) (jrr_fr (f31 17 (by decide)) (jrr_fr (f10 17 (by decide)) w7))))))))))
                        have f754 : (∀ i : Nat, (i < 17 ∨ 17 < i) → σ751 i = σ750 i) := by rw [eσ751]; exact jrow_n
                        have w755 : ∀ k : Nat, k < 8 → 0 ≤ (σ751 17 k).toInt ∧ (σ751 17 k).toInt ≤ 3 := by rw [eσ751]; exact jrow_rr w752 w753 jz_0 rfl (n0 := 8) (by omega) (by omega) (by omega)
                        refine lv_iconst (v := (-1)) hx hb dX7_readOrder_178 (by decide) ?_
                        have I756 : jI9 σ751 := jI9_fr ((congrFun (f754 9 (by decide)) 0).trans ((congrFun (jnp 9 eσ750 (by decide)) 0).trans ((congrFun (jnp 9 eσ749 (by decide)) 0).trans (congrFun (jnp 9 eσ748 (by decide)) 0)))) ((f754 10 (by decide)).trans ((jnp 10 eσ750 (by decide)).trans ((jnp 10 eσ749 (by decide)).trans (jnp 10 eσ748 (by decide))))) ((f754 11 (by decide)).trans ((jnp 11 eσ750 (by decide)).trans ((jnp 11 eσ749 (by decide)).trans (jnp 11 eσ748 (by decide))))) I737
                        have z757 : (σ751 16 0).toInt = x24.toInt := (congrArg Int32.toInt (show σ751 16 0 = x24 from ((congrFun (f754 16 (by decide)) 0).trans ((jkp 0 eσ750 (by decide)).trans ((jkp 0 eσ749 (by decide)).trans (jsp eσ748))))))
                        have z758 : (σ751 16 1).toInt = r567.toInt := (congrArg Int32.toInt (show σ751 16 1 = r567 from ((congrFun (f754 16 (by decide)) 1).trans ((jkp 1 eσ750 (by decide)).trans (jsp eσ749)))))
                        have z759 : (σ751 16 2).toInt = r716.toInt := (congrArg Int32.toInt (show σ751 16 2 = r716 from ((congrFun (f754 16 (by decide)) 2).trans (jsp eσ750))))
                        have I760 : jI16 σ751 := ⟨(by omega), (by omega), (by omega), w755⟩
                        have z761 : (σ751 9 0).toInt = (σ733 9 0).toInt := (congrArg Int32.toInt (show σ751 9 0 = (σ733 9 0) from ((congrFun (f754 9 (by decide)) 0).trans ((congrFun (jnp 9 eσ750 (by decide)) 0).trans ((congrFun (jnp 9 eσ749 (by decide)) 0).trans (congrFun (jnp 9 eσ748 (by decide)) 0))))))
                        exact hret (-1) σ751 τ _ _ _ _ rfl ⟨rfl, (fun i hi => ((f754 i (imp_44 i hi)).trans ((jnp i eσ750 (imp_45 i hi)).trans ((jnp i eσ749 (imp_45 i hi)).trans ((jnp i eσ748 (imp_45 i hi)).trans ((f735 i (imp_46 i hi)).trans ((f717 i (imp_46 i hi)).trans ((f668 i (imp_46 i hi)).trans ((f568 i (imp_46 i hi)).trans ((f452 i (imp_46 i hi)).trans ((f31 i (imp_47 i hi)).trans (f10 i (imp_46 i hi))))))))))))), (fun i hi => ((congrFun (f754 9 (by decide)) i).trans ((congrFun (jnp 9 eσ750 (by decide)) i).trans ((congrFun (jnp 9 eσ749 (by decide)) i).trans ((congrFun (jnp 9 eσ748 (by decide)) i).trans ((f736 i (imp_48 i hi)).trans ((f718 i (imp_50 i hi)).trans ((f669 i (imp_49 i hi)).trans ((f569 i (imp_50 i hi)).trans ((f453 i (imp_49 i hi)).trans ((f32 i (imp_49 i hi)).trans (f11 i (imp_50 i hi))))))))))))), (fun i hi => ((congrFun (f754 16 (by decide)) i).trans ((jkp i eσ750 (imp_51 i hi)).trans ((jkp i eσ749 (imp_52 i hi)).trans ((jkp i eσ748 (imp_53 i hi)).trans ((congrFun (f735 16 (by decide)) i).trans ((congrFun (f717 16 (by decide)) i).trans ((congrFun (f668 16 (by decide)) i).trans ((congrFun (f568 16 (by decide)) i).trans ((congrFun (f452 16 (by decide)) i).trans ((congrFun (f31 16 (by decide)) i).trans (congrFun (f10 16 (by decide)) i)))))))))))), I756, I760, (by omega), trivial⟩ hP hS dX7_readOrder_179
                      · obtain ⟨q763, k762⟩ := h745
                        refine lv_istore (lv' := [(5, .int r734), (4, .int r716), (3, .int r567), (2, .int x24), (0, .ref (ad 9)), (1, .ref (ad 16))]) hx hb dX7_readOrder_137 hl (by decide) rfl (fun ls hl => ?_)
                        refine lv_iload hx hb dX7_readOrder_139 (lv_at hl 0 rfl) ?_
                        refine lv_iconst (v := (-1)) hx hb dX7_readOrder_141 (by decide) ?_
                        refine lv_icmp_eq (tgt := 148) hx hb dX7_readOrder_142 (by decide) (fun c => absurd (jeq c rfl jz_m1) (by omega)) (fun c764 => ?_)
                        have kc764 := jne c764 rfl jz_m1
                        refine lv_iload hx hb dX7_readOrder_145 (lv_at hl 0 rfl) ?_
                        have I765 : jI16 σ733 := jI16_fr ((congrFun (f735 16 (by decide)) 0).trans ((congrFun (f717 16 (by decide)) 0).trans ((congrFun (f668 16 (by decide)) 0).trans ((congrFun (f568 16 (by decide)) 0).trans ((congrFun (f452 16 (by decide)) 0).trans ((congrFun (f31 16 (by decide)) 0).trans (congrFun (f10 16 (by decide)) 0))))))) ((congrFun (f735 16 (by decide)) 1).trans ((congrFun (f717 16 (by decide)) 1).trans ((congrFun (f668 16 (by decide)) 1).trans ((congrFun (f568 16 (by decide)) 1).trans ((congrFun (f452 16 (by decide)) 1).trans ((congrFun (f31 16 (by decide)) 1).trans (congrFun (f10 16 (by decide)) 1))))))) ((congrFun (f735 16 (by decide)) 2).trans ((congrFun (f717 16 (by decide)) 2).trans ((congrFun (f668 16 (by decide)) 2).trans ((congrFun (f568 16 (by decide)) 2).trans ((congrFun (f452 16 (by decide)) 2).trans ((congrFun (f31 16 (by decide)) 2).trans (congrFun (f10 16 (by decide)) 2))))))) ((f735 17 (by decide)).trans ((f717 17 (by decide)).trans ((f668 17 (by decide)).trans ((f568 17 (by decide)).trans ((f452 17 (by decide)).trans ((f31 17 (by decide)).trans (f10 17 (by decide)))))))) hI16
                        exact hret r734 σ733 τ _ _ _ _ rfl ⟨rfl, (fun i hi => ((f735 i (imp_46 i hi)).trans ((f717 i (imp_46 i hi)).trans ((f668 i (imp_46 i hi)).trans ((f568 i (imp_46 i hi)).trans ((f452 i (imp_46 i hi)).trans ((f31 i (imp_47 i hi)).trans (f10 i (imp_46 i hi))))))))), (fun i hi => ((f736 i (imp_48 i hi)).trans ((f718 i (imp_50 i hi)).trans ((f669 i (imp_49 i hi)).trans ((f569 i (imp_50 i hi)).trans ((f453 i (imp_49 i hi)).trans ((f32 i (imp_49 i hi)).trans (f11 i (imp_50 i hi))))))))), (fun i hi => ((congrFun (f735 16 (by decide)) i).trans ((congrFun (f717 16 (by decide)) i).trans ((congrFun (f668 16 (by decide)) i).trans ((congrFun (f568 16 (by decide)) i).trans ((congrFun (f452 16 (by decide)) i).trans ((congrFun (f31 16 (by decide)) i).trans (congrFun (f10 16 (by decide)) i)))))))), I737, I765, (by omega), trivial⟩ hP hS dX7_readOrder_147
                  · have kc665 := jnle c665 rfl jz_12
                    refine lv_aload_n hx hb dX7_readOrder_111 rfl (lv_at hl 4 rfl) ?_
                    refine lv_iload hx hb dX7_readOrder_112 (lv_at hl 1 rfl) ?_
                    refine jcallVv (As := [.int (σ450 9 1)]) (rest := []) ⟨hx, hb, hml, hown, hts⟩ hK hP hA hS hZ (c_X7_fail_9 l D cI cL ad zz hJ σ566 τ (σ450 9 1) ((σ450 9 1).toInt) rfl I572 (by omega)) cw_RX7_43 (jc_9 cI cL ad σ566 τ) rfl ⟨Nat.le_of_ble_eq_true rfl, Nat.le_of_ble_eq_true rfl⟩ rfl rfl rfl hl.1 rfl (Nat.le_of_ble_eq_true rfl) dX7_readOrder_114 ⟨Nat.zero_le _, Nat.zero_le _⟩ (fun σ766 τ766 H locs h766 hP hS => ?_)
                    obtain ⟨rfl, f768, f769, h766⟩ := h766
                    obtain ⟨k770, h766⟩ := h766
                    refine lv_aload_n hx hb dX7_readOrder_117 rfl (lv_at hl 4 rfl) ?_
                    refine lv_bipush (v := 114) hx hb dX7_readOrder_118 (by decide) ?_
                    have I771 : jI9 σ766 := jI9_fr (f769 0 (by decide)) (f768 10 (by decide)) (f768 11 (by decide)) I570
                    have I772 : jI91 σ766 := jI91_fr (f769 0 (by decide)) (f769 1 (by decide)) I571
                    have I773 : jI92 σ766 := (show (-1) ≤ (σ766 9 2).toInt by omega)
                    refine jcallV (As := [.int 114]) (rest := []) ⟨hx, hb, hml, hown, hts⟩ hK hP hA hS hZ (c_X7_skip_9 l D cI cL ad zz hJ σ766 τ 114 (114) jz_114 I771 I772 I773 (by omega)) cw_RX7_50 (jc_9 cI cL ad σ766 τ) rfl ⟨Nat.le_of_ble_eq_true rfl, Nat.le_of_ble_eq_true rfl⟩ rfl rfl rfl hl.1 rfl (Nat.le_of_ble_eq_true rfl) dX7_readOrder_120 ⟨Nat.zero_le _, Nat.zero_le _⟩ (fun r775 σ774 τ774 H locs h774 hP hS => ?_)
                    obtain ⟨rfl, f776, f777, I778, I779, I780, h774⟩ := h774
                    obtain ⟨i781, w782, w783⟩ : (0 ≤ (σ774 9 0).toInt ∧ (σ774 9 0).toInt ≤ 80) ∧ (∀ k : Nat, k < 80 → 0 ≤ (σ774 10 k).toInt ∧ (σ774 10 k).toInt ≤ 255) ∧ (∀ k : Nat, k < 8 → 0 ≤ (σ774 11 k).toInt ∧ (σ774 11 k).toInt ≤ 3) := id I778
                    obtain ⟨i784, i785⟩ : (0 ≤ (σ774 9 1).toInt) ∧ ((σ774 9 1).toInt ≤ (σ774 9 0).toInt) := id I779
                    have i786 : (-1) ≤ (σ774 9 2).toInt := I780
                    have z787 : (σ774 9 0).toInt = (σ 9 0).toInt := (congrArg Int32.toInt (show σ774 9 0 = (σ 9 0) from ((f777 0 (by decide)).trans ((f769 0 (by decide)).trans ((f569 0 (by decide)).trans ((f453 0 (by decide)).trans ((f32 0 (by decide)).trans (f11 0 (by decide)))))))))
                    have z788 : (σ774 9 2).toInt = (σ766 9 2).toInt := (congrArg Int32.toInt (show σ774 9 2 = (σ766 9 2) from (f777 2 (by decide))))
                    refine lv_if_eq (tgt := 133) hx hb dX7_readOrder_123 (by decide) (fun c789 => ?_) (fun c789 => ?_)
                    · have kc789 := jeq c789 rfl jz_0
                      refine lv_aload_n hx hb dX7_readOrder_133 rfl (lv_at hl 4 rfl) ?_
                      refine jcallV (As := []) (rest := []) ⟨hx, hb, hml, hown, hts⟩ hK hP hA hS hZ (c_X7_end_9 l D cI cL ad zz hJ σ774 τ I778 I779 I780) cw_RX7_57 (jc_9 cI cL ad σ774 τ) rfl ⟨Nat.le_of_ble_eq_true rfl, Nat.le_of_ble_eq_true rfl⟩ rfl rfl rfl hl.1 rfl (Nat.le_of_ble_eq_true rfl) dX7_readOrder_134 ⟨Nat.zero_le _, Nat.zero_le _⟩ (fun r791 σ790 τ790 H locs h790 hP hS => ?_)
                      obtain ⟨rfl, f792, f793, I794, I795, h790⟩ := h790
                      obtain ⟨i796, w797, w798⟩ : (0 ≤ (σ790 9 0).toInt ∧ (σ790 9 0).toInt ≤ 80) ∧ (∀ k : Nat, k < 80 → 0 ≤ (σ790 10 k).toInt ∧ (σ790 10 k).toInt ≤ 255) ∧ (∀ k : Nat, k < 8 → 0 ≤ (σ790 11 k).toInt ∧ (σ790 11 k).toInt ≤ 3) := id I794
                      have i799 : (-1) ≤ (σ790 9 2).toInt := I795
                      obtain ⟨k800, h790⟩ := h790
                      rcases h790 with h801 | h802
                      · obtain ⟨q804, k803⟩ := h801
                        exact absurd (by omega : False) id
                      · obtain ⟨q806, k805⟩ := h802
                        refine lv_istore (lv' := [(5, .int r791), (3, .int r567), (4, .int 0), (2, .int x24), (0, .ref (ad 9)), (1, .ref (ad 16))]) hx hb dX7_readOrder_137 hl (by decide) rfl (fun ls hl => ?_)
                        refine lv_iload hx hb dX7_readOrder_139 (lv_at hl 0 rfl) ?_
                        refine lv_iconst (v := (-1)) hx hb dX7_readOrder_141 (by decide) ?_
                        refine lv_icmp_eq (tgt := 148) hx hb dX7_readOrder_142 (by decide) (fun c => absurd (jeq c rfl jz_m1) (by omega)) (fun c807 => ?_)
                        have kc807 := jne c807 rfl jz_m1
                        refine lv_iload hx hb dX7_readOrder_145 (lv_at hl 0 rfl) ?_
                        have I808 : jI16 σ790 := jI16_fr ((congrFun (f792 16 (by decide)) 0).trans ((congrFun (f776 16 (by decide)) 0).trans ((congrFun (f768 16 (by decide)) 0).trans ((congrFun (f568 16 (by decide)) 0).trans ((congrFun (f452 16 (by decide)) 0).trans ((congrFun (f31 16 (by decide)) 0).trans (congrFun (f10 16 (by decide)) 0))))))) ((congrFun (f792 16 (by decide)) 1).trans ((congrFun (f776 16 (by decide)) 1).trans ((congrFun (f768 16 (by decide)) 1).trans ((congrFun (f568 16 (by decide)) 1).trans ((congrFun (f452 16 (by decide)) 1).trans ((congrFun (f31 16 (by decide)) 1).trans (congrFun (f10 16 (by decide)) 1))))))) ((congrFun (f792 16 (by decide)) 2).trans ((congrFun (f776 16 (by decide)) 2).trans ((congrFun (f768 16 (by decide)) 2).trans ((congrFun (f568 16 (by decide)) 2).trans ((congrFun (f452 16 (by decide)) 2).trans ((congrFun (f31 16 (by decide)) 2).trans (congrFun (f10 16 (by decide)) 2))))))) ((f792 17 (by decide)).trans ((f776 17 (by decide)).trans ((f768 17 (by decide)).trans ((f568 17 (by decide)).trans ((f452 17 (by decide)).trans ((f31 17 (by decide)).trans (f10 17 (by decide)))))))) hI16
                        exact hret r791 σ790 τ _ _ _ _ rfl ⟨rfl, (fun i hi => ((f792 i (imp_46 i hi)).trans ((f776 i (imp_46 i hi)).trans ((f768 i (imp_46 i hi)).trans ((f568 i (imp_46 i hi)).trans ((f452 i (imp_46 i hi)).trans ((f31 i (imp_47 i hi)).trans (f10 i (imp_46 i hi))))))))), (fun i hi => ((f793 i (imp_48 i hi)).trans ((f777 i (imp_49 i hi)).trans ((f769 i (imp_54 i hi)).trans ((f569 i (imp_50 i hi)).trans ((f453 i (imp_49 i hi)).trans ((f32 i (imp_49 i hi)).trans (f11 i (imp_50 i hi))))))))), (fun i hi => ((congrFun (f792 16 (by decide)) i).trans ((congrFun (f776 16 (by decide)) i).trans ((congrFun (f768 16 (by decide)) i).trans ((congrFun (f568 16 (by decide)) i).trans ((congrFun (f452 16 (by decide)) i).trans ((congrFun (f31 16 (by decide)) i).trans (congrFun (f10 16 (by decide)) i)))))))), I794, I808, (by omega), trivial⟩ hP hS dX7_readOrder_147
                    · have kc789 := jne c789 rfl jz_0
                      refine lv_aload_n hx hb dX7_readOrder_126 rfl (lv_at hl 4 rfl) ?_
                      refine lv_iconst (v := 3) hx hb dX7_readOrder_127 (by decide) ?_
                      refine jcallV (As := [.int 3]) (rest := []) ⟨hx, hb, hml, hown, hts⟩ hK hP hA hS hZ (c_X7_number_3 l D cI cL ad zz hJ σ774 τ I778 I779 I780) cw_RX7_53 (jc_9 cI cL ad σ774 τ) rfl ⟨Nat.le_of_ble_eq_true rfl, Nat.le_of_ble_eq_true rfl⟩ rfl rfl rfl hl.1 rfl (Nat.le_of_ble_eq_true rfl) dX7_readOrder_128 ⟨Nat.zero_le _, Nat.zero_le _⟩ (fun r810 σ809 τ809 H locs h809 hP hS => ?_)
                      obtain ⟨rfl, f811, f812, I813, I814, I815, h809⟩ := h809
                      obtain ⟨i816, w817, w818⟩ : (0 ≤ (σ809 9 0).toInt ∧ (σ809 9 0).toInt ≤ 80) ∧ (∀ k : Nat, k < 80 → 0 ≤ (σ809 10 k).toInt ∧ (σ809 10 k).toInt ≤ 255) ∧ (∀ k : Nat, k < 8 → 0 ≤ (σ809 11 k).toInt ∧ (σ809 11 k).toInt ≤ 3) := id I813
                      obtain ⟨i819, i820⟩ : (0 ≤ (σ809 9 1).toInt) ∧ ((σ809 9 1).toInt ≤ (σ809 9 0).toInt) := id I814
                      have i821 : (-1) ≤ (σ809 9 2).toInt := I815
                      have z822 : (σ809 9 0).toInt = (σ 9 0).toInt := (congrArg Int32.toInt (show σ809 9 0 = (σ 9 0) from ((f812 0 (by decide)).trans ((f777 0 (by decide)).trans ((f769 0 (by decide)).trans ((f569 0 (by decide)).trans ((f453 0 (by decide)).trans ((f32 0 (by decide)).trans (f11 0 (by decide))))))))))
                      obtain ⟨k823, h809⟩ := h809
                      have h824 := h809
                      obtain ⟨q826, k825⟩ := h824
                      refine lv_istore (lv' := [(4, .int r810), (3, .int r567), (5, .int (σ450 9 1)), (2, .int x24), (0, .ref (ad 9)), (1, .ref (ad 16))]) hx hb dX7_readOrder_131 hl (by decide) rfl (fun ls hl => ?_)
                      refine lv_aload_n hx hb dX7_readOrder_133 rfl (lv_at hl 4 rfl) ?_
                      refine jcallV (As := []) (rest := []) ⟨hx, hb, hml, hown, hts⟩ hK hP hA hS hZ (c_X7_end_9 l D cI cL ad zz hJ σ809 τ I813 I814 I815) cw_RX7_57 (jc_9 cI cL ad σ809 τ) rfl ⟨Nat.le_of_ble_eq_true rfl, Nat.le_of_ble_eq_true rfl⟩ rfl rfl rfl hl.1 rfl (Nat.le_of_ble_eq_true rfl) dX7_readOrder_134 ⟨Nat.zero_le _, Nat.zero_le _⟩ (fun r828 σ827 τ827 H locs h827 hP hS => ?_)
                      obtain ⟨rfl, f829, f830, I831, I832, h827⟩ := h827
                      obtain ⟨i833, w834, w835⟩ : (0 ≤ (σ827 9 0).toInt ∧ (σ827 9 0).toInt ≤ 80) ∧ (∀ k : Nat, k < 80 → 0 ≤ (σ827 10 k).toInt ∧ (σ827 10 k).toInt ≤ 255) ∧ (∀ k : Nat, k < 8 → 0 ≤ (σ827 11 k).toInt ∧ (σ827 11 k).toInt ≤ 3) := id I831
                      have i836 : (-1) ≤ (σ827 9 2).toInt := I832
                      obtain ⟨k837, h827⟩ := h827
                      rcases h827 with h838 | h839
                      · obtain ⟨q841, k840⟩ := h838
                        exact absurd (by omega : False) id
                      · obtain ⟨q843, k842⟩ := h839
                        refine lv_istore (lv' := [(5, .int r828), (4, .int r810), (3, .int r567), (2, .int x24), (0, .ref (ad 9)), (1, .ref (ad 16))]) hx hb dX7_readOrder_137 hl (by decide) rfl (fun ls hl => ?_)
                        refine lv_iload hx hb dX7_readOrder_139 (lv_at hl 0 rfl) ?_
                        refine lv_iconst (v := (-1)) hx hb dX7_readOrder_141 (by decide) ?_
                        refine lv_icmp_eq (tgt := 148) hx hb dX7_readOrder_142 (by decide) (fun c => absurd (jeq c rfl jz_m1) (by omega)) (fun c844 => ?_)
                        have kc844 := jne c844 rfl jz_m1
                        refine lv_iload hx hb dX7_readOrder_145 (lv_at hl 0 rfl) ?_
                        have I845 : jI16 σ827 := jI16_fr ((congrFun (f829 16 (by decide)) 0).trans ((congrFun (f811 16 (by decide)) 0).trans ((congrFun (f776 16 (by decide)) 0).trans ((congrFun (f768 16 (by decide)) 0).trans ((congrFun (f568 16 (by decide)) 0).trans ((congrFun (f452 16 (by decide)) 0).trans ((congrFun (f31 16 (by decide)) 0).trans (congrFun (f10 16 (by decide)) 0)))))))) ((congrFun (f829 16 (by decide)) 1).trans ((congrFun (f811 16 (by decide)) 1).trans ((congrFun (f776 16 (by decide)) 1).trans ((congrFun (f768 16 (by decide)) 1).trans ((congrFun (f568 16 (by decide)) 1).trans ((congrFun (f452 16 (by decide)) 1).trans ((congrFun (f31 16 (by decide)) 1).trans (congrFun (f10 16 (by decide)) 1)))))))) ((congrFun (f829 16 (by decide)) 2).trans ((congrFun (f811 16 (by decide)) 2).trans ((congrFun (f776 16 (by decide)) 2).trans ((congrFun (f768 16 (by decide)) 2).trans ((congrFun (f568 16 (by decide)) 2).trans ((congrFun (f452 16 (by decide)) 2).trans ((congrFun (f31 16 (by decide)) 2).trans (congrFun (f10 16 (by decide)) 2)))))))) ((f829 17 (by decide)).trans ((f811 17 (by decide)).trans ((f776 17 (by decide)).trans ((f768 17 (by decide)).trans ((f568 17 (by decide)).trans ((f452 17 (by decide)).trans ((f31 17 (by decide)).trans (f10 17 (by decide))))))))) hI16
                        exact hret r828 σ827 τ _ _ _ _ rfl ⟨rfl, (fun i hi => ((f829 i (imp_46 i hi)).trans ((f811 i (imp_46 i hi)).trans ((f776 i (imp_46 i hi)).trans ((f768 i (imp_46 i hi)).trans ((f568 i (imp_46 i hi)).trans ((f452 i (imp_46 i hi)).trans ((f31 i (imp_47 i hi)).trans (f10 i (imp_46 i hi)))))))))), (fun i hi => ((f830 i (imp_48 i hi)).trans ((f812 i (imp_50 i hi)).trans ((f777 i (imp_49 i hi)).trans ((f769 i (imp_54 i hi)).trans ((f569 i (imp_50 i hi)).trans ((f453 i (imp_49 i hi)).trans ((f32 i (imp_49 i hi)).trans (f11 i (imp_50 i hi)))))))))), (fun i hi => ((congrFun (f829 16 (by decide)) i).trans ((congrFun (f811 16 (by decide)) i).trans ((congrFun (f776 16 (by decide)) i).trans ((congrFun (f768 16 (by decide)) i).trans ((congrFun (f568 16 (by decide)) i).trans ((congrFun (f452 16 (by decide)) i).trans ((congrFun (f31 16 (by decide)) i).trans (congrFun (f10 16 (by decide)) i))))))))), I831, I845, (by omega), trivial⟩ hP hS dX7_readOrder_147
            · have kc447 := jeq c447 rfl jz_0
              refine lv_aload_n hx hb dX7_readOrder_71 rfl (lv_at hl 3 rfl) ?_
              refine lv_aload_n hx hb dX7_readOrder_72 rfl (lv_at hl 3 rfl) ?_
              refine va_get (D := D) hx hb hts inlX7 hown hK hP 9 (jc_9 cI cL ad σ25 τ) rfl 1 (by decide) (hts _ kw_13_17) (fun _ h9 => h9) rfl dX7_readOrder_73 ?_
              have I846 : jI92 σ25 := jI92_fr (f32 2 (by decide)) I14
              refine jcallVv (As := [.int (σ25 9 1)]) (rest := []) ⟨hx, hb, hml, hown, hts⟩ hK hP hA hS hZ (c_X7_fail_9 l D cI cL ad zz hJ σ25 τ (σ25 9 1) ((σ25 9 1).toInt) rfl I846 (by omega)) cw_RX7_43 (jc_9 cI cL ad σ25 τ) rfl ⟨Nat.le_of_ble_eq_true rfl, Nat.le_of_ble_eq_true rfl⟩ rfl rfl rfl hl.1 rfl (Nat.le_of_ble_eq_true rfl) dX7_readOrder_76 ⟨Nat.zero_le _, Nat.zero_le _⟩ (fun σ847 τ847 H locs h847 hP hS => ?_)
              obtain ⟨rfl, f849, f850, h847⟩ := h847
              obtain ⟨k851, h847⟩ := h847
              refine lv_aload_n hx hb dX7_readOrder_79 rfl (lv_at hl 3 rfl) ?_
              refine lv_bipush (v := 58) hx hb dX7_readOrder_80 (by decide) ?_
              have I852 : jI9 σ847 := jI9_fr (f850 0 (by decide)) (f849 10 (by decide)) (f849 11 (by decide)) p33
              have z853 : (σ847 9 1).toInt = (σ25 9 1).toInt := (congrArg Int32.toInt (show σ847 9 1 = (σ25 9 1) from (f850 1 (by decide))))
              have z854 : (σ847 9 0).toInt = (σ 9 0).toInt := (congrArg Int32.toInt (show σ847 9 0 = (σ 9 0) from ((f850 0 (by decide)).trans ((f32 0 (by decide)).trans (f11 0 (by decide))))))
              have I855 : jI91 σ847 := ⟨(by omega), (by omega)⟩
              have I856 : jI92 σ847 := (show (-1) ≤ (σ847 9 2).toInt by omega)
              refine jcallV (As := [.int 58]) (rest := []) ⟨hx, hb, hml, hown, hts⟩ hK hP hA hS hZ (c_X7_skip_9 l D cI cL ad zz hJ σ847 τ 58 (58) jz_58 I852 I855 I856 (by omega)) cw_RX7_50 (jc_9 cI cL ad σ847 τ) rfl ⟨Nat.le_of_ble_eq_true rfl, Nat.le_of_ble_eq_true rfl⟩ rfl rfl rfl hl.1 rfl (Nat.le_of_ble_eq_true rfl) dX7_readOrder_82 ⟨Nat.zero_le _, Nat.zero_le _⟩ (fun r858 σ857 τ857 H locs h857 hP hS => ?_)
              obtain ⟨rfl, f859, f860, I861, I862, I863, h857⟩ := h857
              obtain ⟨i864, w865, w866⟩ : (0 ≤ (σ857 9 0).toInt ∧ (σ857 9 0).toInt ≤ 80) ∧ (∀ k : Nat, k < 80 → 0 ≤ (σ857 10 k).toInt ∧ (σ857 10 k).toInt ≤ 255) ∧ (∀ k : Nat, k < 8 → 0 ≤ (σ857 11 k).toInt ∧ (σ857 11 k).toInt ≤ 3) := id I861
              obtain ⟨i867, i868⟩ : (0 ≤ (σ857 9 1).toInt) ∧ ((σ857 9 1).toInt ≤ (σ857 9 0).toInt) := id I862
              have i869 : (-1) ≤ (σ857 9 2).toInt := I863
              have z870 : (σ857 9 0).toInt = (σ 9 0).toInt := (congrArg Int32.toInt (show σ857 9 0 = (σ 9 0) from ((f860 0 (by decide)).trans ((f850 0 (by decide)).trans ((f32 0 (by decide)).trans (f11 0 (by decide)))))))
              have z871 : (σ857 9 2).toInt = (σ847 9 2).toInt := (congrArg Int32.toInt (show σ857 9 2 = (σ847 9 2) from (f860 2 (by decide))))
              refine lv_if_eq (tgt := 117) hx hb dX7_readOrder_85 (by decide) (fun c872 => ?_) (fun c872 => ?_)
              · have kc872 := jeq c872 rfl jz_0
                refine lv_aload_n hx hb dX7_readOrder_117 rfl (lv_at hl 3 rfl) ?_
                refine lv_bipush (v := 114) hx hb dX7_readOrder_118 (by decide) ?_
                refine jcallV (As := [.int 114]) (rest := []) ⟨hx, hb, hml, hown, hts⟩ hK hP hA hS hZ (c_X7_skip_9 l D cI cL ad zz hJ σ857 τ 114 (114) jz_114 I861 I862 I863 (by omega)) cw_RX7_50 (jc_9 cI cL ad σ857 τ) rfl ⟨Nat.le_of_ble_eq_true rfl, Nat.le_of_ble_eq_true rfl⟩ rfl rfl rfl hl.1 rfl (Nat.le_of_ble_eq_true rfl) dX7_readOrder_120 ⟨Nat.zero_le _, Nat.zero_le _⟩ (fun r874 σ873 τ873 H locs h873 hP hS => ?_)
                obtain ⟨rfl, f875, f876, I877, I878, I879, h873⟩ := h873
                obtain ⟨i880, w881, w882⟩ : (0 ≤ (σ873 9 0).toInt ∧ (σ873 9 0).toInt ≤ 80) ∧ (∀ k : Nat, k < 80 → 0 ≤ (σ873 10 k).toInt ∧ (σ873 10 k).toInt ≤ 255) ∧ (∀ k : Nat, k < 8 → 0 ≤ (σ873 11 k).toInt ∧ (σ873 11 k).toInt ≤ 3) := id I877
                obtain ⟨i883, i884⟩ : (0 ≤ (σ873 9 1).toInt) ∧ ((σ873 9 1).toInt ≤ (σ873 9 0).toInt) := id I878
                have i885 : (-1) ≤ (σ873 9 2).toInt := I879
                have z886 : (σ873 9 0).toInt = (σ 9 0).toInt := (congrArg Int32.toInt (show σ873 9 0 = (σ 9 0) from ((f876 0 (by decide)).trans ((f860 0 (by decide)).trans ((f850 0 (by decide)).trans ((f32 0 (by decide)).trans (f11 0 (by decide))))))))
                have z887 : (σ873 9 2).toInt = (σ847 9 2).toInt := (congrArg Int32.toInt (show σ873 9 2 = (σ847 9 2) from ((f876 2 (by decide)).trans (f860 2 (by decide)))))
                refine lv_if_eq (tgt := 133) hx hb dX7_readOrder_123 (by decide) (fun c888 => ?_) (fun c888 => ?_)
                · have kc888 := jeq c888 rfl jz_0
                  refine lv_aload_n hx hb dX7_readOrder_133 rfl (lv_at hl 3 rfl) ?_
                  refine jcallV (As := []) (rest := []) ⟨hx, hb, hml, hown, hts⟩ hK hP hA hS hZ (c_X7_end_9 l D cI cL ad zz hJ σ873 τ I877 I878 I879) cw_RX7_57 (jc_9 cI cL ad σ873 τ) rfl ⟨Nat.le_of_ble_eq_true rfl, Nat.le_of_ble_eq_true rfl⟩ rfl rfl rfl hl.1 rfl (Nat.le_of_ble_eq_true rfl) dX7_readOrder_134 ⟨Nat.zero_le _, Nat.zero_le _⟩ (fun r890 σ889 τ889 H locs h889 hP hS => ?_)
                  obtain ⟨rfl, f891, f892, I893, I894, h889⟩ := h889
                  obtain ⟨i895, w896, w897⟩ : (0 ≤ (σ889 9 0).toInt ∧ (σ889 9 0).toInt ≤ 80) ∧ (∀ k : Nat, k < 80 → 0 ≤ (σ889 10 k).toInt ∧ (σ889 10 k).toInt ≤ 255) ∧ (∀ k : Nat, k < 8 → 0 ≤ (σ889 11 k).toInt ∧ (σ889 11 k).toInt ≤ 3) := id I893
                  have i898 : (-1) ≤ (σ889 9 2).toInt := I894
                  obtain ⟨k899, h889⟩ := h889
                  rcases h889 with h900 | h901
                  · obtain ⟨q903, k902⟩ := h900
                    exact absurd (by omega : False) id
                  · obtain ⟨q905, k904⟩ := h901
                    refine lv_istore (lv' := [(5, .int r890), (4, .int 0), (3, .int 8), (2, .int x24), (0, .ref (ad 9)), (1, .ref (ad 16))]) hx hb dX7_readOrder_137 hl (by decide) rfl (fun ls hl => ?_)
                    refine lv_iload hx hb dX7_readOrder_139 (lv_at hl 0 rfl) ?_
                    refine lv_iconst (v := (-1)) hx hb dX7_readOrder_141 (by decide) ?_
                    refine lv_icmp_eq (tgt := 148) hx hb dX7_readOrder_142 (by decide) (fun c => absurd (jeq c rfl jz_m1) (by omega)) (fun c906 => ?_)
                    have kc906 := jne c906 rfl jz_m1
                    refine lv_iload hx hb dX7_readOrder_145 (lv_at hl 0 rfl) ?_
                    have I907 : jI16 σ889 := jI16_fr ((congrFun (f891 16 (by decide)) 0).trans ((congrFun (f875 16 (by decide)) 0).trans ((congrFun (f859 16 (by decide)) 0).trans ((congrFun (f849 16 (by decide)) 0).trans ((congrFun (f31 16 (by decide)) 0).trans (congrFun (f10 16 (by decide)) 0)))))) ((congrFun (f891 16 (by decide)) 1).trans ((congrFun (f875 16 (by decide)) 1).trans ((congrFun (f859 16 (by decide)) 1).trans ((congrFun (f849 16 (by decide)) 1).trans ((congrFun (f31 16 (by decide)) 1).trans (congrFun (f10 16 (by decide)) 1)))))) ((congrFun (f891 16 (by decide)) 2).trans ((congrFun (f875 16 (by decide)) 2).trans ((congrFun (f859 16 (by decide)) 2).trans ((congrFun (f849 16 (by decide)) 2).trans ((congrFun (f31 16 (by decide)) 2).trans (congrFun (f10 16 (by decide)) 2)))))) ((f891 17 (by decide)).trans ((f875 17 (by decide)).trans ((f859 17 (by decide)).trans ((f849 17 (by decide)).trans ((f31 17 (by decide)).trans (f10 17 (by decide))))))) hI16
                    exact hret r890 σ889 τ _ _ _ _ rfl ⟨rfl, (fun i hi => ((f891 i (imp_46 i hi)).trans ((f875 i (imp_46 i hi)).trans ((f859 i (imp_46 i hi)).trans ((f849 i (imp_46 i hi)).trans ((f31 i (imp_47 i hi)).trans (f10 i (imp_46 i hi)))))))), (fun i hi => ((f892 i (imp_48 i hi)).trans ((f876 i (imp_49 i hi)).trans ((f860 i (imp_49 i hi)).trans ((f850 i (imp_54 i hi)).trans ((f32 i (imp_49 i hi)).trans (f11 i (imp_50 i hi)))))))), (fun i hi => ((congrFun (f891 16 (by decide)) i).trans ((congrFun (f875 16 (by decide)) i).trans ((congrFun (f859 16 (by decide)) i).trans ((congrFun (f849 16 (by decide)) i).trans ((congrFun (f31 16 (by decide)) i).trans (congrFun (f10 16 (by decide)) i))))))), I893, I907, (by omega), trivial⟩ hP hS dX7_readOrder_147
                · have kc888 := jne c888 rfl jz_0
                  refine lv_aload_n hx hb dX7_readOrder_126 rfl (lv_at hl 3 rfl) ?_
                  refine lv_iconst (v := 3) hx hb dX7_readOrder_127 (by decide) ?_
                  refine jcallV (As := [.int 3]) (rest := []) ⟨hx, hb, hml, hown, hts⟩ hK hP hA hS hZ (c_X7_number_3 l D cI cL ad zz hJ σ873 τ I877 I878 I879) cw_RX7_53 (jc_9 cI cL ad σ873 τ) rfl ⟨Nat.le_of_ble_eq_true rfl, Nat.le_of_ble_eq_true rfl⟩ rfl rfl rfl hl.1 rfl (Nat.le_of_ble_eq_true rfl) dX7_readOrder_128 ⟨Nat.zero_le _, Nat.zero_le _⟩ (fun r909 σ908 τ908 H locs h908 hP hS => ?_)
                  obtain ⟨rfl, f910, f911, I912, I913, I914, h908⟩ := h908
                  obtain ⟨i915, w916, w917⟩ : (0 ≤ (σ908 9 0).toInt ∧ (σ908 9 0).toInt ≤ 80) ∧ (∀ k : Nat, k < 80 → 0 ≤ (σ908 10 k).toInt ∧ (σ908 10 k).toInt ≤ 255) ∧ (∀ k : Nat, k < 8 → 0 ≤ (σ908 11 k).toInt ∧ (σ908 11 k).toInt ≤ 3) := id I912
                  obtain ⟨i918, i919⟩ : (0 ≤ (σ908 9 1).toInt) ∧ ((σ908 9 1).toInt ≤ (σ908 9 0).toInt) := id I913
                  have i920 : (-1) ≤ (σ908 9 2).toInt := I914
                  have z921 : (σ908 9 0).toInt = (σ 9 0).toInt := (congrArg Int32.toInt (show σ908 9 0 = (σ 9 0) from ((f911 0 (by decide)).trans ((f876 0 (by decide)).trans ((f860 0 (by decide)).trans ((f850 0 (by decide)).trans ((f32 0 (by decide)).trans (f11 0 (by decide)))))))))
                  obtain ⟨k922, h908⟩ := h908
                  have h923 := h908
                  obtain ⟨q925, k924⟩ := h923
                  refine lv_istore (lv' := [(4, .int r909), (3, .int 8), (2, .int x24), (0, .ref (ad 9)), (1, .ref (ad 16))]) hx hb dX7_readOrder_131 hl (by decide) rfl (fun ls hl => ?_)
                  refine lv_aload_n hx hb dX7_readOrder_133 rfl (lv_at hl 3 rfl) ?_
                  refine jcallV (As := []) (rest := []) ⟨hx, hb, hml, hown, hts⟩ hK hP hA hS hZ (c_X7_end_9 l D cI cL ad zz hJ σ908 τ I912 I913 I914) cw_RX7_57 (jc_9 cI cL ad σ908 τ) rfl ⟨Nat.le_of_ble_eq_true rfl, Nat.le_of_ble_eq_true rfl⟩ rfl rfl rfl hl.1 rfl (Nat.le_of_ble_eq_true rfl) dX7_readOrder_134 ⟨Nat.zero_le _, Nat.zero_le _⟩ (fun r927 σ926 τ926 H locs h926 hP hS => ?_)
                  obtain ⟨rfl, f928, f929, I930, I931, h926⟩ := h926
                  obtain ⟨i932, w933, w934⟩ : (0 ≤ (σ926 9 0).toInt ∧ (σ926 9 0).toInt ≤ 80) ∧ (∀ k : Nat, k < 80 → 0 ≤ (σ926 10 k).toInt ∧ (σ926 10 k).toInt ≤ 255) ∧ (∀ k : Nat, k < 8 → 0 ≤ (σ926 11 k).toInt ∧ (σ926 11 k).toInt ≤ 3) := id I930
                  have i935 : (-1) ≤ (σ926 9 2).toInt := I931
                  obtain ⟨k936, h926⟩ := h926
                  rcases h926 with h937 | h938
                  · obtain ⟨q940, k939⟩ := h937
                    exact absurd (by omega : False) id
                  · obtain ⟨q942, k941⟩ := h938
                    refine lv_istore (lv' := [(5, .int r927), (4, .int r909), (3, .int 8), (2, .int x24), (0, .ref (ad 9)), (1, .ref (ad 16))]) hx hb dX7_readOrder_137 hl (by decide) rfl (fun ls hl => ?_)
                    refine lv_iload hx hb dX7_readOrder_139 (lv_at hl 0 rfl) ?_
                    refine lv_iconst (v := (-1)) hx hb dX7_readOrder_141 (by decide) ?_
                    refine lv_icmp_eq (tgt := 148) hx hb dX7_readOrder_142 (by decide) (fun c => absurd (jeq c rfl jz_m1) (by omega)) (fun c943 => ?_)
                    have kc943 := jne c943 rfl jz_m1
                    refine lv_iload hx hb dX7_readOrder_145 (lv_at hl 0 rfl) ?_
                    have I944 : jI16 σ926 := jI16_fr ((congrFun (f928 16 (by decide)) 0).trans ((congrFun (f910 16 (by decide)) 0).trans ((congrFun (f875 16 (by decide)) 0).trans ((congrFun (f859 16 (by decide)) 0).trans ((congrFun (f849 16 (by decide)) 0).trans ((congrFun (f31 16 (by decide)) 0).trans (congrFun (f10 16 (by decide)) 0))))))) ((congrFun (f928 16 (by decide)) 1).trans ((congrFun (f910 16 (by decide)) 1).trans ((congrFun (f875 16 (by decide)) 1).trans ((congrFun (f859 16 (by decide)) 1).trans ((congrFun (f849 16 (by decide)) 1).trans ((congrFun (f31 16 (by decide)) 1).trans (congrFun (f10 16 (by decide)) 1))))))) ((congrFun (f928 16 (by decide)) 2).trans ((congrFun (f910 16 (by decide)) 2).trans ((congrFun (f875 16 (by decide)) 2).trans ((congrFun (f859 16 (by decide)) 2).trans ((congrFun (f849 16 (by decide)) 2).trans ((congrFun (f31 16 (by decide)) 2).trans (congrFun (f10 16 (by decide)) 2))))))) ((f928 17 (by decide)).trans ((f910 17 (by decide)).trans ((f875 17 (by decide)).trans ((f859 17 (by decide)).trans ((f849 17 (by decide)).trans ((f31 17 (by decide)).trans (f10 17 (by decide)))))))) hI16
                    exact hret r927 σ926 τ _ _ _ _ rfl ⟨rfl, (fun i hi => ((f928 i (imp_46 i hi)).trans ((f910 i (imp_46 i hi)).trans ((f875 i (imp_46 i hi)).trans ((f859 i (imp_46 i hi)).trans ((f849 i (imp_46 i hi)).trans ((f31 i (imp_47 i hi)).trans (f10 i (imp_46 i hi))))))))), (fun i hi => ((f929 i (imp_48 i hi)).trans ((f911 i (imp_50 i hi)).trans ((f876 i (imp_49 i hi)).trans ((f860 i (imp_49 i hi)).trans ((f850 i (imp_54 i hi)).trans ((f32 i (imp_49 i hi)).trans (f11 i (imp_50 i hi))))))))), (fun i hi => ((congrFun (f928 16 (by decide)) i).trans ((congrFun (f910 16 (by decide)) i).trans ((congrFun (f875 16 (by decide)) i).trans ((congrFun (f859 16 (by decide)) i).trans ((congrFun (f849 16 (by decide)) i).trans ((congrFun (f31 16 (by decide)) i).trans (congrFun (f10 16 (by decide)) i)))))))), I930, I944, (by omega), trivial⟩ hP hS dX7_readOrder_147
              · have kc872 := jne c872 rfl jz_0
                refine lv_aload_n hx hb dX7_readOrder_88 rfl (lv_at hl 3 rfl) ?_
                refine va_get (D := D) hx hb hts inlX7 hown hK hP 9 (jc_9 cI cL ad σ857 τ) rfl 1 (by decide) (hts _ kw_13_17) (fun _ h9 => h9) rfl dX7_readOrder_89 ?_
                refine lv_istore (lv' := [(5, .int (σ857 9 1)), (4, .int 0), (3, .int 8), (2, .int x24), (0, .ref (ad 9)), (1, .ref (ad 16))]) hx hb dX7_readOrder_92 hl (by decide) rfl (fun ls hl => ?_)
                refine lv_aload_n hx hb dX7_readOrder_94 rfl (lv_at hl 4 rfl) ?_
                refine lv_iconst (v := 2) hx hb dX7_readOrder_95 (by decide) ?_
                refine jcallV (As := [.int 2]) (rest := []) ⟨hx, hb, hml, hown, hts⟩ hK hP hA hS hZ (c_X7_number_2 l D cI cL ad zz hJ σ857 τ I861 I862 I863) cw_RX7_53 (jc_9 cI cL ad σ857 τ) rfl ⟨Nat.le_of_ble_eq_true rfl, Nat.le_of_ble_eq_true rfl⟩ rfl rfl rfl hl.1 rfl (Nat.le_of_ble_eq_true rfl) dX7_readOrder_96 ⟨Nat.zero_le _, Nat.zero_le _⟩ (fun r946 σ945 τ945 H locs h945 hP hS => ?_)
                obtain ⟨rfl, f947, f948, I949, I950, I951, h945⟩ := h945
                obtain ⟨i952, w953, w954⟩ : (0 ≤ (σ945 9 0).toInt ∧ (σ945 9 0).toInt ≤ 80) ∧ (∀ k : Nat, k < 80 → 0 ≤ (σ945 10 k).toInt ∧ (σ945 10 k).toInt ≤ 255) ∧ (∀ k : Nat, k < 8 → 0 ≤ (σ945 11 k).toInt ∧ (σ945 11 k).toInt ≤ 3) := id I949
                obtain ⟨i955, i956⟩ : (0 ≤ (σ945 9 1).toInt) ∧ ((σ945 9 1).toInt ≤ (σ945 9 0).toInt) := id I950
                have i957 : (-1) ≤ (σ945 9 2).toInt := I951
                have z958 : (σ945 9 0).toInt = (σ 9 0).toInt := (congrArg Int32.toInt (show σ945 9 0 = (σ 9 0) from ((f948 0 (by decide)).trans ((f860 0 (by decide)).trans ((f850 0 (by decide)).trans ((f32 0 (by decide)).trans (f11 0 (by decide))))))))
                obtain ⟨k959, h945⟩ := h945
                have h960 := h945
                obtain ⟨q962, k961⟩ := h960
                refine lv_istore_n (lv' := [(3, .int r946), (5, .int (σ857 9 1)), (4, .int 0), (2, .int x24), (0, .ref (ad 9)), (1, .ref (ad 16))]) hx hb dX7_readOrder_99 rfl hl (by decide) rfl (fun ls hl => ?_)
                refine lv_iload_n hx hb dX7_readOrder_100 rfl (lv_at hl 0 rfl) ?_
                refine lv_iconst (v := 1) hx hb dX7_readOrder_101 (by decide) ?_
                refine lv_icmp_lt (tgt := 111) hx hb dX7_readOrder_102 (by decide) (fun c963 => ?_) (fun c963 => ?_)
                · have kc963 := jlt c963 rfl jz_1
                  refine lv_aload_n hx hb dX7_readOrder_111 rfl (lv_at hl 4 rfl) ?_
                  refine lv_iload hx hb dX7_readOrder_112 (lv_at hl 1 rfl) ?_
                  refine jcallVv (As := [.int (σ857 9 1)]) (rest := []) ⟨hx, hb, hml, hown, hts⟩ hK hP hA hS hZ (c_X7_fail_9 l D cI cL ad zz hJ σ945 τ (σ857 9 1) ((σ857 9 1).toInt) rfl I951 (by omega)) cw_RX7_43 (jc_9 cI cL ad σ945 τ) rfl ⟨Nat.le_of_ble_eq_true rfl, Nat.le_of_ble_eq_true rfl⟩ rfl rfl rfl hl.1 rfl (Nat.le_of_ble_eq_true rfl) dX7_readOrder_114 ⟨Nat.zero_le _, Nat.zero_le _⟩ (fun σ964 τ964 H locs h964 hP hS => ?_)
                  obtain ⟨rfl, f966, f967, h964⟩ := h964
                  obtain ⟨k968, h964⟩ := h964
                  refine lv_aload_n hx hb dX7_readOrder_117 rfl (lv_at hl 4 rfl) ?_
                  refine lv_bipush (v := 114) hx hb dX7_readOrder_118 (by decide) ?_
                  have I969 : jI9 σ964 := jI9_fr (f967 0 (by decide)) (f966 10 (by decide)) (f966 11 (by decide)) I949
                  have I970 : jI91 σ964 := jI91_fr (f967 0 (by decide)) (f967 1 (by decide)) I950
                  have I971 : jI92 σ964 := (show (-1) ≤ (σ964 9 2).toInt by omega)
                  refine jcallV (As := [.int 114]) (rest := []) ⟨hx, hb, hml, hown, hts⟩ hK hP hA hS hZ (c_X7_skip_9 l D cI cL ad zz hJ σ964 τ 114 (114) jz_114 I969 I970 I971 (by omega)) cw_RX7_50 (jc_9 cI cL ad σ964 τ) rfl ⟨Nat.le_of_ble_eq_true rfl, Nat.le_of_ble_eq_true rfl⟩ rfl rfl rfl hl.1 rfl (Nat.le_of_ble_eq_true rfl) dX7_readOrder_120 ⟨Nat.zero_le _, Nat.zero_le _⟩ (fun r973 σ972 τ972 H locs h972 hP hS => ?_)
                  obtain ⟨rfl, f974, f975, I976, I977, I978, h972⟩ := h972
                  obtain ⟨i979, w980, w981⟩ : (0 ≤ (σ972 9 0).toInt ∧ (σ972 9 0).toInt ≤ 80) ∧ (∀ k : Nat, k < 80 → 0 ≤ (σ972 10 k).toInt ∧ (σ972 10 k).toInt ≤ 255) ∧ (∀ k : Nat, k < 8 → 0 ≤ (σ972 11 k).toInt ∧ (σ972 11 k).toInt ≤ 3) := id I976
                  obtain ⟨i982, i983⟩ : (0 ≤ (σ972 9 1).toInt) ∧ ((σ972 9 1).toInt ≤ (σ972 9 0).toInt) := id I977
                  have i984 : (-1) ≤ (σ972 9 2).toInt := I978
                  have z985 : (σ972 9 0).toInt = (σ 9 0).toInt := (congrArg Int32.toInt (show σ972 9 0 = (σ 9 0) from ((f975 0 (by decide)).trans ((f967 0 (by decide)).trans ((f948 0 (by decide)).trans ((f860 0 (by decide)).trans ((f850 0 (by decide)).trans ((f32 0 (by decide)).trans (f11 0 (by decide))))))))))
                  have z986 : (σ972 9 2).toInt = (σ964 9 2).toInt := (congrArg Int32.toInt (show σ972 9 2 = (σ964 9 2) from (f975 2 (by decide))))
                  refine lv_if_eq (tgt := 133) hx hb dX7_readOrder_123 (by decide) (fun c987 => ?_) (fun c987 => ?_)
                  · have kc987 := jeq c987 rfl jz_0
                    refine lv_aload_n hx hb dX7_readOrder_133 rfl (lv_at hl 4 rfl) ?_
                    refine jcallV (As := []) (rest := []) ⟨hx, hb, hml, hown, hts⟩ hK hP hA hS hZ (c_X7_end_9 l D cI cL ad zz hJ σ972 τ I976 I977 I978) cw_RX7_57 (jc_9 cI cL ad σ972 τ) rfl ⟨Nat.le_of_ble_eq_true rfl, Nat.le_of_ble_eq_true rfl⟩ rfl rfl rfl hl.1 rfl (Nat.le_of_ble_eq_true rfl) dX7_readOrder_134 ⟨Nat.zero_le _, Nat.zero_le _⟩ (fun r989 σ988 τ988 H locs h988 hP hS => ?_)
                    obtain ⟨rfl, f990, f991, I992, I993, h988⟩ := h988
                    obtain ⟨i994, w995, w996⟩ : (0 ≤ (σ988 9 0).toInt ∧ (σ988 9 0).toInt ≤ 80) ∧ (∀ k : Nat, k < 80 → 0 ≤ (σ988 10 k).toInt ∧ (σ988 10 k).toInt ≤ 255) ∧ (∀ k : Nat, k < 8 → 0 ≤ (σ988 11 k).toInt ∧ (σ988 11 k).toInt ≤ 3) := id I992
                    have i997 : (-1) ≤ (σ988 9 2).toInt := I993
                    obtain ⟨k998, h988⟩ := h988
                    rcases h988 with h999 | h1000
                    · obtain ⟨q1002, k1001⟩ := h999
                      exact absurd (by omega : False) id
                    · obtain ⟨q1004, k1003⟩ := h1000
                      refine lv_istore (lv' := [(5, .int r989), (3, .int r946), (4, .int 0), (2, .int x24), (0, .ref (ad 9)), (1, .ref (ad 16))]) hx hb dX7_readOrder_137 hl (by decide) rfl (fun ls hl => ?_)
                      refine lv_iload hx hb dX7_readOrder_139 (lv_at hl 0 rfl) ?_
                      refine lv_iconst (v := (-1)) hx hb dX7_readOrder_141 (by decide) ?_
                      refine lv_icmp_eq (tgt := 148) hx hb dX7_readOrder_142 (by decide) (fun c => absurd (jeq c rfl jz_m1) (by omega)) (fun c1005 => ?_)
                      have kc1005 := jne c1005 rfl jz_m1
                      refine lv_iload hx hb dX7_readOrder_145 (lv_at hl 0 rfl) ?_
                      have I1006 : jI16 σ988 := jI16_fr ((congrFun (f990 16 (by decide)) 0).trans ((congrFun (f974 16 (by decide)) 0).trans ((congrFun (f966 16 (by decide)) 0).trans ((congrFun (f947 16 (by decide)) 0).trans ((congrFun (f859 16 (by decide)) 0).trans ((congrFun (f849 16 (by decide)) 0).trans ((congrFun (f31 16 (by decide)) 0).trans (congrFun (f10 16 (by decide)) 0)))))))) ((congrFun (f990 16 (by decide)) 1).trans ((congrFun (f974 16 (by decide)) 1).trans ((congrFun (f966 16 (by decide)) 1).trans ((congrFun (f947 16 (by decide)) 1).trans ((congrFun (f859 16 (by decide)) 1).trans ((congrFun (f849 16 (by decide)) 1).trans ((congrFun (f31 16 (by decide)) 1).trans (congrFun (f10 16 (by decide)) 1)))))))) ((congrFun (f990 16 (by decide)) 2).trans ((congrFun (f974 16 (by decide)) 2).trans ((congrFun (f966 16 (by decide)) 2).trans ((congrFun (f947 16 (by decide)) 2).trans ((congrFun (f859 16 (by decide)) 2).trans ((congrFun (f849 16 (by decide)) 2).trans ((congrFun (f31 16 (by decide)) 2).trans (congrFun (f10 16 (by decide)) 2)))))))) ((f990 17 (by decide)).trans ((f974 17 (by decide)).trans ((f966 17 (by decide)).trans ((f947 17 (by decide)).trans ((f859 17 (by decide)).trans ((f849 17 (by decide)).trans ((f31 17 (by decide)).trans (f10 17 (by decide))))))))) hI16
                      exact hret r989 σ988 τ _ _ _ _ rfl ⟨rfl, (fun i hi => ((f990 i (imp_46 i hi)).trans ((f974 i (imp_46 i hi)).trans ((f966 i (imp_46 i hi)).trans ((f947 i (imp_46 i hi)).trans ((f859 i (imp_46 i hi)).trans ((f849 i (imp_46 i hi)).trans ((f31 i (imp_47 i hi)).trans (f10 i (imp_46 i hi)))))))))), (fun i hi => ((f991 i (imp_48 i hi)).trans ((f975 i (imp_49 i hi)).trans ((f967 i (imp_54 i hi)).trans ((f948 i (imp_50 i hi)).trans ((f860 i (imp_49 i hi)).trans ((f850 i (imp_54 i hi)).trans ((f32 i (imp_49 i hi)).trans (f11 i (imp_50 i hi)))))))))), (fun i hi => ((congrFun (f990 16 (by decide)) i).trans ((congrFun (f974 16 (by decide)) i).trans ((congrFun (f966 16 (by decide)) i).trans ((congrFun (f947 16 (by decide)) i).trans ((congrFun (f859 16 (by decide)) i).trans ((congrFun (f849 16 (by decide)) i).trans ((congrFun (f31 16 (by decide)) i).trans (congrFun (f10 16 (by decide)) i))))))))), I992, I1006, (by omega), trivial⟩ hP hS dX7_readOrder_147
                  · have kc987 := jne c987 rfl jz_0
                    refine lv_aload_n hx hb dX7_readOrder_126 rfl (lv_at hl 4 rfl) ?_
                    refine lv_iconst (v := 3) hx hb dX7_readOrder_127 (by decide) ?_
                    refine jcallV (As := [.int 3]) (rest := []) ⟨hx, hb, hml, hown, hts⟩ hK hP hA hS hZ (c_X7_number_3 l D cI cL ad zz hJ σ972 τ I976 I977 I978) cw_RX7_53 (jc_9 cI cL ad σ972 τ) rfl ⟨Nat.le_of_ble_eq_true rfl, Nat.le_of_ble_eq_true rfl⟩ rfl rfl rfl hl.1 rfl (Nat.le_of_ble_eq_true rfl) dX7_readOrder_128 ⟨Nat.zero_le _, Nat.zero_le _⟩ (fun r1008 σ1007 τ1007 H locs h1007 hP hS => ?_)
                    obtain ⟨rfl, f1009, f1010, I1011, I1012, I1013, h1007⟩ := h1007
                    obtain ⟨i1014, w1015, w1016⟩ : (0 ≤ (σ1007 9 0).toInt ∧ (σ1007 9 0).toInt ≤ 80) ∧ (∀ k : Nat, k < 80 → 0 ≤ (σ1007 10 k).toInt ∧ (σ1007 10 k).toInt ≤ 255) ∧ (∀ k : Nat, k < 8 → 0 ≤ (σ1007 11 k).toInt ∧ (σ1007 11 k).toInt ≤ 3) := id I1011
                    obtain ⟨i1017, i1018⟩ : (0 ≤ (σ1007 9 1).toInt) ∧ ((σ1007 9 1).toInt ≤ (σ1007 9 0).toInt) := id I1012
                    have i1019 : (-1) ≤ (σ1007 9 2).toInt := I1013
                    have z1020 : (σ1007 9 0).toInt = (σ 9 0).toInt := (congrArg Int32.toInt (show σ1007 9 0 = (σ 9 0) from ((f1010 0 (by decide)).trans ((f975 0 (by decide)).trans ((f967 0 (by decide)).trans ((f948 0 (by decide)).trans ((f860 0 (by decide)).trans ((f850 0 (by decide)).trans ((f32 0 (by decide)).trans (f11 0 (by decide)))))))))))
                    obtain ⟨k1021, h1007⟩ := h1007
                    have h1022 := h1007
                    obtain ⟨q1024, k1023⟩ := h1022
                    refine lv_istore (lv' := [(4, .int r1008), (3, .int r946), (5, .int (σ857 9 1)), (2, .int x24), (0, .ref (ad 9)), (1, .ref (ad 16))]) hx hb dX7_readOrder_131 hl (by decide) rfl (fun ls hl => ?_)
                    refine lv_aload_n hx hb dX7_readOrder_133 rfl (lv_at hl 4 rfl) ?_
                    refine jcallV (As := []) (rest := []) ⟨hx, hb, hml, hown, hts⟩ hK hP hA hS hZ (c_X7_end_9 l D cI cL ad zz hJ σ1007 τ I1011 I1012 I1013) cw_RX7_57 (jc_9 cI cL ad σ1007 τ) rfl ⟨Nat.le_of_ble_eq_true rfl, Nat.le_of_ble_eq_true rfl⟩ rfl rfl rfl hl.1 rfl (Nat.le_of_ble_eq_true rfl) dX7_readOrder_134 ⟨Nat.zero_le _, Nat.zero_le _⟩ (fun r1026 σ1025 τ1025 H locs h1025 hP hS => ?_)
                    obtain ⟨rfl, f1027, f1028, I1029, I1030, h1025⟩ := h1025
                    obtain ⟨i1031, w1032, w1033⟩ : (0 ≤ (σ1025 9 0).toInt ∧ (σ1025 9 0).toInt ≤ 80) ∧ (∀ k : Nat, k < 80 → 0 ≤ (σ1025 10 k).toInt ∧ (σ1025 10 k).toInt ≤ 255) ∧ (∀ k : Nat, k < 8 → 0 ≤ (σ1025 11 k).toInt ∧ (σ1025 11 k).toInt ≤ 3) := id I1029
                    have i1034 : (-1) ≤ (σ1025 9 2).toInt := I1030
                    obtain ⟨k1035, h1025⟩ := h1025
                    rcases h1025 with h1036 | h1037
                    · obtain ⟨q1039, k1038⟩ := h1036
                      exact absurd (by omega : False) id
                    · obtain ⟨q1041, k1040⟩ := h1037
                      refine lv_istore (lv' := [(5, .int r1026), (4, .int r1008), (3, .int r946), (2, .int x24), (0, .ref (ad 9)), (1, .ref (ad 16))]) hx hb dX7_readOrder_137 hl (by decide) rfl (fun ls hl => ?_)
                      refine lv_iload hx hb dX7_readOrder_139 (lv_at hl 0 rfl) ?_
                      refine lv_iconst (v := (-1)) hx hb dX7_readOrder_141 (by decide) ?_
                      refine lv_icmp_eq (tgt := 148) hx hb dX7_readOrder_142 (by decide) (fun c => absurd (jeq c rfl jz_m1) (by omega)) (fun c1042 => ?_)
                      have kc1042 := jne c1042 rfl jz_m1
                      refine lv_iload hx hb dX7_readOrder_145 (lv_at hl 0 rfl) ?_
                      have I1043 : jI16 σ1025 := jI16_fr ((congrFun (f1027 16 (by decide)) 0).trans ((congrFun (f1009 16 (by decide)) 0).trans ((congrFun (f974 16 (by decide)) 0).trans ((congrFun (f966 16 (by decide)) 0).trans ((congrFun (f947 16 (by decide)) 0).trans ((congrFun (f859 16 (by decide)) 0).trans ((congrFun (f849 16 (by decide)) 0).trans ((congrFun (f31 16 (by decide)) 0).trans (congrFun (f10 16 (by decide)) 0))))))))) ((congrFun (f1027 16 (by decide)) 1).trans ((congrFun (f1009 16 (by decide)) 1).trans ((congrFun (f974 16 (by decide)) 1).trans ((congrFun (f966 16 (by decide)) 1).trans ((congrFun (f947 16 (by decide)) 1).trans ((congrFun (f859 16 (by decide)) 1).trans ((congrFun (f849 16 (by decide)) 1).trans ((congrFun (f31 16 (by decide)) 1).trans (congrFun (f10 16 (by decide)) 1))))))))) ((congrFun (f1027 16 (by decide)) 2).trans ((congrFun (f1009 16 (by decide)) 2).trans ((congrFun (f974 16 (by decide)) 2).trans ((congrFun (f966 16 (by decide)) 2).trans ((congrFun (f947 16 (by decide)) 2).trans ((congrFun (f859 16 (by decide)) 2).trans ((congrFun (f849 16 (by decide)) 2).trans ((congrFun (f31 16 (by decide)) 2).trans (congrFun (f10 16 (by decide)) 2))))))))) ((f1027 17 (by decide)).trans ((f1009 17 (by decide)).trans ((f974 17 (by decide)).trans ((f966 17 (by decide)).trans ((f947 17 (by decide)).trans ((f859 17 (by decide)).trans ((f849 17 (by decide)).trans ((f31 17 (by decide)).trans (f10 17 (by decide)))))))))) hI16
                      exact hret r1026 σ1025 τ _ _ _ _ rfl ⟨rfl, (fun i hi => ((f1027 i (imp_46 i hi)).trans ((f1009 i (imp_46 i hi)).trans ((f974 i (imp_46 i hi)).trans ((f966 i (imp_46 i hi)).trans ((f947 i (imp_46 i hi)).trans ((f859 i (imp_46 i hi)).trans ((f849 i (imp_46 i hi)).trans ((f31 i (imp_47 i hi)).trans (f10 i (imp_46 i hi))))))))))), (fun i hi => ((f1028 i (imp_48 i hi)).trans ((f1010 i (imp_50 i hi)).trans ((f975 i (imp_49 i hi)).trans ((f967 i (imp_54 i hi)).trans ((f948 i (imp_50 i hi)).trans ((f860 i (imp_49 i hi)).trans ((f850 i (imp_54 i hi)).trans ((f32 i (imp_49 i hi)).trans (f11 i (imp_50 i hi))))))))))), (fun i hi => ((congrFun (f1027 16 (by decide)) i).trans ((congrFun (f1009 16 (by decide)) i).trans ((congrFun (f974 16 (by decide)) i).trans ((congrFun (f966 16 (by decide)) i).trans ((congrFun (f947 16 (by decide)) i).trans ((congrFun (f859 16 (by decide)) i).trans ((congrFun (f849 16 (by decide)) i).trans ((congrFun (f31 16 (by decide)) i).trans (congrFun (f10 16 (by decide)) i)))))))))), I1029, I1043, (by omega), trivial⟩ hP hS dX7_readOrder_147
                · have kc963 := jnlt c963 rfl jz_1
                  refine lv_iload_n hx hb dX7_readOrder_105 rfl (lv_at hl 0 rfl) ?_
                  refine lv_bipush (v := 12) hx hb dX7_readOrder_106 (by decide) ?_
                  refine lv_icmp_le (tgt := 117) hx hb dX7_readOrder_108 (by decide) (fun c1044 => ?_) (fun c1044 => ?_)
                  · have kc1044 := jle c1044 rfl jz_12
                    refine lv_aload_n hx hb dX7_readOrder_117 rfl (lv_at hl 4 rfl) ?_
                    refine lv_bipush (v := 114) hx hb dX7_readOrder_118 (by decide) ?_
                    refine jcallV (As := [.int 114]) (rest := []) ⟨hx, hb, hml, hown, hts⟩ hK hP hA hS hZ (c_X7_skip_9 l D cI cL ad zz hJ σ945 τ 114 (114) jz_114 I949 I950 I951 (by omega)) cw_RX7_50 (jc_9 cI cL ad σ945 τ) rfl ⟨Nat.le_of_ble_eq_true rfl, Nat.le_of_ble_eq_true rfl⟩ rfl rfl rfl hl.1 rfl (Nat.le_of_ble_eq_true rfl) dX7_readOrder_120 ⟨Nat.zero_le _, Nat.zero_le _⟩ (fun r1046 σ1045 τ1045 H locs h1045 hP hS => ?_)
                    obtain ⟨rfl, f1047, f1048, I1049, I1050, I1051, h1045⟩ := h1045
                    obtain ⟨i1052, w1053, w1054⟩ : (0 ≤ (σ1045 9 0).toInt ∧ (σ1045 9 0).toInt ≤ 80) ∧ (∀ k : Nat, k < 80 → 0 ≤ (σ1045 10 k).toInt ∧ (σ1045 10 k).toInt ≤ 255) ∧ (∀ k : Nat, k < 8 → 0 ≤ (σ1045 11 k).toInt ∧ (σ1045 11 k).toInt ≤ 3) := id I1049
                    obtain ⟨i1055, i1056⟩ : (0 ≤ (σ1045 9 1).toInt) ∧ ((σ1045 9 1).toInt ≤ (σ1045 9 0).toInt) := id I1050
                    have i1057 : (-1) ≤ (σ1045 9 2).toInt := I1051
                    have z1058 : (σ1045 9 0).toInt = (σ 9 0).toInt := (congrArg Int32.toInt (show σ1045 9 0 = (σ 9 0) from ((f1048 0 (by decide)).trans ((f948 0 (by decide)).trans ((f860 0 (by decide)).trans ((f850 0 (by decide)).trans ((f32 0 (by decide)).trans (f11 0 (by decide)))))))))
                    have z1059 : (σ1045 9 2).toInt = (σ945 9 2).toInt := (congrArg Int32.toInt (show σ1045 9 2 = (σ945 9 2) from (f1048 2 (by decide))))
                    refine lv_if_eq (tgt := 133) hx hb dX7_readOrder_123 (by decide) (fun c1060 => ?_) (fun c1060 => ?_)
                    · have kc1060 := jeq c1060 rfl jz_0
                      refine lv_aload_n hx hb dX7_readOrder_133 rfl (lv_at hl 4 rfl) ?_
                      refine jcallV (As := []) (rest := []) ⟨hx, hb, hml, hown, hts⟩ hK hP hA hS hZ (c_X7_end_9 l D cI cL ad zz hJ σ1045 τ I1049 I1050 I1051) cw_RX7_57 (jc_9 cI cL ad σ1045 τ) rfl ⟨Nat.le_of_ble_eq_true rfl, Nat.le_of_ble_eq_true rfl⟩ rfl rfl rfl hl.1 rfl (Nat.le_of_ble_eq_true rfl) dX7_readOrder_134 ⟨Nat.zero_le _, Nat.zero_le _⟩ (fun r1062 σ1061 τ1061 H locs h1061 hP hS => ?_)
                      obtain ⟨rfl, f1063, f1064, I1065, I1066, h1061⟩ := h1061
                      obtain ⟨i1067, w1068, w1069⟩ : (0 ≤ (σ1061 9 0).toInt ∧ (σ1061 9 0).toInt ≤ 80) ∧ (∀ k : Nat, k < 80 → 0 ≤ (σ1061 10 k).toInt ∧ (σ1061 10 k).toInt ≤ 255) ∧ (∀ k : Nat, k < 8 → 0 ≤ (σ1061 11 k).toInt ∧ (σ1061 11 k).toInt ≤ 3) := id I1065
                      have i1070 : (-1) ≤ (σ1061 9 2).toInt := I1066
                      obtain ⟨k1071, h1061⟩ := h1061
                      rcases h1061 with h1072 | h1073
                      · obtain ⟨q1075, k1074⟩ := h1072
                        exact absurd (by omega : False) id
                      · obtain ⟨q1077, k1076⟩ := h1073
                        refine lv_istore (lv' := [(5, .int r1062), (3, .int r946), (4, .int 0), (2, .int x24), (0, .ref (ad 9)), (1, .ref (ad 16))]) hx hb dX7_readOrder_137 hl (by decide) rfl (fun ls hl => ?_)
                        refine lv_iload hx hb dX7_readOrder_139 (lv_at hl 0 rfl) ?_
                        refine lv_iconst (v := (-1)) hx hb dX7_readOrder_141 (by decide) ?_
                        refine lv_icmp_eq (tgt := 148) hx hb dX7_readOrder_142 (by decide) (fun c => absurd (jeq c rfl jz_m1) (by omega)) (fun c1078 => ?_)
                        have kc1078 := jne c1078 rfl jz_m1
                        refine lv_iload hx hb dX7_readOrder_145 (lv_at hl 0 rfl) ?_
                        have I1079 : jI16 σ1061 := jI16_fr ((congrFun (f1063 16 (by decide)) 0).trans ((congrFun (f1047 16 (by decide)) 0).trans ((congrFun (f947 16 (by decide)) 0).trans ((congrFun (f859 16 (by decide)) 0).trans ((congrFun (f849 16 (by decide)) 0).trans ((congrFun (f31 16 (by decide)) 0).trans (congrFun (f10 16 (by decide)) 0))))))) ((congrFun (f1063 16 (by decide)) 1).trans ((congrFun (f1047 16 (by decide)) 1).trans ((congrFun (f947 16 (by decide)) 1).trans ((congrFun (f859 16 (by decide)) 1).trans ((congrFun (f849 16 (by decide)) 1).trans ((congrFun (f31 16 (by decide)) 1).trans (congrFun (f10 16 (by decide)) 1))))))) ((congrFun (f1063 16 (by decide)) 2).trans ((congrFun (f1047 16 (by decide)) 2).trans ((congrFun (f947 16 (by decide)) 2).trans ((congrFun (f859 16 (by decide)) 2).trans ((congrFun (f849 16 (by decide)) 2).trans ((congrFun (f31 16 (by decide)) 2).trans (congrFun (f10 16 (by decide)) 2))))))) ((f1063 17 (by decide)).trans ((f1047 17 (by decide)).trans ((f947 17 (by decide)).trans ((f859 17 (by decide)).trans ((f849 17 (by decide)).trans ((f31 17 (by decide)).trans (f10 17 (by decide)))))))) hI16
                        exact hret r1062 σ1061 τ _ _ _ _ rfl ⟨rfl, (fun i hi => ((f1063 i (imp_46 i hi)).trans ((f1047 i (imp_46 i hi)).trans ((f947 i (imp_46 i hi)).trans ((f859 i (imp_46 i hi)).trans ((f849 i (imp_46 i hi)).trans ((f31 i (imp_47 i hi)).trans (f10 i (imp_46 i hi))))))))), (fun i hi => ((f1064 i (imp_48 i hi)).trans ((f1048 i (imp_49 i hi)).trans ((f948 i (imp_50 i hi)).trans ((f860 i (imp_49 i hi)).trans ((f850 i (imp_54 i hi)).trans ((f32 i (imp_49 i hi)).trans (f11 i (imp_50 i hi))))))))), (fun i hi => ((congrFun (f1063 16 (by decide)) i).trans ((congrFun (f1047 16 (by decide)) i).trans ((congrFun (f947 16 (by decide)) i).trans ((congrFun (f859 16 (by decide)) i).trans ((congrFun (f849 16 (by decide)) i).trans ((congrFun (f31 16 (by decide)) i).trans (congrFun (f10 16 (by decide)) i)))))))), I1065, I1079, (by omega), trivial⟩ hP hS dX7_readOrder_147
                    · have kc1060 := jne c1060 rfl jz_0
                      refine lv_aload_n hx hb dX7_readOrder_126 rfl (lv_at hl 4 rfl) ?_
                      refine lv_iconst (v := 3) hx hb dX7_readOrder_127 (by decide) ?_
                      refine jcallV (As := [.int 3]) (rest := []) ⟨hx, hb, hml, hown, hts⟩ hK hP hA hS hZ (c_X7_number_3 l D cI cL ad zz hJ σ1045 τ I1049 I1050 I1051) cw_RX7_53 (jc_9 cI cL ad σ1045 τ) rfl ⟨Nat.le_of_ble_eq_true rfl, Nat.le_of_ble_eq_true rfl⟩ rfl rfl rfl hl.1 rfl (Nat.le_of_ble_eq_true rfl) dX7_readOrder_128 ⟨Nat.zero_le _, Nat.zero_le _⟩ (fun r1081 σ1080 τ1080 H locs h1080 hP hS => ?_)
                      obtain ⟨rfl, f1082, f1083, I1084, I1085, I1086, h1080⟩ := h1080
                      obtain ⟨i1087, w1088, w1089⟩ : (0 ≤ (σ1080 9 0).toInt ∧ (σ1080 9 0).toInt ≤ 80) ∧ (∀ k : Nat, k < 80 → 0 ≤ (σ1080 10 k).toInt ∧ (σ1080 10 k).toInt ≤ 255) ∧ (∀ k : Nat, k < 8 → 0 ≤ (σ1080 11 k).toInt ∧ (σ1080 11 k).toInt ≤ 3) := id I1084
                      obtain ⟨i1090, i1091⟩ : (0 ≤ (σ1080 9 1).toInt) ∧ ((σ1080 9 1).toInt ≤ (σ1080 9 0).toInt) := id I1085
                      have i1092 : (-1) ≤ (σ1080 9 2).toInt := I1086
                      have z1093 : (σ1080 9 0).toInt = (σ 9 0).toInt := (congrArg Int32.toInt (show σ1080 9 0 = (σ 9 0) from ((f1083 0 (by decide)).trans ((f1048 0 (by decide)).trans ((f948 0 (by decide)).trans ((f860 0 (by decide)).trans ((f850 0 (by decide)).trans ((f32 0 (by decide)).trans (f11 0 (by decide))))))))))
                      obtain ⟨k1094, h1080⟩ := h1080
                      have h1095 := h1080
                      obtain ⟨q1097, k1096⟩ := h1095
                      refine lv_istore (lv' := [(4, .int r1081), (3, .int r946), (5, .int (σ857 9 1)), (2, .int x24), (0, .ref (ad 9)), (1, .ref (ad 16))]) hx hb dX7_readOrder_131 hl (by decide) rfl (fun ls hl => ?_)
                      refine lv_aload_n hx hb dX7_readOrder_133 rfl (lv_at hl 4 rfl) ?_
                      refine jcallV (As := []) (rest := []) ⟨hx, hb, hml, hown, hts⟩ hK hP hA hS hZ (c_X7_end_9 l D cI cL ad zz hJ σ1080 τ I1084 I1085 I1086) cw_RX7_57 (jc_9 cI cL ad σ1080 τ) rfl ⟨Nat.le_of_ble_eq_true rfl, Nat.le_of_ble_eq_true rfl⟩ rfl rfl rfl hl.1 rfl (Nat.le_of_ble_eq_true rfl) dX7_readOrder_134 ⟨Nat.zero_le _, Nat.zero_le _⟩ (fun r1099 σ1098 τ1098 H locs h1098 hP hS => ?_)
                      obtain ⟨rfl, f1100, f1101, I1102, I1103, h1098⟩ := h1098
                      obtain ⟨i1104, w1105, w1106⟩ : (0 ≤ (σ1098 9 0).toInt ∧ (σ1098 9 0).toInt ≤ 80) ∧ (∀ k : Nat, k < 80 → 0 ≤ (σ1098 10 k).toInt ∧ (σ1098 10 k).toInt ≤ 255) ∧ (∀ k : Nat, k < 8 → 0 ≤ (σ1098 11 k).toInt ∧ (σ1098 11 k).toInt ≤ 3) := id I1102
                      have i1107 : (-1) ≤ (σ1098 9 2).toInt := I1103
                      obtain ⟨k1108, h1098⟩ := h1098
                      rcases h1098 with h1109 | h1110
                      · obtain ⟨q1112, k1111⟩ := h1109
                        exact absurd (by omega : False) id
                      · obtain ⟨q1114, k1113⟩ := h1110
                        refine lv_istore (lv' := [(5, .int r1099), (4, .int r1081), (3, .int r946), (2, .int x24), (0, .ref (ad 9)), (1, .ref (ad 16))]) hx hb dX7_readOrder_137 hl (by decide) rfl (fun ls hl => ?_)
                        refine lv_iload hx hb dX7_readOrder_139 (lv_at hl 0 rfl) ?_
                        refine lv_iconst (v := (-1)) hx hb dX7_readOrder_141 (by decide) ?_
                        refine lv_icmp_eq (tgt := 148) hx hb dX7_readOrder_142 (by decide) (fun c => absurd (jeq c rfl jz_m1) (by omega)) (fun c1115 => ?_)
                        have kc1115 := jne c1115 rfl jz_m1
                        refine lv_iload hx hb dX7_readOrder_145 (lv_at hl 0 rfl) ?_
                        have I1116 : jI16 σ1098 := jI16_fr ((congrFun (f1100 16 (by decide)) 0).trans ((congrFun (f1082 16 (by decide)) 0).trans ((congrFun (f1047 16 (by decide)) 0).trans ((congrFun (f947 16 (by decide)) 0).trans ((congrFun (f859 16 (by decide)) 0).trans ((congrFun (f849 16 (by decide)) 0).trans ((congrFun (f31 16 (by decide)) 0).trans (congrFun (f10 16 (by decide)) 0)))))))) ((congrFun (f1100 16 (by decide)) 1).trans ((congrFun (f1082 16 (by decide)) 1).trans ((congrFun (f1047 16 (by decide)) 1).trans ((congrFun (f947 16 (by decide)) 1).trans ((congrFun (f859 16 (by decide)) 1).trans ((congrFun (f849 16 (by decide)) 1).trans ((congrFun (f31 16 (by decide)) 1).trans (congrFun (f10 16 (by decide)) 1)))))))) ((congrFun (f1100 16 (by decide)) 2).trans ((congrFun (f1082 16 (by decide)) 2).trans ((congrFun (f1047 16 (by decide)) 2).trans ((congrFun (f947 16 (by decide)) 2).trans ((congrFun (f859 16 (by decide)) 2).trans ((congrFun (f849 16 (by decide)) 2).trans ((congrFun (f31 16 (by decide)) 2).trans (congrFun (f10 16 (by decide)) 2)))))))) ((f1100 17 (by decide)).trans ((f1082 17 (by decide)).trans ((f1047 17 (by decide)).trans ((f947 17 (by decide)).trans ((f859 17 (by decide)).trans ((f849 17 (by decide)).trans ((f31 17 (by decide)).trans (f10 17 (by decide))))))))) hI16
                        exact hret r1099 σ1098 τ _ _ _ _ rfl ⟨rfl, (fun i hi => ((f1100 i (imp_46 i hi)).trans ((f1082 i (imp_46 i hi)).trans ((f1047 i (imp_46 i hi)).trans ((f947 i (imp_46 i hi)).trans ((f859 i (imp_46 i hi)).trans ((f849 i (imp_46 i hi)).trans ((f31 i (imp_47 i hi)).trans (f10 i (imp_46 i hi)))))))))), (fun i hi => ((f1101 i (imp_48 i hi)).trans ((f1083 i (imp_50 i hi)).trans ((f1048 i (imp_49 i hi)).trans ((f948 i (imp_50 i hi)).trans ((f860 i (imp_49 i hi)).trans ((f850 i (imp_54 i hi)).trans ((f32 i (imp_49 i hi)).trans (f11 i (imp_50 i hi)))))))))), (fun i hi => ((congrFun (f1100 16 (by decide)) i).trans ((congrFun (f1082 16 (by decide)) i).trans ((congrFun (f1047 16 (by decide)) i).trans ((congrFun (f947 16 (by decide)) i).trans ((congrFun (f859 16 (by decide)) i).trans ((congrFun (f849 16 (by decide)) i).trans ((congrFun (f31 16 (by decide)) i).trans (congrFun (f10 16 (by decide)) i))))))))), I1102, I1116, (by omega), trivial⟩ hP hS dX7_readOrder_147
                  · have kc1044 := jnle c1044 rfl jz_12
                    refine lv_aload_n hx hb dX7_readOrder_111 rfl (lv_at hl 4 rfl) ?_
                    refine lv_iload hx hb dX7_readOrder_112 (lv_at hl 1 rfl) ?_
                    refine jcallVv (As := [.int (σ857 9 1)]) (rest := []) ⟨hx, hb, hml, hown, hts⟩ hK hP hA hS hZ (c_X7_fail_9 l D cI cL ad zz hJ σ945 τ (σ857 9 1) ((σ857 9 1).toInt) rfl I951 (by omega)) cw_RX7_43 (jc_9 cI cL ad σ945 τ) rfl ⟨Nat.le_of_ble_eq_true rfl, Nat.le_of_ble_eq_true rfl⟩ rfl rfl rfl hl.1 rfl (Nat.le_of_ble_eq_true rfl) dX7_readOrder_114 ⟨Nat.zero_le _, Nat.zero_le _⟩ (fun σ1117 τ1117 H locs h1117 hP hS => ?_)
                    obtain ⟨rfl, f1119, f1120, h1117⟩ := h1117
                    obtain ⟨k1121, h1117⟩ := h1117
                    refine lv_aload_n hx hb dX7_readOrder_117 rfl (lv_at hl 4 rfl) ?_
                    refine lv_bipush (v := 114) hx hb dX7_readOrder_118 (by decide) ?_
                    have I1122 : jI9 σ1117 := jI9_fr (f1120 0 (by decide)) (f1119 10 (by decide)) (f1119 11 (by decide)) I949
                    have I1123 : jI91 σ1117 := jI91_fr (f1120 0 (by decide)) (f1120 1 (by decide)) I950
                    have I1124 : jI92 σ1117 := (show (-1) ≤ (σ1117 9 2).toInt by omega)
                    refine jcallV (As := [.int 114]) (rest := []) ⟨hx, hb, hml, hown, hts⟩ hK hP hA hS hZ (c_X7_skip_9 l D cI cL ad zz hJ σ1117 τ 114 (114) jz_114 I1122 I1123 I1124 (by omega)) cw_RX7_50 (jc_9 cI cL ad σ1117 τ) rfl ⟨Nat.le_of_ble_eq_true rfl, Nat.le_of_ble_eq_true rfl⟩ rfl rfl rfl hl.1 rfl (Nat.le_of_ble_eq_true rfl) dX7_readOrder_120 ⟨Nat.zero_le _, Nat.zero_le _⟩ (fun r1126 σ1125 τ1125 H locs h1125 hP hS => ?_)
                    obtain ⟨rfl, f1127, f1128, I1129, I1130, I1131, h1125⟩ := h1125
                    obtain ⟨i1132, w1133, w1134⟩ : (0 ≤ (σ1125 9 0).toInt ∧ (σ1125 9 0).toInt ≤ 80) ∧ (∀ k : Nat, k < 80 → 0 ≤ (σ1125 10 k).toInt ∧ (σ1125 10 k).toInt ≤ 255) ∧ (∀ k : Nat, k < 8 → 0 ≤ (σ1125 11 k).toInt ∧ (σ1125 11 k).toInt ≤ 3) := id I1129
                    obtain ⟨i1135, i1136⟩ : (0 ≤ (σ1125 9 1).toInt) ∧ ((σ1125 9 1).toInt ≤ (σ1125 9 0).toInt) := id I1130
                    have i1137 : (-1) ≤ (σ1125 9 2).toInt := I1131
                    have z1138 : (σ1125 9 0).toInt = (σ 9 0).toInt := (congrArg Int32.toInt (show σ1125 9 0 = (σ 9 0) from ((f1128 0 (by decide)).trans ((f1120 0 (by decide)).trans ((f948 0 (by decide)).trans ((f860 0 (by decide)).trans ((f850 0 (by decide)).trans ((f32 0 (by decide)).trans (f11 0 (by decide))))))))))
                    have z1139 : (σ1125 9 2).toInt = (σ1117 9 2).toInt := (congrArg Int32.toInt (show σ1125 9 2 = (σ1117 9 2) from (f1128 2 (by decide))))
                    refine lv_if_eq (tgt := 133) hx hb dX7_readOrder_123 (by decide) (fun c1140 => ?_) (fun c1140 => ?_)
                    · have kc1140 := jeq c1140 rfl jz_0
                      refine lv_aload_n hx hb dX7_readOrder_133 rfl (lv_at hl 4 rfl) ?_
                      refine jcallV (As := []) (rest := []) ⟨hx, hb, hml, hown, hts⟩ hK hP hA hS hZ (c_X7_end_9 l D cI cL ad zz hJ σ1125 τ I1129 I1130 I1131) cw_RX7_57 (jc_9 cI cL ad σ1125 τ) rfl ⟨Nat.le_of_ble_eq_true rfl, Nat.le_of_ble_eq_true rfl⟩ rfl rfl rfl hl.1 rfl (Nat.le_of_ble_eq_true rfl) dX7_readOrder_134 ⟨Nat.zero_le _, Nat.zero_le _⟩ (fun r1142 σ1141 τ1141 H locs h1141 hP hS => ?_)
                      obtain ⟨rfl, f1143, f1144, I1145, I1146, h1141⟩ := h1141
                      obtain ⟨i1147, w1148, w1149⟩ : (0 ≤ (σ1141 9 0).toInt ∧ (σ1141 9 0).toInt ≤ 80) ∧ (∀ k : Nat, k < 80 → 0 ≤ (σ1141 10 k).toInt ∧ (σ1141 10 k).toInt ≤ 255) ∧ (∀ k : Nat, k < 8 → 0 ≤ (σ1141 11 k).toInt ∧ (σ1141 11 k).toInt ≤ 3) := id I1145
                      have i1150 : (-1) ≤ (σ1141 9 2).toInt := I1146
                      obtain ⟨k1151, h1141⟩ := h1141
                      rcases h1141 with h1152 | h1153
                      · obtain ⟨q1155, k1154⟩ := h1152
                        exact absurd (by omega : False) id
                      · obtain ⟨q1157, k1156⟩ := h1153
                        refine lv_istore (lv' := [(5, .int r1142), (3, .int r946), (4, .int 0), (2, .int x24), (0, .ref (ad 9)), (1, .ref (ad 16))]) hx hb dX7_readOrder_137 hl (by decide) rfl (fun ls hl => ?_)
                        refine lv_iload hx hb dX7_readOrder_139 (lv_at hl 0 rfl) ?_
                        refine lv_iconst (v := (-1)) hx hb dX7_readOrder_141 (by decide) ?_
                        refine lv_icmp_eq (tgt := 148) hx hb dX7_readOrder_142 (by decide) (fun c => absurd (jeq c rfl jz_m1) (by omega)) (fun c1158 => ?_)
                        have kc1158 := jne c1158 rfl jz_m1
                        refine lv_iload hx hb dX7_readOrder_145 (lv_at hl 0 rfl) ?_
                        have I1159 : jI16 σ1141 := jI16_fr ((congrFun (f1143 16 (by decide)) 0).trans ((congrFun (f1127 16 (by decide)) 0).trans ((congrFun (f1119 16 (by decide)) 0).trans ((congrFun (f947 16 (by decide)) 0).trans ((congrFun (f859 16 (by decide)) 0).trans ((congrFun (f849 16 (by decide)) 0).trans ((congrFun (f31 16 (by decide)) 0).trans (congrFun (f10 16 (by decide)) 0)))))))) ((congrFun (f1143 16 (by decide)) 1).trans ((congrFun (f1127 16 (by decide)) 1).trans ((congrFun (f1119 16 (by decide)) 1).trans ((congrFun (f947 16 (by decide)) 1).trans ((congrFun (f859 16 (by decide)) 1).trans ((congrFun (f849 16 (by decide)) 1).trans ((congrFun (f31 16 (by decide)) 1).trans (congrFun (f10 16 (by decide)) 1)))))))) ((congrFun (f1143 16 (by decide)) 2).trans ((congrFun (f1127 16 (by decide)) 2).trans ((congrFun (f1119 16 (by decide)) 2).trans ((congrFun (f947 16 (by decide)) 2).trans ((congrFun (f859 16 (by decide)) 2).trans ((congrFun (f849 16 (by decide)) 2).trans ((congrFun (f31 16 (by decide)) 2).trans (congrFun (f10 16 (by decide)) 2)))))))) ((f1143 17 (by decide)).trans ((f1127 17 (by decide)).trans ((f1119 17 (by decide)).trans ((f947 17 (by decide)).trans ((f859 17 (by decide)).trans ((f849 17 (by decide)).trans ((f31 17 (by decide)).trans (f10 17 (by decide))))))))) hI16
                        exact hret r1142 σ1141 τ _ _ _ _ rfl ⟨rfl, (fun i hi => ((f1143 i (imp_46 i hi)).trans ((f1127 i (imp_46 i hi)).trans ((f1119 i (imp_46 i hi)).trans ((f947 i (imp_46 i hi)).trans ((f859 i (imp_46 i hi)).trans ((f849 i (imp_46 i hi)).trans ((f31 i (imp_47 i hi)).trans (f10 i (imp_46 i hi)))))))))), (fun i hi => ((f1144 i (imp_48 i hi)).trans ((f1128 i (imp_49 i hi)).trans ((f1120 i (imp_54 i hi)).trans ((f948 i (imp_50 i hi)).trans ((f860 i (imp_49 i hi)).trans ((f850 i (imp_54 i hi)).trans ((f32 i (imp_49 i hi)).trans (f11 i (imp_50 i hi)))))))))), (fun i hi => ((congrFun (f1143 16 (by decide)) i).trans ((congrFun (f1127 16 (by decide)) i).trans ((congrFun (f1119 16 (by decide)) i).trans ((congrFun (f947 16 (by decide)) i).trans ((congrFun (f859 16 (by decide)) i).trans ((congrFun (f849 16 (by decide)) i).trans ((congrFun (f31 16 (by decide)) i).trans (congrFun (f10 16 (by decide)) i))))))))), I1145, I1159, (by omega), trivial⟩ hP hS dX7_readOrder_147
                    · have kc1140 := jne c1140 rfl jz_0
                      refine lv_aload_n hx hb dX7_readOrder_126 rfl (lv_at hl 4 rfl) ?_
                      refine lv_iconst (v := 3) hx hb dX7_readOrder_127 (by decide) ?_
                      refine jcallV (As := [.int 3]) (rest := []) ⟨hx, hb, hml, hown, hts⟩ hK hP hA hS hZ (c_X7_number_3 l D cI cL ad zz hJ σ1125 τ I1129 I1130 I1131) cw_RX7_53 (jc_9 cI cL ad σ1125 τ) rfl ⟨Nat.le_of_ble_eq_true rfl, Nat.le_of_ble_eq_true rfl⟩ rfl rfl rfl hl.1 rfl (Nat.le_of_ble_eq_true rfl) dX7_readOrder_128 ⟨Nat.zero_le _, Nat.zero_le _⟩ (fun r1161 σ1160 τ1160 H locs h1160 hP hS => ?_)
                      obtain ⟨rfl, f1162, f1163, I1164, I1165, I1166, h1160⟩ := h1160
                      obtain ⟨i1167, w1168, w1169⟩ : (0 ≤ (σ1160 9 0).toInt ∧ (σ1160 9 0).toInt ≤ 80) ∧ (∀ k : Nat, k < 80 → 0 ≤ (σ1160 10 k).toInt ∧ (σ1160 10 k).toInt ≤ 255) ∧ (∀ k : Nat, k < 8 → 0 ≤ (σ1160 11 k).toInt ∧ (σ1160 11 k).toInt ≤ 3) := id I1164
                      obtain ⟨i1170, i1171⟩ : (0 ≤ (σ1160 9 1).toInt) ∧ ((σ1160 9 1).toInt ≤ (σ1160 9 0).toInt) := id I1165
                      have i1172 : (-1) ≤ (σ1160 9 2).toInt := I1166
                      have z1173 : (σ1160 9 0).toInt = (σ 9 0).toInt := (congrArg Int32.toInt (show σ1160 9 0 = (σ 9 0) from ((f1163 0 (by decide)).trans ((f1128 0 (by decide)).trans ((f1120 0 (by decide)).trans ((f948 0 (by decide)).trans ((f860 0 (by decide)).trans ((f850 0 (by decide)).trans ((f32 0 (by decide)).trans (f11 0 (by decide)))))))))))
                      obtain ⟨k1174, h1160⟩ := h1160
                      have h1175 := h1160
                      obtain ⟨q1177, k1176⟩ := h1175
                      refine lv_istore (lv' := [(4, .int r1161), (3, .int r946), (5, .int (σ857 9 1)), (2, .int x24), (0, .ref (ad 9)), (1, .ref (ad 16))]) hx hb dX7_readOrder_131 hl (by decide) rfl (fun ls hl => ?_)
                      refine lv_aload_n hx hb dX7_readOrder_133 rfl (lv_at hl 4 rfl) ?_
                      refine jcallV (As := []) (rest := []) ⟨hx, hb, hml, hown, hts⟩ hK hP hA hS hZ (c_X7_end_9 l D cI cL ad zz hJ σ1160 τ I1164 I1165 I1166) cw_RX7_57 (jc_9 cI cL ad σ1160 τ) rfl ⟨Nat.le_of_ble_eq_true rfl, Nat.le_of_ble_eq_true rfl⟩ rfl rfl rfl hl.1 rfl (Nat.le_of_ble_eq_true rfl) dX7_readOrder_134 ⟨Nat.zero_le _, Nat.zero_le _⟩ (fun r1179 σ1178 τ1178 H locs h1178 hP hS => ?_)
                      obtain ⟨rfl, f1180, f1181, I1182, I1183, h1178⟩ := h1178
                      obtain ⟨i1184, w1185, w1186⟩ : (0 ≤ (σ1178 9 0).toInt ∧ (σ1178 9 0).toInt ≤ 80) ∧ (∀ k : Nat, k < 80 → 0 ≤ (σ1178 10 k).toInt ∧ (σ1178 10 k).toInt ≤ 255) ∧ (∀ k : Nat, k < 8 → 0 ≤ (σ1178 11 k).toInt ∧ (σ1178 11 k).toInt ≤ 3) := id I1182
                      have i1187 : (-1) ≤ (σ1178 9 2).toInt := I1183
                      obtain ⟨k1188, h1178⟩ := h1178
                      rcases h1178 with h1189 | h1190
                      · obtain ⟨q1192, k1191⟩ := h1189
                        exact absurd (by omega : False) id
                      · obtain ⟨q1194, k1193⟩ := h1190
                        refine lv_istore (lv' := [(5, .int r1179), (4, .int r1161), (3, .int r946), (2, .int x24), (0, .ref (ad 9)), (1, .ref (ad 16))]) hx hb dX7_readOrder_137 hl (by decide) rfl (fun ls hl => ?_)
                        refine lv_iload hx hb dX7_readOrder_139 (lv_at hl 0 rfl) ?_
                        refine lv_iconst (v := (-1)) hx hb dX7_readOrder_141 (by decide) ?_
                        refine lv_icmp_eq (tgt := 148) hx hb dX7_readOrder_142 (by decide) (fun c => absurd (jeq c rfl jz_m1) (by omega)) (fun c1195 => ?_)
                        have kc1195 := jne c1195 rfl jz_m1
                        refine lv_iload hx hb dX7_readOrder_145 (lv_at hl 0 rfl) ?_
                        have I1196 : jI16 σ1178 := jI16_fr ((congrFun (f1180 16 (by decide)) 0).trans ((congrFun (f1162 16 (by decide)) 0).trans ((congrFun (f1127 16 (by decide)) 0).trans ((congrFun (f1119 16 (by decide)) 0).trans ((congrFun (f947 16 (by decide)) 0).trans ((congrFun (f859 16 (by decide)) 0).trans ((congrFun (f849 16 (by decide)) 0).trans ((congrFun (f31 16 (by decide)) 0).trans (congrFun (f10 16 (by decide)) 0))))))))) ((congrFun (f1180 16 (by decide)) 1).trans ((congrFun (f1162 16 (by decide)) 1).trans ((congrFun (f1127 16 (by decide)) 1).trans ((congrFun (f1119 16 (by decide)) 1).trans ((congrFun (f947 16 (by decide)) 1).trans ((congrFun (f859 16 (by decide)) 1).trans ((congrFun (f849 16 (by decide)) 1).trans ((congrFun (f31 16 (by decide)) 1).trans (congrFun (f10 16 (by decide)) 1))))))))) ((congrFun (f1180 16 (by decide)) 2).trans ((congrFun (f1162 16 (by decide)) 2).trans ((congrFun (f1127 16 (by decide)) 2).trans ((congrFun (f1119 16 (by decide)) 2).trans ((congrFun (f947 16 (by decide)) 2).trans ((congrFun (f859 16 (by decide)) 2).trans ((congrFun (f849 16 (by decide)) 2).trans ((congrFun (f31 16 (by decide)) 2).trans (congrFun (f10 16 (by decide)) 2))))))))) ((f1180 17 (by decide)).trans ((f1162 17 (by decide)).trans ((f1127 17 (by decide)).trans ((f1119 17 (by decide)).trans ((f947 17 (by decide)).trans ((f859 17 (by decide)).trans ((f849 17 (by decide)).trans ((f31 17 (by decide)).trans (f10 17 (by decide)))))))))) hI16
                        exact hret r1179 σ1178 τ _ _ _ _ rfl ⟨rfl, (fun i hi => ((f1180 i (imp_46 i hi)).trans ((f1162 i (imp_46 i hi)).trans ((f1127 i (imp_46 i hi)).trans ((f1119 i (imp_46 i hi)).trans ((f947 i (imp_46 i hi)).trans ((f859 i (imp_46 i hi)).trans ((f849 i (imp_46 i hi)).trans ((f31 i (imp_47 i hi)).trans (f10 i (imp_46 i hi))))))))))), (fun i hi => ((f1181 i (imp_48 i hi)).trans ((f1163 i (imp_50 i hi)).trans ((f1128 i (imp_49 i hi)).trans ((f1120 i (imp_54 i hi)).trans ((f948 i (imp_50 i hi)).trans ((f860 i (imp_49 i hi)).trans ((f850 i (imp_54 i hi)).trans ((f32 i (imp_49 i hi)).trans (f11 i (imp_50 i hi))))))))))), (fun i hi => ((congrFun (f1180 16 (by decide)) i).trans ((congrFun (f1162 16 (by decide)) i).trans ((congrFun (f1127 16 (by decide)) i).trans ((congrFun (f1119 16 (by decide)) i).trans ((congrFun (f947 16 (by decide)) i).trans ((congrFun (f859 16 (by decide)) i).trans ((congrFun (f849 16 (by decide)) i).trans ((congrFun (f31 16 (by decide)) i).trans (congrFun (f10 16 (by decide)) i)))))))))), I1182, I1196, (by omega), trivial⟩ hP hS dX7_readOrder_147
          · have kc446 := jnlt c446 rfl jz_48
            refine lv_aload_n hx hb dX7_readOrder_27 rfl (lv_at hl 3 rfl) ?_
            refine jcallV (As := []) (rest := []) ⟨hx, hb, hml, hown, hts⟩ hK hP hA hS hZ (c_X7_sign_9 l D cI cL ad zz hJ σ25 τ p33) cw_RX7_35 (jc_9 cI cL ad σ25 τ) rfl ⟨Nat.le_of_ble_eq_true rfl, Nat.le_of_ble_eq_true rfl⟩ rfl rfl rfl hl.1 rfl (Nat.le_of_ble_eq_true rfl) dX7_readOrder_28 ⟨Nat.zero_le _, Nat.zero_le _⟩ (fun r1198 σ1197 τ1197 H locs h1197 hP hS => ?_)
            obtain ⟨⟨rfl, rfl⟩, h1197⟩ := h1197
            rcases h1197 with h1199 | h1200
            · obtain ⟨q1203, k1201, k1202⟩ := h1199
              have q1204 : r1198 = (σ 10 (σ25 9 1).toNatClampNeg) := q1203.trans (by rw [f31 10 (by decide), f10 10 (by decide)])
              have q1204e : (σ25 10 (σ25 9 1).toNatClampNeg).toInt = (σ 10 (σ25 9 1).toNatClampNeg).toInt := by rw [← q1203, ← q1204]
              have q1204 := q1204.symm
              subst q1204
              refine lv_bipush (v := 51) hx hb dX7_readOrder_31 (by decide) ?_
              refine lv_icmp_gt (tgt := 67) hx hb dX7_readOrder_33 (by decide) (fun c1205 => ?_) (fun c1205 => ?_)
              · have kc1205 := jlt c1205 jz_51 rfl
                refine lv_iload_n hx hb dX7_readOrder_67 rfl (lv_at hl 2 rfl) ?_
                refine lv_if_ne (tgt := 79) hx hb dX7_readOrder_68 (by decide) (fun c1206 => ?_) (fun c1206 => ?_)
                · have kc1206 := jne c1206 rfl jz_0
                  refine lv_aload_n hx hb dX7_readOrder_79 rfl (lv_at hl 3 rfl) ?_
                  refine lv_bipush (v := 58) hx hb dX7_readOrder_80 (by decide) ?_
                  have I1207 : jI91 σ25 := ⟨(by omega), (by omega)⟩
                  have I1208 : jI92 σ25 := jI92_fr (f32 2 (by decide)) I14
                  refine jcallV (As := [.int 58]) (rest := []) ⟨hx, hb, hml, hown, hts⟩ hK hP hA hS hZ (c_X7_skip_9 l D cI cL ad zz hJ σ25 τ 58 (58) jz_58 p33 I1207 I1208 (by omega)) cw_RX7_50 (jc_9 cI cL ad σ25 τ) rfl ⟨Nat.le_of_ble_eq_true rfl, Nat.le_of_ble_eq_true rfl⟩ rfl rfl rfl hl.1 rfl (Nat.le_of_ble_eq_true rfl) dX7_readOrder_82 ⟨Nat.zero_le _, Nat.zero_le _⟩ (fun r1210 σ1209 τ1209 H locs h1209 hP hS => ?_)
                  obtain ⟨rfl, f1211, f1212, I1213, I1214, I1215, h1209⟩ := h1209
                  obtain ⟨i1216, w1217, w1218⟩ : (0 ≤ (σ1209 9 0).toInt ∧ (σ1209 9 0).toInt ≤ 80) ∧ (∀ k : Nat, k < 80 → 0 ≤ (σ1209 10 k).toInt ∧ (σ1209 10 k).toInt ≤ 255) ∧ (∀ k : Nat, k < 8 → 0 ≤ (σ1209 11 k).toInt ∧ (σ1209 11 k).toInt ≤ 3) := id I1213
                  obtain ⟨i1219, i1220⟩ : (0 ≤ (σ1209 9 1).toInt) ∧ ((σ1209 9 1).toInt ≤ (σ1209 9 0).toInt) := id I1214
                  have i1221 : (-1) ≤ (σ1209 9 2).toInt := I1215
                  have z1222 : (σ1209 9 0).toInt = (σ 9 0).toInt := (congrArg Int32.toInt (show σ1209 9 0 = (σ 9 0) from ((f1212 0 (by decide)).trans ((f32 0 (by decide)).trans (f11 0 (by decide))))))
                  have z1223 : (σ1209 9 2).toInt = (σ8 9 2).toInt := (congrArg Int32.toInt (show σ1209 9 2 = (σ8 9 2) from ((f1212 2 (by decide)).trans (f32 2 (by decide)))))
                  refine lv_if_eq (tgt := 117) hx hb dX7_readOrder_85 (by decide) (fun c1224 => ?_) (fun c1224 => ?_)
                  · have kc1224 := jeq c1224 rfl jz_0
                    refine lv_aload_n hx hb dX7_readOrder_117 rfl (lv_at hl 3 rfl) ?_
                    refine lv_bipush (v := 114) hx hb dX7_readOrder_118 (by decide) ?_
                    refine jcallV (As := [.int 114]) (rest := []) ⟨hx, hb, hml, hown, hts⟩ hK hP hA hS hZ (c_X7_skip_9 l D cI cL ad zz hJ σ1209 τ 114 (114) jz_114 I1213 I1214 I1215 (by omega)) cw_RX7_50 (jc_9 cI cL ad σ1209 τ) rfl ⟨Nat.le_of_ble_eq_true rfl, Nat.le_of_ble_eq_true rfl⟩ rfl rfl rfl hl.1 rfl (Nat.le_of_ble_eq_true rfl) dX7_readOrder_120 ⟨Nat.zero_le _, Nat.zero_le _⟩ (fun r1226 σ1225 τ1225 H locs h1225 hP hS => ?_)
                    obtain ⟨rfl, f1227, f1228, I1229, I1230, I1231, h1225⟩ := h1225
                    obtain ⟨i1232, w1233, w1234⟩ : (0 ≤ (σ1225 9 0).toInt ∧ (σ1225 9 0).toInt ≤ 80) ∧ (∀ k : Nat, k < 80 → 0 ≤ (σ1225 10 k).toInt ∧ (σ1225 10 k).toInt ≤ 255) ∧ (∀ k : Nat, k < 8 → 0 ≤ (σ1225 11 k).toInt ∧ (σ1225 11 k).toInt ≤ 3) := id I1229
                    obtain ⟨i1235, i1236⟩ : (0 ≤ (σ1225 9 1).toInt) ∧ ((σ1225 9 1).toInt ≤ (σ1225 9 0).toInt) := id I1230
                    have i1237 : (-1) ≤ (σ1225 9 2).toInt := I1231
                    have z1238 : (σ1225 9 0).toInt = (σ 9 0).toInt := (congrArg Int32.toInt (show σ1225 9 0 = (σ 9 0) from ((f1228 0 (by decide)).trans ((f1212 0 (by decide)).trans ((f32 0 (by decide)).trans (f11 0 (by decide)))))))
                    have z1239 : (σ1225 9 2).toInt = (σ8 9 2).toInt := (congrArg Int32.toInt (show σ1225 9 2 = (σ8 9 2) from ((f1228 2 (by decide)).trans ((f1212 2 (by decide)).trans (f32 2 (by decide))))))
                    refine lv_if_eq (tgt := 133) hx hb dX7_readOrder_123 (by decide) (fun c1240 => ?_) (fun c1240 => ?_)
                    · have kc1240 := jeq c1240 rfl jz_0
                      refine lv_aload_n hx hb dX7_readOrder_133 rfl (lv_at hl 3 rfl) ?_
                      refine jcallV (As := []) (rest := []) ⟨hx, hb, hml, hown, hts⟩ hK hP hA hS hZ (c_X7_end_9 l D cI cL ad zz hJ σ1225 τ I1229 I1230 I1231) cw_RX7_57 (jc_9 cI cL ad σ1225 τ) rfl ⟨Nat.le_of_ble_eq_true rfl, Nat.le_of_ble_eq_true rfl⟩ rfl rfl rfl hl.1 rfl (Nat.le_of_ble_eq_true rfl) dX7_readOrder_134 ⟨Nat.zero_le _, Nat.zero_le _⟩ (fun r1242 σ1241 τ1241 H locs h1241 hP hS => ?_)
                      obtain ⟨rfl, f1243, f1244, I1245, I1246, h1241⟩ := h1241
                      obtain ⟨i1247, w1248, w1249⟩ : (0 ≤ (σ1241 9 0).toInt ∧ (σ1241 9 0).toInt ≤ 80) ∧ (∀ k : Nat, k < 80 → 0 ≤ (σ1241 10 k).toInt ∧ (σ1241 10 k).toInt ≤ 255) ∧ (∀ k : Nat, k < 8 → 0 ≤ (σ1241 11 k).toInt ∧ (σ1241 11 k).toInt ≤ 3) := id I1245
                      have i1250 : (-1) ≤ (σ1241 9 2).toInt := I1246
                      obtain ⟨k1251, h1241⟩ := h1241
                      rcases h1241 with h1252 | h1253
                      · obtain ⟨q1255, k1254⟩ := h1252
                        have q1255 := q1255.symm
                        subst q1255
                        refine lv_istore (lv' := [(5, .int (-1)), (4, .int 0), (3, .int 8), (2, .int x24), (0, .ref (ad 9)), (1, .ref (ad 16))]) hx hb dX7_readOrder_137 hl (by decide) rfl (fun ls hl => ?_)
                        refine lv_iload hx hb dX7_readOrder_139 (lv_at hl 0 rfl) ?_
                        refine lv_iconst (v := (-1)) hx hb dX7_readOrder_141 (by decide) ?_
                        refine lv_icmp_eq (tgt := 148) hx hb dX7_readOrder_142 (by decide) (fun _ => ?_) (fun c => absurd (by decide) c)
                        refine lv_aload_n hx hb dX7_readOrder_148 rfl (lv_at hl 5 rfl) ?_
                        refine lv_iload_n hx hb dX7_readOrder_149 rfl (lv_at hl 3 rfl) ?_
                        refine jput (ty := .int) hx hb hts inlX6 tyX6 tyX6_ok nmX6 hown hK hP hJ hA hS (jc_16 cI cL ad σ1241 τ) rfl (k := 0) (by decide) (Nat.le_of_ble_eq_true rfl) (jp_16_0 cI cL ad σ1241 τ x24) (hts _ kw_13_18) (fun _ h9 => h9) rfl (by decide +kernel) rfl rfl dX7_readOrder_150 (fun σ1256 H locs eσ1256 hP hS => ?_)
                        refine lv_aload_n hx hb dX7_readOrder_153 rfl (lv_at hl 5 rfl) ?_
                        refine lv_iload_n hx hb dX7_readOrder_154 rfl (lv_at hl 2 rfl) ?_
                        refine jput (ty := .int) hx hb hts inlX6 tyX6 tyX6_ok nmX6 hown hK hP hJ hA hS (jc_16 cI cL ad σ1256 τ) rfl (k := 1) (by decide) (Nat.le_of_ble_eq_true rfl) (jp_16_1 cI cL ad σ1256 τ 8) (hts _ kw_13_19) (fun _ h9 => h9) rfl (by decide +kernel) rfl rfl dX7_readOrder_155 (fun σ1257 H locs eσ1257 hP hS => ?_)
                        refine lv_aload_n hx hb dX7_readOrder_158 rfl (lv_at hl 5 rfl) ?_
                        refine lv_iload hx hb dX7_readOrder_159 (lv_at hl 1 rfl) ?_
                        refine jput (ty := .int) hx hb hts inlX6 tyX6 tyX6_ok nmX6 hown hK hP hJ hA hS (jc_16 cI cL ad σ1257 τ) rfl (k := 2) (by decide) (Nat.le_of_ble_eq_true rfl) (jp_16_2 cI cL ad σ1257 τ 0) (hts _ kw_13_20) (fun _ h9 => h9) rfl (by decide +kernel) rfl rfl dX7_readOrder_161 (fun σ1258 H locs eσ1258 hP hS => ?_)
                        refine lv_aload_n hx hb dX7_readOrder_164 rfl (lv_at hl 4 rfl) ?_
                        refine va_get (D := D) hx hb hts inlX7 hown hK hP 9 (jc_9 cI cL ad σ1258 τ) rfl 4 (by decide) (hts _ kw_3_21) (fun _ h9 => h9) rfl dX7_readOrder_165 ?_
                        refine lv_iconst (v := 0) hx hb dX7_readOrder_168 (by decide) ?_
                        refine lv_aload_n hx hb dX7_readOrder_169 rfl (lv_at hl 5 rfl) ?_
                        refine va_get (D := D) hx hb hts inlX6 hown hK hP 16 (jc_16 cI cL ad σ1258 τ) rfl 3 (by decide) (hts _ kw_13_21) (fun _ h9 => h9) rfl dX7_readOrder_170 ?_
                        refine lv_iconst (v := 0) hx hb dX7_readOrder_173 (by decide) ?_
                        refine lv_iload_n hx hb dX7_readOrder_174 rfl (lv_at hl 3 rfl) ?_
                        refine jcpyI (q0 := 11) (q1 := 17) hx hb (hml.trans hl.1.symm) hown (hts _ kw_13_22) (hts _ kw_13_23) (hts _ kw_14_0) (hts _ kw_14_1) hK hP hJ hA hS (jc_11 cI cL ad σ1258 τ) (jc_17 cI cL ad σ1258 τ) (fun _ => rfl) jz_0 jz_0 rfl (by omega) (by omega) (by omega) (by omega) (by omega) (Nat.le_of_ble_eq_true rfl) (Nat.le_of_ble_eq_true rfl) dX7_readOrder_175 (fun σ1259 H locs eσ1259 hP hS => ?_)
                        have w1260 : ∀ k : Nat, k < 8 → 0 ≤ (σ1258 11 k).toInt ∧ (σ1258 11 k).toInt ≤ 3 := (jrr_fr (jnp 11 eσ1258 (by decide)) (jrr_fr (jnp 11 eσ1257 (by decide)) (jrr_fr (jnp 11 eσ1256 (by decide)) w1249)))
                        have w1261 : ∀ k : Nat, k < 8 → 0 ≤ (σ1258 17 k).toInt ∧ (σ1258 17 k).toInt ≤ 3 := (jrr_fr (jnp 17 eσ1258 (by decide)) (jrr_fr (jnp 17 eσ1257 (by decide)) (jrr_fr (jnp 17 eσ1256 (by decide)) (jrr_fr (f1243 17 (by decide)) (jrr_fr (f1227 17 (by decide)) (jrr_fr (f1211 17 (by decide)) (jrr_fr (f31 17 (by decide)) (jrr_fr (f10 17 (by decide)) w7))))))))
                        have f1262 : (∀ i : Nat, (i < 17 ∨ 17 < i) → σ1259 i = σ1258 i) := by rw [eσ1259]; exact jrow_n
                        have w1263 : ∀ k : Nat, k < 8 → 0 ≤ (σ1259 17 k).toInt ∧ (σ1259 17 k).toInt ≤ 3 := by rw [eσ1259]; exact jrow_rr w1260 w1261 jz_0 rfl (n0 := 8) (by omega) (by omega) (by omega)
                        refine lv_iconst (v := (-1)) hx hb dX7_readOrder_178 (by decide) ?_
                        have I1264 : jI9 σ1259 := jI9_fr ((congrFun (f1262 9 (by decide)) 0).trans ((congrFun (jnp 9 eσ1258 (by decide)) 0).trans ((congrFun (jnp 9 eσ1257 (by decide)) 0).trans (congrFun (jnp 9 eσ1256 (by decide)) 0)))) ((f1262 10 (by decide)).trans ((jnp 10 eσ1258 (by decide)).trans ((jnp 10 eσ1257 (by decide)).trans (jnp 10 eσ1256 (by decide))))) ((f1262 11 (by decide)).trans ((jnp 11 eσ1258 (by decide)).trans ((jnp 11 eσ1257 (by decide)).trans (jnp 11 eσ1256 (by decide))))) I1245
                        have z1265 : (σ1259 16 0).toInt = x24.toInt := (congrArg Int32.toInt (show σ1259 16 0 = x24 from ((congrFun (f1262 16 (by decide)) 0).trans ((jkp 0 eσ1258 (by decide)).trans ((jkp 0 eσ1257 (by decide)).trans (jsp eσ1256))))))
                        have z1266 : (σ1259 16 1).toInt = 8 := ((congrArg Int32.toInt (show σ1259 16 1 = 8 from ((congrFun (f1262 16 (by decide)) 1).trans ((jkp 1 eσ1258 (by decide)).trans (jsp eσ1257))))).trans jz_8)
                        have z1267 : (σ1259 16 2).toInt = 0 := ((congrArg Int32.toInt (show σ1259 16 2 = 0 from ((congrFun (f1262 16 (by decide)) 2).trans (jsp eσ1258)))).trans jz_0)
                        have I1268 : jI16 σ1259 := ⟨(by omega), (by omega), (by omega), w1263⟩
                        have z1269 : (σ1259 9 0).toInt = (σ1241 9 0).toInt := (congrArg Int32.toInt (show σ1259 9 0 = (σ1241 9 0) from ((congrFun (f1262 9 (by decide)) 0).trans ((congrFun (jnp 9 eσ1258 (by decide)) 0).trans ((congrFun (jnp 9 eσ1257 (by decide)) 0).trans (congrFun (jnp 9 eσ1256 (by decide)) 0))))))
                        exact hret (-1) σ1259 τ _ _ _ _ rfl ⟨rfl, (fun i hi => ((f1262 i (imp_44 i hi)).trans ((jnp i eσ1258 (imp_45 i hi)).trans ((jnp i eσ1257 (imp_45 i hi)).trans ((jnp i eσ1256 (imp_45 i hi)).trans ((f1243 i (imp_46 i hi)).trans ((f1227 i (imp_46 i hi)).trans ((f1211 i (imp_46 i hi)).trans ((f31 i (imp_47 i hi)).trans (f10 i (imp_46 i hi))))))))))), (fun i hi => ((congrFun (f1262 9 (by decide)) i).trans ((congrFun (jnp 9 eσ1258 (by decide)) i).trans ((congrFun (jnp 9 eσ1257 (by decide)) i).trans ((congrFun (jnp 9 eσ1256 (by decide)) i).trans ((f1244 i (imp_48 i hi)).trans ((f1228 i (imp_49 i hi)).trans ((f1212 i (imp_49 i hi)).trans ((f32 i (imp_49 i hi)).trans (f11 i (imp_50 i hi))))))))))), (fun i hi => ((congrFun (f1262 16 (by decide)) i).trans ((jkp i eσ1258 (imp_51 i hi)).trans ((jkp i eσ1257 (imp_52 i hi)).trans ((jkp i eσ1256 (imp_53 i hi)).trans ((congrFun (f1243 16 (by decide)) i).trans ((congrFun (f1227 16 (by decide)) i).trans ((congrFun (f1211 16 (by decide)) i).trans ((congrFun (f31 16 (by decide)) i).trans (congrFun (f10 16 (by decide)) i)))))))))), I1264, I1268, (by omega), trivial⟩ hP hS dX7_readOrder_179
                      · obtain ⟨q1271, k1270⟩ := h1253
                        refine lv_istore (lv' := [(5, .int r1242), (4, .int 0), (3, .int 8), (2, .int x24), (0, .ref (ad 9)), (1, .ref (ad 16))]) hx hb dX7_readOrder_137 hl (by decide) rfl (fun ls hl => ?_)
                        refine lv_iload hx hb dX7_readOrder_139 (lv_at hl 0 rfl) ?_
                        refine lv_iconst (v := (-1)) hx hb dX7_readOrder_141 (by decide) ?_
                        refine lv_icmp_eq (tgt := 148) hx hb dX7_readOrder_142 (by decide) (fun c => absurd (jeq c rfl jz_m1) (by omega)) (fun c1272 => ?_)
                        have kc1272 := jne c1272 rfl jz_m1
                        refine lv_iload hx hb dX7_readOrder_145 (lv_at hl 0 rfl) ?_
                        have I1273 : jI16 σ1241 := jI16_fr ((congrFun (f1243 16 (by decide)) 0).trans ((congrFun (f1227 16 (by decide)) 0).trans ((congrFun (f1211 16 (by decide)) 0).trans ((congrFun (f31 16 (by decide)) 0).trans (congrFun (f10 16 (by decide)) 0))))) ((congrFun (f1243 16 (by decide)) 1).trans ((congrFun (f1227 16 (by decide)) 1).trans ((congrFun (f1211 16 (by decide)) 1).trans ((congrFun (f31 16 (by decide)) 1).trans (congrFun (f10 16 (by decide)) 1))))) ((congrFun (f1243 16 (by decide)) 2).trans ((congrFun (f1227 16 (by decide)) 2).trans ((congrFun (f1211 16 (by decide)) 2).trans ((congrFun (f31 16 (by decide)) 2).trans (congrFun (f10 16 (by decide)) 2))))) ((f1243 17 (by decide)).trans ((f1227 17 (by decide)).trans ((f1211 17 (by decide)).trans ((f31 17 (by decide)).trans (f10 17 (by decide)))))) hI16
                        exact hret r1242 σ1241 τ _ _ _ _ rfl ⟨rfl, (fun i hi => ((f1243 i (imp_46 i hi)).trans ((f1227 i (imp_46 i hi)).trans ((f1211 i (imp_46 i hi)).trans ((f31 i (imp_47 i hi)).trans (f10 i (imp_46 i hi))))))), (fun i hi => ((f1244 i (imp_48 i hi)).trans ((f1228 i (imp_49 i hi)).trans ((f1212 i (imp_49 i hi)).trans ((f32 i (imp_49 i hi)).trans (f11 i (imp_50 i hi))))))), (fun i hi => ((congrFun (f1243 16 (by decide)) i).trans ((congrFun (f1227 16 (by decide)) i).trans ((congrFun (f1211 16 (by decide)) i).trans ((congrFun (f31 16 (by decide)) i).trans (congrFun (f10 16 (by decide)) i)))))), I1245, I1273, (by omega), trivial⟩ hP hS dX7_readOrder_147
                    · have kc1240 := jne c1240 rfl jz_0
                      refine lv_aload_n hx hb dX7_readOrder_126 rfl (lv_at hl 3 rfl) ?_
                      refine lv_iconst (v := 3) hx hb dX7_readOrder_127 (by decide) ?_
                      refine jcallV (As := [.int 3]) (rest := []) ⟨hx, hb, hml, hown, hts⟩ hK hP hA hS hZ (c_X7_number_3 l D cI cL ad zz hJ σ1225 τ I1229 I1230 I1231) cw_RX7_53 (jc_9 cI cL ad σ1225 τ) rfl ⟨Nat.le_of_ble_eq_true rfl, Nat.le_of_ble_eq_true rfl⟩ rfl rfl rfl hl.1 rfl (Nat.le_of_ble_eq_true rfl) dX7_readOrder_128 ⟨Nat.zero_le _, Nat.zero_le _⟩ (fun r1275 σ1274 τ1274 H locs h1274 hP hS => ?_)
                      obtain ⟨rfl, f1276, f1277, I1278, I1279, I1280, h1274⟩ := h1274
                      obtain ⟨i1281, w1282, w1283⟩ : (0 ≤ (σ1274 9 0).toInt ∧ (σ1274 9 0).toInt ≤ 80) ∧ (∀ k : Nat, k < 80 → 0 ≤ (σ1274 10 k).toInt ∧ (σ1274 10 k).toInt ≤ 255) ∧ (∀ k : Nat, k < 8 → 0 ≤ (σ1274 11 k).toInt ∧ (σ1274 11 k).toInt ≤ 3) := id I1278
                      obtain ⟨i1284, i1285⟩ : (0 ≤ (σ1274 9 1).toInt) ∧ ((σ1274 9 1).toInt ≤ (σ1274 9 0).toInt) := id I1279
                      have i1286 : (-1) ≤ (σ1274 9 2).toInt := I1280
                      have z1287 : (σ1274 9 0).toInt = (σ 9 0).toInt := (congrArg Int32.toInt (show σ1274 9 0 = (σ 9 0) from ((f1277 0 (by decide)).trans ((f1228 0 (by decide)).trans ((f1212 0 (by decide)).trans ((f32 0 (by decide)).trans (f11 0 (by decide))))))))
                      obtain ⟨k1288, h1274⟩ := h1274
                      have h1289 := h1274
                      obtain ⟨q1291, k1290⟩ := h1289
                      refine lv_istore (lv' := [(4, .int r1275), (3, .int 8), (2, .int x24), (0, .ref (ad 9)), (1, .ref (ad 16))]) hx hb dX7_readOrder_131 hl (by decide) rfl (fun ls hl => ?_)
                      refine lv_aload_n hx hb dX7_readOrder_133 rfl (lv_at hl 3 rfl) ?_
                      refine jcallV (As := []) (rest := []) ⟨hx, hb, hml, hown, hts⟩ hK hP hA hS hZ (c_X7_end_9 l D cI cL ad zz hJ σ1274 τ I1278 I1279 I1280) cw_RX7_57 (jc_9 cI cL ad σ1274 τ) rfl ⟨Nat.le_of_ble_eq_true rfl, Nat.le_of_ble_eq_true rfl⟩ rfl rfl rfl hl.1 rfl (Nat.le_of_ble_eq_true rfl) dX7_readOrder_134 ⟨Nat.zero_le _, Nat.zero_le _⟩ (fun r1293 σ1292 τ1292 H locs h1292 hP hS => ?_)
                      obtain ⟨rfl, f1294, f1295, I1296, I1297, h1292⟩ := h1292
                      obtain ⟨i1298, w1299, w1300⟩ : (0 ≤ (σ1292 9 0).toInt ∧ (σ1292 9 0).toInt ≤ 80) ∧ (∀ k : Nat, k < 80 → 0 ≤ (σ1292 10 k).toInt ∧ (σ1292 10 k).toInt ≤ 255) ∧ (∀ k : Nat, k < 8 → 0 ≤ (σ1292 11 k).toInt ∧ (σ1292 11 k).toInt ≤ 3) := id I1296
                      have i1301 : (-1) ≤ (σ1292 9 2).toInt := I1297
                      obtain ⟨k1302, h1292⟩ := h1292
                      rcases h1292 with h1303 | h1304
                      · obtain ⟨q1306, k1305⟩ := h1303
                        have q1306 := q1306.symm
                        subst q1306
                        refine lv_istore (lv' := [(5, .int (-1)), (4, .int r1275), (3, .int 8), (2, .int x24), (0, .ref (ad 9)), (1, .ref (ad 16))]) hx hb dX7_readOrder_137 hl (by decide) rfl (fun ls hl => ?_)
                        refine lv_iload hx hb dX7_readOrder_139 (lv_at hl 0 rfl) ?_
                        refine lv_iconst (v := (-1)) hx hb dX7_readOrder_141 (by decide) ?_
                        refine lv_icmp_eq (tgt := 148) hx hb dX7_readOrder_142 (by decide) (fun _ => ?_) (fun c => absurd (by decide) c)
                        refine lv_aload_n hx hb dX7_readOrder_148 rfl (lv_at hl 5 rfl) ?_
                        refine lv_iload_n hx hb dX7_readOrder_149 rfl (lv_at hl 3 rfl) ?_
                        refine jput (ty := .int) hx hb hts inlX6 tyX6 tyX6_ok nmX6 hown hK hP hJ hA hS (jc_16 cI cL ad σ1292 τ) rfl (k := 0) (by decide) (Nat.le_of_ble_eq_true rfl) (jp_16_0 cI cL ad σ1292 τ x24) (hts _ kw_13_18) (fun _ h9 => h9) rfl (by decide +kernel) rfl rfl dX7_readOrder_150 (fun σ1307 H locs eσ1307 hP hS => ?_)
                        refine lv_aload_n hx hb dX7_readOrder_153 rfl (lv_at hl 5 rfl) ?_
                        refine lv_iload_n hx hb dX7_readOrder_154 rfl (lv_at hl 2 rfl) ?_
                        refine jput (ty := .int) hx hb hts inlX6 tyX6 tyX6_ok nmX6 hown hK hP hJ hA hS (jc_16 cI cL ad σ1307 τ) rfl (k := 1) (by decide) (Nat.le_of_ble_eq_true rfl) (jp_16_1 cI cL ad σ1307 τ 8) (hts _ kw_13_19) (fun _ h9 => h9) rfl (by decide +kernel) rfl rfl dX7_readOrder_155 (fun σ1308 H locs eσ1308 hP hS => ?_)
                        refine lv_aload_n hx hb dX7_readOrder_158 rfl (lv_at hl 5 rfl) ?_
                        refine lv_iload hx hb dX7_readOrder_159 (lv_at hl 1 rfl) ?_
                        refine jput (ty := .int) hx hb hts inlX6 tyX6 tyX6_ok nmX6 hown hK hP hJ hA hS (jc_16 cI cL ad σ1308 τ) rfl (k := 2) (by decide) (Nat.le_of_ble_eq_true rfl) (jp_16_2 cI cL ad σ1308 τ r1275) (hts _ kw_13_20) (fun _ h9 => h9) rfl (by decide +kernel) rfl rfl dX7_readOrder_161 (fun σ1309 H locs eσ1309 hP hS => ?_)
                        refine lv_aload_n hx hb dX7_readOrder_164 rfl (lv_at hl 4 rfl) ?_
                        refine va_get (D := D) hx hb hts inlX7 hown hK hP 9 (jc_9 cI cL ad σ1309 τ) rfl 4 (by decide) (hts _ kw_3_21) (fun _ h9 => h9) rfl dX7_readOrder_165 ?_
                        refine lv_iconst (v := 0) hx hb dX7_readOrder_168 (by decide) ?_
                        refine lv_aload_n hx hb dX7_readOrder_169 rfl (lv_at hl 5 rfl) ?_
                        refine va_get (D := D) hx hb hts inlX6 hown hK hP 16 (jc_16 cI cL ad σ1309 τ) rfl 3 (by decide) (hts _ kw_13_21) (fun _ h9 => h9) rfl dX7_readOrder_170 ?_
                        refine lv_iconst (v := 0) hx hb dX7_readOrder_173 (by decide) ?_
                        refine lv_iload_n hx hb dX7_readOrder_174 rfl (lv_at hl 3 rfl) ?_
                        refine jcpyI (q0 := 11) (q1 := 17) hx hb (hml.trans hl.1.symm) hown (hts _ kw_13_22) (hts _ kw_13_23) (hts _ kw_14_0) (hts _ kw_14_1) hK hP hJ hA hS (jc_11 cI cL ad σ1309 τ) (jc_17 cI cL ad σ1309 τ) (fun _ => rfl) jz_0 jz_0 rfl (by omega) (by omega) (by omega) (by omega) (by omega) (Nat.le_of_ble_eq_true rfl) (Nat.le_of_ble_eq_true rfl) dX7_readOrder_175 (fun σ1310 H locs eσ1310 hP hS => ?_)
                        have w1311 : ∀ k : Nat, k < 8 → 0 ≤ (σ1309 11 k).toInt ∧ (σ1309 11 k).toInt ≤ 3 := (jrr_fr (jnp 11 eσ1309 (by decide)) (jrr_fr (jnp 11 eσ1308 (by decide)) (jrr_fr (jnp 11 eσ1307 (by decide)) w1300)))
                        have w1312 : ∀ k : Nat, k < 8 → 0 ≤ (σ1309 17 k).toInt ∧ (σ1309 17 k).toInt ≤ 3 := (jrr_fr (jnp 17 eσ1309 (by decide)) (jrr_fr (jnp 17 eσ1308 (by decide)) (jrr_fr (jnp 17 eσ1307 (by decide)) (jrr_fr (f1294 17 (by decide)) (jrr_fr (f1276 17 (by decide)) (jrr_fr (f1227 17 (by decide)) (jrr_fr (f1211 17 (by decide)) (jrr_fr (f31 17 (by decide)) (jrr_fr (f10 17 (by decide)) w7)))))))))
                        have f1313 : (∀ i : Nat, (i < 17 ∨ 17 < i) → σ1310 i = σ1309 i) := by rw [eσ1310]; exact jrow_n
                        have w1314 : ∀ k : Nat, k < 8 → 0 ≤ (σ1310 17 k).toInt ∧ (σ1310 17 k).toInt ≤ 3 := by rw [eσ1310]; exact jrow_rr w1311 w1312 jz_0 rfl (n0 := 8) (by omega) (by omega) (by omega)
                        refine lv_iconst (v := (-1)) hx hb dX7_readOrder_178 (by decide) ?_
                        have I1315 : jI9 σ1310 := jI9_fr ((congrFun (f1313 9 (by decide)) 0).trans ((congrFun (jnp 9 eσ1309 (by decide)) 0).trans ((congrFun (jnp 9 eσ1308 (by decide)) 0).trans (congrFun (jnp 9 eσ1307 (by decide)) 0)))) ((f1313 10 (by decide)).trans ((jnp 10 eσ1309 (by decide)).trans ((jnp 10 eσ1308 (by decide)).trans (jnp 10 eσ1307 (by decide))))) ((f1313 11 (by decide)).trans ((jnp 11 eσ1309 (by decide)).trans ((jnp 11 eσ1308 (by decide)).trans (jnp 11 eσ1307 (by decide))))) I1296
                        have z1316 : (σ1310 16 0).toInt = x24.toInt := (congrArg Int32.toInt (show σ1310 16 0 = x24 from ((congrFun (f1313 16 (by decide)) 0).trans ((jkp 0 eσ1309 (by decide)).trans ((jkp 0 eσ1308 (by decide)).trans (jsp eσ1307))))))
                        have z1317 : (σ1310 16 1).toInt = 8 := ((congrArg Int32.toInt (show σ1310 16 1 = 8 from ((congrFun (f1313 16 (by decide)) 1).trans ((jkp 1 eσ1309 (by decide)).trans (jsp eσ1308))))).trans jz_8)
                        have z1318 : (σ1310 16 2).toInt = r1275.toInt := (congrArg Int32.toInt (show σ1310 16 2 = r1275 from ((congrFun (f1313 16 (by decide)) 2).trans (jsp eσ1309))))
                        have I1319 : jI16 σ1310 := ⟨(by omega), (by omega), (by omega), w1314⟩
                        have z1320 : (σ1310 9 0).toInt = (σ1292 9 0).toInt := (congrArg Int32.toInt (show σ1310 9 0 = (σ1292 9 0) from ((congrFun (f1313 9 (by decide)) 0).trans ((congrFun (jnp 9 eσ1309 (by decide)) 0).trans ((congrFun (jnp 9 eσ1308 (by decide)) 0).trans (congrFun (jnp 9 eσ1307 (by decide)) 0))))))
                        exact hret (-1) σ1310 τ _ _ _ _ rfl ⟨rfl, (fun i hi => ((f1313 i (imp_44 i hi)).trans ((jnp i eσ1309 (imp_45 i hi)).trans ((jnp i eσ1308 (imp_45 i hi)).trans ((jnp i eσ1307 (imp_45 i hi)).trans ((f1294 i (imp_46 i hi)).trans ((f1276 i (imp_46 i hi)).trans ((f1227 i (imp_46 i hi)).trans ((f1211 i (imp_46 i hi)).trans ((f31 i (imp_47 i hi)).trans (f10 i (imp_46 i hi)))))))))))), (fun i hi => ((congrFun (f1313 9 (by decide)) i).trans ((congrFun (jnp 9 eσ1309 (by decide)) i).trans ((congrFun (jnp 9 eσ1308 (by decide)) i).trans ((congrFun (jnp 9 eσ1307 (by decide)) i).trans ((f1295 i (imp_48 i hi)).trans ((f1277 i (imp_50 i hi)).trans ((f1228 i (imp_49 i hi)).trans ((f1212 i (imp_49 i hi)).trans ((f32 i (imp_49 i hi)).trans (f11 i (imp_50 i hi)))))))))))), (fun i hi => ((congrFun (f1313 16 (by decide)) i).trans ((jkp i eσ1309 (imp_51 i hi)).trans ((jkp i eσ1308 (imp_52 i hi)).trans ((jkp i eσ1307 (imp_53 i hi)).trans ((congrFun (f1294 16 (by decide)) i).trans ((congrFun (f1276 16 (by decide)) i).trans ((congrFun (f1227 16 (by decide)) i).trans ((congrFun (f1211 16 (by decide)) i).trans ((congrFun (f31 16 (by decide)) i).trans (congrFun (f10 16 (by decide)) i))))))))))), I1315, I1319, (by omega), trivial⟩ hP hS dX7_readOrder_179
                      · obtain ⟨q1322, k1321⟩ := h1304
                        refine lv_istore (lv' := [(5, .int r1293), (4, .int r1275), (3, .int 8), (2, .int x24), (0, .ref (ad 9)), (1, .ref (ad 16))]) hx hb dX7_readOrder_137 hl (by decide) rfl (fun ls hl => ?_)
                        refine lv_iload hx hb dX7_readOrder_139 (lv_at hl 0 rfl) ?_
                        refine lv_iconst (v := (-1)) hx hb dX7_readOrder_141 (by decide) ?_
                        refine lv_icmp_eq (tgt := 148) hx hb dX7_readOrder_142 (by decide) (fun c => absurd (jeq c rfl jz_m1) (by omega)) (fun c1323 => ?_)
                        have kc1323 := jne c1323 rfl jz_m1
                        refine lv_iload hx hb dX7_readOrder_145 (lv_at hl 0 rfl) ?_
                        have I1324 : jI16 σ1292 := jI16_fr ((congrFun (f1294 16 (by decide)) 0).trans ((congrFun (f1276 16 (by decide)) 0).trans ((congrFun (f1227 16 (by decide)) 0).trans ((congrFun (f1211 16 (by decide)) 0).trans ((congrFun (f31 16 (by decide)) 0).trans (congrFun (f10 16 (by decide)) 0)))))) ((congrFun (f1294 16 (by decide)) 1).trans ((congrFun (f1276 16 (by decide)) 1).trans ((congrFun (f1227 16 (by decide)) 1).trans ((congrFun (f1211 16 (by decide)) 1).trans ((congrFun (f31 16 (by decide)) 1).trans (congrFun (f10 16 (by decide)) 1)))))) ((congrFun (f1294 16 (by decide)) 2).trans ((congrFun (f1276 16 (by decide)) 2).trans ((congrFun (f1227 16 (by decide)) 2).trans ((congrFun (f1211 16 (by decide)) 2).trans ((congrFun (f31 16 (by decide)) 2).trans (congrFun (f10 16 (by decide)) 2)))))) ((f1294 17 (by decide)).trans ((f1276 17 (by decide)).trans ((f1227 17 (by decide)).trans ((f1211 17 (by decide)).trans ((f31 17 (by decide)).trans (f10 17 (by decide))))))) hI16
                        exact hret r1293 σ1292 τ _ _ _ _ rfl ⟨rfl, (fun i hi => ((f1294 i (imp_46 i hi)).trans ((f1276 i (imp_46 i hi)).trans ((f1227 i (imp_46 i hi)).trans ((f1211 i (imp_46 i hi)).trans ((f31 i (imp_47 i hi)).trans (f10 i (imp_46 i hi)))))))), (fun i hi => ((f1295 i (imp_48 i hi)).trans ((f1277 i (imp_50 i hi)).trans ((f1228 i (imp_49 i hi)).trans ((f1212 i (imp_49 i hi)).trans ((f32 i (imp_49 i hi)).trans (f11 i (imp_50 i hi)))))))), (fun i hi => ((congrFun (f1294 16 (by decide)) i).trans ((congrFun (f1276 16 (by decide)) i).trans ((congrFun (f1227 16 (by decide)) i).trans ((congrFun (f1211 16 (by decide)) i).trans ((congrFun (f31 16 (by decide)) i).trans (congrFun (f10 16 (by decide)) i))))))), I1296, I1324, (by omega), trivial⟩ hP hS dX7_readOrder_147
                  · have kc1224 := jne c1224 rfl jz_0
                    refine lv_aload_n hx hb dX7_readOrder_88 rfl (lv_at hl 3 rfl) ?_
                    refine va_get (D := D) hx hb hts inlX7 hown hK hP 9 (jc_9 cI cL ad σ1209 τ) rfl 1 (by decide) (hts _ kw_13_17) (fun _ h9 => h9) rfl dX7_readOrder_89 ?_
                    refine lv_istore (lv' := [(5, .int (σ1209 9 1)), (4, .int 0), (3, .int 8), (2, .int x24), (0, .ref (ad 9)), (1, .ref (ad 16))]) hx hb dX7_readOrder_92 hl (by decide) rfl (fun ls hl => ?_)
                    refine lv_aload_n hx hb dX7_readOrder_94 rfl (lv_at hl 4 rfl) ?_
                    refine lv_iconst (v := 2) hx hb dX7_readOrder_95 (by decide) ?_
                    refine jcallV (As := [.int 2]) (rest := []) ⟨hx, hb, hml, hown, hts⟩ hK hP hA hS hZ (c_X7_number_2 l D cI cL ad zz hJ σ1209 τ I1213 I1214 I1215) cw_RX7_53 (jc_9 cI cL ad σ1209 τ) rfl ⟨Nat.le_of_ble_eq_true rfl, Nat.le_of_ble_eq_true rfl⟩ rfl rfl rfl hl.1 rfl (Nat.le_of_ble_eq_true rfl) dX7_readOrder_96 ⟨Nat.zero_le _, Nat.zero_le _⟩ (fun r1326 σ1325 τ1325 H locs h1325 hP hS => ?_)
                    obtain ⟨rfl, f1327, f1328, I1329, I1330, I1331, h1325⟩ := h1325
                    obtain ⟨i1332, w1333, w1334⟩ : (0 ≤ (σ1325 9 0).toInt ∧ (σ1325 9 0).toInt ≤ 80) ∧ (∀ k : Nat, k < 80 → 0 ≤ (σ1325 10 k).toInt ∧ (σ1325 10 k).toInt ≤ 255) ∧ (∀ k : Nat, k < 8 → 0 ≤ (σ1325 11 k).toInt ∧ (σ1325 11 k).toInt ≤ 3) := id I1329
                    obtain ⟨i1335, i1336⟩ : (0 ≤ (σ1325 9 1).toInt) ∧ ((σ1325 9 1).toInt ≤ (σ1325 9 0).toInt) := id I1330
                    have i1337 : (-1) ≤ (σ1325 9 2).toInt := I1331
                    have z1338 : (σ1325 9 0).toInt = (σ 9 0).toInt := (congrArg Int32.toInt (show σ1325 9 0 = (σ 9 0) from ((f1328 0 (by decide)).trans ((f1212 0 (by decide)).trans ((f32 0 (by decide)).trans (f11 0 (by decide)))))))
                    obtain ⟨k1339, h1325⟩ := h1325
                    have h1340 := h1325
                    obtain ⟨q1342, k1341⟩ := h1340
                    refine lv_istore_n (lv' := [(3, .int r1326), (5, .int (σ1209 9 1)), (4, .int 0), (2, .int x24), (0, .ref (ad 9)), (1, .ref (ad 16))]) hx hb dX7_readOrder_99 rfl hl (by decide) rfl (fun ls hl => ?_)
                    refine lv_iload_n hx hb dX7_readOrder_100 rfl (lv_at hl 0 rfl) ?_
                    refine lv_iconst (v := 1) hx hb dX7_readOrder_101 (by decide) ?_
                    refine lv_icmp_lt (tgt := 111) hx hb dX7_readOrder_102 (by decide) (fun c1343 => ?_) (fun c1343 => ?_)
                    · have kc1343 := jlt c1343 rfl jz_1
                      refine lv_aload_n hx hb dX7_readOrder_111 rfl (lv_at hl 4 rfl) ?_
                      refine lv_iload hx hb dX7_readOrder_112 (lv_at hl 1 rfl) ?_
                      refine jcallVv (As := [.int (σ1209 9 1)]) (rest := []) ⟨hx, hb, hml, hown, hts⟩ hK hP hA hS hZ (c_X7_fail_9 l D cI cL ad zz hJ σ1325 τ (σ1209 9 1) ((σ1209 9 1).toInt) rfl I1331 (by omega)) cw_RX7_43 (jc_9 cI cL ad σ1325 τ) rfl ⟨Nat.le_of_ble_eq_true rfl, Nat.le_of_ble_eq_true rfl⟩ rfl rfl rfl hl.1 rfl (Nat.le_of_ble_eq_true rfl) dX7_readOrder_114 ⟨Nat.zero_le _, Nat.zero_le _⟩ (fun σ1344 τ1344 H locs h1344 hP hS => ?_)
                      obtain ⟨rfl, f1346, f1347, h1344⟩ := h1344
                      obtain ⟨k1348, h1344⟩ := h1344
                      refine lv_aload_n hx hb dX7_readOrder_117 rfl (lv_at hl 4 rfl) ?_
                      refine lv_bipush (v := 114) hx hb dX7_readOrder_118 (by decide) ?_
                      have I1349 : jI9 σ1344 := jI9_fr (f1347 0 (by decide)) (f1346 10 (by decide)) (f1346 11 (by decide)) I1329
                      have I1350 : jI91 σ1344 := jI91_fr (f1347 0 (by decide)) (f1347 1 (by decide)) I1330
                      have I1351 : jI92 σ1344 := (show (-1) ≤ (σ1344 9 2).toInt by omega)
                      refine jcallV (As := [.int 114]) (rest := []) ⟨hx, hb, hml, hown, hts⟩ hK hP hA hS hZ (c_X7_skip_9 l D cI cL ad zz hJ σ1344 τ 114 (114) jz_114 I1349 I1350 I1351 (by omega)) cw_RX7_50 (jc_9 cI cL ad σ1344 τ) rfl ⟨Nat.le_of_ble_eq_true rfl, Nat.le_of_ble_eq_true rfl⟩ rfl rfl rfl hl.1 rfl (Nat.le_of_ble_eq_true rfl) dX7_readOrder_120 ⟨Nat.zero_le _, Nat.zero_le _⟩ (fun r1353 σ1352 τ1352 H locs h1352 hP hS => ?_)
                      obtain ⟨rfl, f1354, f1355, I1356, I1357, I1358, h1352⟩ := h1352
                      obtain ⟨i1359, w1360, w1361⟩ : (0 ≤ (σ1352 9 0).toInt ∧ (σ1352 9 0).toInt ≤ 80) ∧ (∀ k : Nat, k < 80 → 0 ≤ (σ1352 10 k).toInt ∧ (σ1352 10 k).toInt ≤ 255) ∧ (∀ k : Nat, k < 8 → 0 ≤ (σ1352 11 k).toInt ∧ (σ1352 11 k).toInt ≤ 3) := id I1356
                      obtain ⟨i1362, i1363⟩ : (0 ≤ (σ1352 9 1).toInt) ∧ ((σ1352 9 1).toInt ≤ (σ1352 9 0).toInt) := id I1357
                      have i1364 : (-1) ≤ (σ1352 9 2).toInt := I1358
                      have z1365 : (σ1352 9 0).toInt = (σ 9 0).toInt := (congrArg Int32.toInt (show σ1352 9 0 = (σ 9 0) from ((f1355 0 (by decide)).trans ((f1347 0 (by decide)).trans ((f1328 0 (by decide)).trans ((f1212 0 (by decide)).trans ((f32 0 (by decide)).trans (f11 0 (by decide)))))))))
                      have z1366 : (σ1352 9 2).toInt = (σ1344 9 2).toInt := (congrArg Int32.toInt (show σ1352 9 2 = (σ1344 9 2) from (f1355 2 (by decide))))
                      refine lv_if_eq (tgt := 133) hx hb dX7_readOrder_123 (by decide) (fun c1367 => ?_) (fun c1367 => ?_)
                      · have kc1367 := jeq c1367 rfl jz_0
                        refine lv_aload_n hx hb dX7_readOrder_133 rfl (lv_at hl 4 rfl) ?_
                        refine jcallV (As := []) (rest := []) ⟨hx, hb, hml, hown, hts⟩ hK hP hA hS hZ (c_X7_end_9 l D cI cL ad zz hJ σ1352 τ I1356 I1357 I1358) cw_RX7_57 (jc_9 cI cL ad σ1352 τ) rfl ⟨Nat.le_of_ble_eq_true rfl, Nat.le_of_ble_eq_true rfl⟩ rfl rfl rfl hl.1 rfl (Nat.le_of_ble_eq_true rfl) dX7_readOrder_134 ⟨Nat.zero_le _, Nat.zero_le _⟩ (fun r1369 σ1368 τ1368 H locs h1368 hP hS => ?_)
                        obtain ⟨rfl, f1370, f1371, I1372, I1373, h1368⟩ := h1368
                        obtain ⟨i1374, w1375, w1376⟩ : (0 ≤ (σ1368 9 0).toInt ∧ (σ1368 9 0).toInt ≤ 80) ∧ (∀ k : Nat, k < 80 → 0 ≤ (σ1368 10 k).toInt ∧ (σ1368 10 k).toInt ≤ 255) ∧ (∀ k : Nat, k < 8 → 0 ≤ (σ1368 11 k).toInt ∧ (σ1368 11 k).toInt ≤ 3) := id I1372
                        have i1377 : (-1) ≤ (σ1368 9 2).toInt := I1373
                        obtain ⟨k1378, h1368⟩ := h1368
                        rcases h1368 with h1379 | h1380
                        · obtain ⟨q1382, k1381⟩ := h1379
                          exact absurd (by omega : False) id
                        · obtain ⟨q1384, k1383⟩ := h1380
                          refine lv_istore (lv' := [(5, .int r1369), (3, .int r1326), (4, .int 0), (2, .int x24), (0, .ref (ad 9)), (1, .ref (ad 16))]) hx hb dX7_readOrder_137 hl (by decide) rfl (fun ls hl => ?_)
                          refine lv_iload hx hb dX7_readOrder_139 (lv_at hl 0 rfl) ?_
                          refine lv_iconst (v := (-1)) hx hb dX7_readOrder_141 (by decide) ?_
                          refine lv_icmp_eq (tgt := 148) hx hb dX7_readOrder_142 (by decide) (fun c => absurd (jeq c rfl jz_m1) (by omega)) (fun c1385 => ?_)
                          have kc1385 := jne c1385 rfl jz_m1
                          refine lv_iload hx hb dX7_readOrder_145 (lv_at hl 0 rfl) ?_
                          have I1386 : jI16 σ1368 := jI16_fr ((congrFun (f1370 16 (by decide)) 0).trans ((congrFun (f1354 16 (by decide)) 0).trans ((congrFun (f1346 16 (by decide)) 0).trans ((congrFun (f1327 16 (by decide)) 0).trans ((congrFun (f1211 16 (by decide)) 0).trans ((congrFun (f31 16 (by decide)) 0).trans (congrFun (f10 16 (by decide)) 0))))))) ((congrFun (f1370 16 (by decide)) 1).trans ((congrFun (f1354 16 (by decide)) 1).trans ((congrFun (f1346 16 (by decide)) 1).trans ((congrFun (f1327 16 (by decide)) 1).trans ((congrFun (f1211 16 (by decide)) 1).trans ((congrFun (f31 16 (by decide)) 1).trans (congrFun (f10 16 (by decide)) 1))))))) ((congrFun (f1370 16 (by decide)) 2).trans ((congrFun (f1354 16 (by decide)) 2).trans ((congrFun (f1346 16 (by decide)) 2).trans ((congrFun (f1327 16 (by decide)) 2).trans ((congrFun (f1211 16 (by decide)) 2).trans ((congrFun (f31 16 (by decide)) 2).trans (congrFun (f10 16 (by decide)) 2))))))) ((f1370 17 (by decide)).trans ((f1354 17 (by decide)).trans ((f1346 17 (by decide)).trans ((f1327 17 (by decide)).trans ((f1211 17 (by decide)).trans ((f31 17 (by decide)).trans (f10 17 (by decide)))))))) hI16
                          exact hret r1369 σ1368 τ _ _ _ _ rfl ⟨rfl, (fun i hi => ((f1370 i (imp_46 i hi)).trans ((f1354 i (imp_46 i hi)).trans ((f1346 i (imp_46 i hi)).trans ((f1327 i (imp_46 i hi)).trans ((f1211 i (imp_46 i hi)).trans ((f31 i (imp_47 i hi)).trans (f10 i (imp_46 i hi))))))))), (fun i hi => ((f1371 i (imp_48 i hi)).trans ((f1355 i (imp_49 i hi)).trans ((f1347 i (imp_54 i hi)).trans ((f1328 i (imp_50 i hi)).trans ((f1212 i (imp_49 i hi)).trans ((f32 i (imp_49 i hi)).trans (f11 i (imp_50 i hi))))))))), (fun i hi => ((congrFun (f1370 16 (by decide)) i).trans ((congrFun (f1354 16 (by decide)) i).trans ((congrFun (f1346 16 (by decide)) i).trans ((congrFun (f1327 16 (by decide)) i).trans ((congrFun (f1211 16 (by decide)) i).trans ((congrFun (f31 16 (by decide)) i).trans (congrFun (f10 16 (by decide)) i)))))))), I1372, I1386, (by omega), trivial⟩ hP hS dX7_readOrder_147
                      · have kc1367 := jne c1367 rfl jz_0
                        refine lv_aload_n hx hb dX7_readOrder_126 rfl (lv_at hl 4 rfl) ?_
                        refine lv_iconst (v := 3) hx hb dX7_readOrder_127 (by decide) ?_
                        refine jcallV (As := [.int 3]) (rest := []) ⟨hx, hb, hml, hown, hts⟩ hK hP hA hS hZ (c_X7_number_3 l D cI cL ad zz hJ σ1352 τ I1356 I1357 I1358) cw_RX7_53 (jc_9 cI cL ad σ1352 τ) rfl ⟨Nat.le_of_ble_eq_true rfl, Nat.le_of_ble_eq_true rfl⟩ rfl rfl rfl hl.1 rfl (Nat.le_of_ble_eq_true rfl) dX7_readOrder_128 ⟨Nat.zero_le _, Nat.zero_le _⟩ (fun r1388 σ1387 τ1387 H locs h1387 hP hS => ?_)
                        obtain ⟨rfl, f1389, f1390, I1391, I1392, I1393, h1387⟩ := h1387
                        obtain ⟨i1394, w1395, w1396⟩ : (0 ≤ (σ1387 9 0).toInt ∧ (σ1387 9 0).toInt ≤ 80) ∧ (∀ k : Nat, k < 80 → 0 ≤ (σ1387 10 k).toInt ∧ (σ1387 10 k).toInt ≤ 255) ∧ (∀ k : Nat, k < 8 → 0 ≤ (σ1387 11 k).toInt ∧ (σ1387 11 k).toInt ≤ 3) := id I1391
                        obtain ⟨i1397, i1398⟩ : (0 ≤ (σ1387 9 1).toInt) ∧ ((σ1387 9 1).toInt ≤ (σ1387 9 0).toInt) := id I1392
                        have i1399 : (-1) ≤ (σ1387 9 2).toInt := I1393
                        have z1400 : (σ1387 9 0).toInt = (σ 9 0).toInt := (congrArg Int32.toInt (show σ1387 9 0 = (σ 9 0) from ((f1390 0 (by decide)).trans ((f1355 0 (by decide)).trans ((f1347 0 (by decide)).trans ((f1328 0 (by decide)).trans ((f1212 0 (by decide)).trans ((f32 0 (by decide)).trans (f11 0 (by decide))))))))))
                        obtain ⟨k1401, h1387⟩ := h1387
                        have h1402 := h1387
                        obtain ⟨q1404, k1403⟩ := h1402
                        refine lv_istore (lv' := [(4, .int r1388), (3, .int r1326), (5, .int (σ1209 9 1)), (2, .int x24), (0, .ref (ad 9)), (1, .ref (ad 16))]) hx hb dX7_readOrder_131 hl (by decide) rfl (fun ls hl => ?_)
                        refine lv_aload_n hx hb dX7_readOrder_133 rfl (lv_at hl 4 rfl) ?_
                        refine jcallV (As := []) (rest := []) ⟨hx, hb, hml, hown, hts⟩ hK hP hA hS hZ (c_X7_end_9 l D cI cL ad zz hJ σ1387 τ I1391 I1392 I1393) cw_RX7_57 (jc_9 cI cL ad σ1387 τ) rfl ⟨Nat.le_of_ble_eq_true rfl, Nat.le_of_ble_eq_true rfl⟩ rfl rfl rfl hl.1 rfl (Nat.le_of_ble_eq_true rfl) dX7_readOrder_134 ⟨Nat.zero_le _, Nat.zero_le _⟩ (fun r1406 σ1405 τ1405 H locs h1405 hP hS => ?_)
                        obtain ⟨rfl, f1407, f1408, I1409, I1410, h1405⟩ := h1405
                        obtain ⟨i1411, w1412, w1413⟩ : (0 ≤ (σ1405 9 0).toInt ∧ (σ1405 9 0).toInt ≤ 80) ∧ (∀ k : Nat, k < 80 → 0 ≤ (σ1405 10 k).toInt ∧ (σ1405 10 k).toInt ≤ 255) ∧ (∀ k : Nat, k < 8 → 0 ≤ (σ1405 11 k).toInt ∧ (σ1405 11 k).toInt ≤ 3) := id I1409
                        have i1414 : (-1) ≤ (σ1405 9 2).toInt := I1410
                        obtain ⟨k1415, h1405⟩ := h1405
                        rcases h1405 with h1416 | h1417
                        · obtain ⟨q1419, k1418⟩ := h1416
                          exact absurd (by omega : False) id
                        · obtain ⟨q1421, k1420⟩ := h1417
                          refine lv_istore (lv' := [(5, .int r1406), (4, .int r1388), (3, .int r1326), (2, .int x24), (0, .ref (ad 9)), (1, .ref (ad 16))]) hx hb dX7_readOrder_137 hl (by decide) rfl (fun ls hl => ?_)
                          refine lv_iload hx hb dX7_readOrder_139 (lv_at hl 0 rfl) ?_
                          refine lv_iconst (v := (-1)) hx hb dX7_readOrder_141 (by decide) ?_
                          refine lv_icmp_eq (tgt := 148) hx hb dX7_readOrder_142 (by decide) (fun c => absurd (jeq c rfl jz_m1) (by omega)) (fun c1422 => ?_)
                          have kc1422 := jne c1422 rfl jz_m1
                          refine lv_iload hx hb dX7_readOrder_145 (lv_at hl 0 rfl) ?_
                          have I1423 : jI16 σ1405 := jI16_fr ((congrFun (f1407 16 (by decide)) 0).trans ((congrFun (f1389 16 (by decide)) 0).trans ((congrFun (f1354 16 (by decide)) 0).trans ((congrFun (f1346 16 (by decide)) 0).trans ((congrFun (f1327 16 (by decide)) 0).trans ((congrFun (f1211 16 (by decide)) 0).trans ((congrFun (f31 16 (by decide)) 0).trans (congrFun (f10 16 (by decide)) 0)))))))) ((congrFun (f1407 16 (by decide)) 1).trans ((congrFun (f1389 16 (by decide)) 1).trans ((congrFun (f1354 16 (by decide)) 1).trans ((congrFun (f1346 16 (by decide)) 1).trans ((congrFun (f1327 16 (by decide)) 1).trans ((congrFun (f1211 16 (by decide)) 1).trans ((congrFun (f31 16 (by decide)) 1).trans (congrFun (f10 16 (by decide)) 1)))))))) ((congrFun (f1407 16 (by decide)) 2).trans ((congrFun (f1389 16 (by decide)) 2).trans ((congrFun (f1354 16 (by decide)) 2).trans ((congrFun (f1346 16 (by decide)) 2).trans ((congrFun (f1327 16 (by decide)) 2).trans ((congrFun (f1211 16 (by decide)) 2).trans ((congrFun (f31 16 (by decide)) 2).trans (congrFun (f10 16 (by decide)) 2)))))))) ((f1407 17 (by decide)).trans ((f1389 17 (by decide)).trans ((f1354 17 (by decide)).trans ((f1346 17 (by decide)).trans ((f1327 17 (by decide)).trans ((f1211 17 (by decide)).trans ((f31 17 (by decide)).trans (f10 17 (by decide))))))))) hI16
                          exact hret r1406 σ1405 τ _ _ _ _ rfl ⟨rfl, (fun i hi => ((f1407 i (imp_46 i hi)).trans ((f1389 i (imp_46 i hi)).trans ((f1354 i (imp_46 i hi)).trans ((f1346 i (imp_46 i hi)).trans ((f1327 i (imp_46 i hi)).trans ((f1211 i (imp_46 i hi)).trans ((f31 i (imp_47 i hi)).trans (f10 i (imp_46 i hi)))))))))), (fun i hi => ((f1408 i (imp_48 i hi)).trans ((f1390 i (imp_50 i hi)).trans ((f1355 i (imp_49 i hi)).trans ((f1347 i (imp_54 i hi)).trans ((f1328 i (imp_50 i hi)).trans ((f1212 i (imp_49 i hi)).trans ((f32 i (imp_49 i hi)).trans (f11 i (imp_50 i hi)))))))))), (fun i hi => ((congrFun (f1407 16 (by decide)) i).trans ((congrFun (f1389 16 (by decide)) i).trans ((congrFun (f1354 16 (by decide)) i).trans ((congrFun (f1346 16 (by decide)) i).trans ((congrFun (f1327 16 (by decide)) i).trans ((congrFun (f1211 16 (by decide)) i).trans ((congrFun (f31 16 (by decide)) i).trans (congrFun (f10 16 (by decide)) i))))))))), I1409, I1423, (by omega), trivial⟩ hP hS dX7_readOrder_147
                    · have kc1343 := jnlt c1343 rfl jz_1
                      refine lv_iload_n hx hb dX7_readOrder_105 rfl (lv_at hl 0 rfl) ?_
                      refine lv_bipush (v := 12) hx hb dX7_readOrder_106 (by decide) ?_
                      refine lv_icmp_le (tgt := 117) hx hb dX7_readOrder_108 (by decide) (fun c1424 => ?_) (fun c1424 => ?_)
                      · have kc1424 := jle c1424 rfl jz_12
                        refine lv_aload_n hx hb dX7_readOrder_117 rfl (lv_at hl 4 rfl) ?_
                        refine lv_bipush (v := 114) hx hb dX7_readOrder_118 (by decide) ?_
                        refine jcallV (As := [.int 114]) (rest := []) ⟨hx, hb, hml, hown, hts⟩ hK hP hA hS hZ (c_X7_skip_9 l D cI cL ad zz hJ σ1325 τ 114 (114) jz_114 I1329 I1330 I1331 (by omega)) cw_RX7_50 (jc_9 cI cL ad σ1325 τ) rfl ⟨Nat.le_of_ble_eq_true rfl, Nat.le_of_ble_eq_true rfl⟩ rfl rfl rfl hl.1 rfl (Nat.le_of_ble_eq_true rfl) dX7_readOrder_120 ⟨Nat.zero_le _, Nat.zero_le _⟩ (fun r1426 σ1425 τ1425 H locs h1425 hP hS => ?_)
                        obtain ⟨rfl, f1427, f1428, I1429, I1430, I1431, h1425⟩ := h1425
                        obtain ⟨i1432, w1433, w1434⟩ : (0 ≤ (σ1425 9 0).toInt ∧ (σ1425 9 0).toInt ≤ 80) ∧ (∀ k : Nat, k < 80 → 0 ≤ (σ1425 10 k).toInt ∧ (σ1425 10 k).toInt ≤ 255) ∧ (∀ k : Nat, k < 8 → 0 ≤ (σ1425 11 k).toInt ∧ (σ1425 11 k).toInt ≤ 3) := id I1429
                        obtain ⟨i1435, i1436⟩ : (0 ≤ (σ1425 9 1).toInt) ∧ ((σ1425 9 1).toInt ≤ (σ1425 9 0).toInt) := id I1430
                        have i1437 : (-1) ≤ (σ1425 9 2).toInt := I1431
                        have z1438 : (σ1425 9 0).toInt = (σ 9 0).toInt := (congrArg Int32.toInt (show σ1425 9 0 = (σ 9 0) from ((f1428 0 (by decide)).trans ((f1328 0 (by decide)).trans ((f1212 0 (by decide)).trans ((f32 0 (by decide)).trans (f11 0 (by decide))))))))
                        have z1439 : (σ1425 9 2).toInt = (σ1325 9 2).toInt := (congrArg Int32.toInt (show σ1425 9 2 = (σ1325 9 2) from (f1428 2 (by decide))))
                        refine lv_if_eq (tgt := 133) hx hb dX7_readOrder_123 (by decide) (fun c1440 => ?_) (fun c1440 => ?_)
                        · have kc1440 := jeq c1440 rfl jz_0
                          refine lv_aload_n hx hb dX7_readOrder_133 rfl (lv_at hl 4 rfl) ?_
                          refine jcallV (As := []) (rest := []) ⟨hx, hb, hml, hown, hts⟩ hK hP hA hS hZ (c_X7_end_9 l D cI cL ad zz hJ σ1425 τ I1429 I1430 I1431) cw_RX7_57 (jc_9 cI cL ad σ1425 τ) rfl ⟨Nat.le_of_ble_eq_true rfl, Nat.le_of_ble_eq_true rfl⟩ rfl rfl rfl hl.1 rfl (Nat.le_of_ble_eq_true rfl) dX7_readOrder_134 ⟨Nat.zero_le _, Nat.zero_le _⟩ (fun r1442 σ1441 τ1441 H locs h1441 hP hS => ?_)
                          obtain ⟨rfl, f1443, f1444, I1445, I1446, h1441⟩ := h1441
                          obtain ⟨i1447, w1448, w1449⟩ : (0 ≤ (σ1441 9 0).toInt ∧ (σ1441 9 0).toInt ≤ 80) ∧ (∀ k : Nat, k < 80 → 0 ≤ (σ1441 10 k).toInt ∧ (σ1441 10 k).toInt ≤ 255) ∧ (∀ k : Nat, k < 8 → 0 ≤ (σ1441 11 k).toInt ∧ (σ1441 11 k).toInt ≤ 3) := id I1445
                          have i1450 : (-1) ≤ (σ1441 9 2).toInt := I1446
                          obtain ⟨k1451, h1441⟩ := h1441
                          rcases h1441 with h1452 | h1453
                          · obtain ⟨q1455, k1454⟩ := h1452
                            have q1455 := q1455.symm
                            subst q1455
                            refine lv_istore (lv' := [(5, .int (-1)), (3, .int r1326), (4, .int 0), (2, .int x24), (0, .ref (ad 9)), (1, .ref (ad 16))]) hx hb dX7_readOrder_137 hl (by decide) rfl (fun ls hl => ?_)
                            refine lv_iload hx hb dX7_readOrder_139 (lv_at hl 0 rfl) ?_
                            refine lv_iconst (v := (-1)) hx hb dX7_readOrder_141 (by decide) ?_
                            refine lv_icmp_eq (tgt := 148) hx hb dX7_readOrder_142 (by decide) (fun _ => ?_) (fun c => absurd (by decide) c)
                            refine lv_aload_n hx hb dX7_readOrder_148 rfl (lv_at hl 5 rfl) ?_
                            refine lv_iload_n hx hb dX7_readOrder_149 rfl (lv_at hl 3 rfl) ?_
                            refine jput (ty := .int) hx hb hts inlX6 tyX6 tyX6_ok nmX6 hown hK hP hJ hA hS (jc_16 cI cL ad σ1441 τ) rfl (k := 0) (by decide) (Nat.le_of_ble_eq_true rfl) (jp_16_0 cI cL ad σ1441 τ x24) (hts _ kw_13_18) (fun _ h9 => h9) rfl (by decide +kernel) rfl rfl dX7_readOrder_150 (fun σ1456 H locs eσ1456 hP hS => ?_)
                            refine lv_aload_n hx hb dX7_readOrder_153 rfl (lv_at hl 5 rfl) ?_
                            refine lv_iload_n hx hb dX7_readOrder_154 rfl (lv_at hl 1 rfl) ?_
                            refine jput (ty := .int) hx hb hts inlX6 tyX6 tyX6_ok nmX6 hown hK hP hJ hA hS (jc_16 cI cL ad σ1456 τ) rfl (k := 1) (by decide) (Nat.le_of_ble_eq_true rfl) (jp_16_1 cI cL ad σ1456 τ r1326) (hts _ kw_13_19) (fun _ h9 => h9) rfl (by decide +kernel) rfl rfl dX7_readOrder_155 (fun σ1457 H locs eσ1457 hP hS => ?_)
                            refine lv_aload_n hx hb dX7_readOrder_158 rfl (lv_at hl 5 rfl) ?_
                            refine lv_iload hx hb dX7_readOrder_159 (lv_at hl 2 rfl) ?_
                            refine jput (ty := .int) hx hb hts inlX6 tyX6 tyX6_ok nmX6 hown hK hP hJ hA hS (jc_16 cI cL ad σ1457 τ) rfl (k := 2) (by decide) (Nat.le_of_ble_eq_true rfl) (jp_16_2 cI cL ad σ1457 τ 0) (hts _ kw_13_20) (fun _ h9 => h9) rfl (by decide +kernel) rfl rfl dX7_readOrder_161 (fun σ1458 H locs eσ1458 hP hS => ?_)
                            refine lv_aload_n hx hb dX7_readOrder_164 rfl (lv_at hl 4 rfl) ?_
                            refine va_get (D := D) hx hb hts inlX7 hown hK hP 9 (jc_9 cI cL ad σ1458 τ) rfl 4 (by decide) (hts _ kw_3_21) (fun _ h9 => h9) rfl dX7_readOrder_165 ?_
                            refine lv_iconst (v := 0) hx hb dX7_readOrder_168 (by decide) ?_
                            refine lv_aload_n hx hb dX7_readOrder_169 rfl (lv_at hl 5 rfl) ?_
                            refine va_get (D := D) hx hb hts inlX6 hown hK hP 16 (jc_16 cI cL ad σ1458 τ) rfl 3 (by decide) (hts _ kw_13_21) (fun _ h9 => h9) rfl dX7_readOrder_170 ?_
                            refine lv_iconst (v := 0) hx hb dX7_readOrder_173 (by decide) ?_
                            refine lv_iload_n hx hb dX7_readOrder_174 rfl (lv_at hl 3 rfl) ?_
                            refine jcpyI (q0 := 11) (q1 := 17) hx hb (hml.trans hl.1.symm) hown (hts _ kw_13_22) (hts _ kw_13_23) (hts _ kw_14_0) (hts _ kw_14_1) hK hP hJ hA hS (jc_11 cI cL ad σ1458 τ) (jc_17 cI cL ad σ1458 τ) (fun _ => rfl) jz_0 jz_0 rfl (by omega) (by omega) (by omega) (by omega) (by omega) (Nat.le_of_ble_eq_true rfl) (Nat.le_of_ble_eq_true rfl) dX7_readOrder_175 (fun σ1459 H locs eσ1459 hP hS => ?_)
                            have w1460 : ∀ k : Nat, k < 8 → 0 ≤ (σ1458 11 k).toInt ∧ (σ1458 11 k).toInt ≤ 3 := (jrr_fr (jnp 11 eσ1458 (by decide)) (jrr_fr (jnp 11 eσ1457 (by decide)) (jrr_fr (jnp 11 eσ1456 (by decide)) w1449)))
                            have w1461 : ∀ k : Nat, k < 8 → 0 ≤ (σ1458 17 k).toInt ∧ (σ1458 17 k).toInt ≤ 3 := (jrr_fr (jnp 17 eσ1458 (by decide)) (jrr_fr (jnp 17 eσ1457 (by decide)) (jrr_fr (jnp 17 eσ1456 (by decide)) (jrr_fr (f1443 17 (by decide)) (jrr_fr (f1427 17 (by decide)) (jrr_fr (f1327 17 (by decide)) (jrr_fr (f1211 17 (by decide)) (jrr_fr (f31 17 (by decide)) (jrr_fr (f10 17 (by decide)) w7)))))))))
                            have f1462 : (∀ i : Nat, (i < 17 ∨ 17 < i) → σ1459 i = σ1458 i) := by rw [eσ1459]; exact jrow_n
                            have w1463 : ∀ k : Nat, k < 8 → 0 ≤ (σ1459 17 k).toInt ∧ (σ1459 17 k).toInt ≤ 3 := by rw [eσ1459]; exact jrow_rr w1460 w1461 jz_0 rfl (n0 := 8) (by omega) (by omega) (by omega)
                            refine lv_iconst (v := (-1)) hx hb dX7_readOrder_178 (by decide) ?_
                            have I1464 : jI9 σ1459 := jI9_fr ((congrFun (f1462 9 (by decide)) 0).trans ((congrFun (jnp 9 eσ1458 (by decide)) 0).trans ((congrFun (jnp 9 eσ1457 (by decide)) 0).trans (congrFun (jnp 9 eσ1456 (by decide)) 0)))) ((f1462 10 (by decide)).trans ((jnp 10 eσ1458 (by decide)).trans ((jnp 10 eσ1457 (by decide)).trans (jnp 10 eσ1456 (by decide))))) ((f1462 11 (by decide)).trans ((jnp 11 eσ1458 (by decide)).trans ((jnp 11 eσ1457 (by decide)).trans (jnp 11 eσ1456 (by decide))))) I1445
                            have z1465 : (σ1459 16 0).toInt = x24.toInt := (congrArg Int32.toInt (show σ1459 16 0 = x24 from ((congrFun (f1462 16 (by decide)) 0).trans ((jkp 0 eσ1458 (by decide)).trans ((jkp 0 eσ1457 (by decide)).trans (jsp eσ1456))))))
                            have z1466 : (σ1459 16 1).toInt = r1326.toInt := (congrArg Int32.toInt (show σ1459 16 1 = r1326 from ((congrFun (f1462 16 (by decide)) 1).trans ((jkp 1 eσ1458 (by decide)).trans (jsp eσ1457)))))
                            have z1467 : (σ1459 16 2).toInt = 0 := ((congrArg Int32.toInt (show σ1459 16 2 = 0 from ((congrFun (f1462 16 (by decide)) 2).trans (jsp eσ1458)))).trans jz_0)
                            have I1468 : jI16 σ1459 := ⟨(by omega), (by omega), (by omega), w1463⟩
                            have z1469 : (σ1459 9 0).toInt = (σ1441 9 0).toInt := (congrArg Int32.toInt (show σ1459 9 0 = (σ1441 9 0) from ((congrFun (f1462 9 (by decide)) 0).trans ((congrFun (jnp 9 eσ1458 (by decide)) 0).trans ((congrFun (jnp 9 eσ1457 (by decide)) 0).trans (congrFun (jnp 9 eσ1456 (by decide)) 0))))))
                            exact hret (-1) σ1459 τ _ _ _ _ rfl ⟨rfl, (fun i hi => ((f1462 i (imp_44 i hi)).trans ((jnp i eσ1458 (imp_45 i hi)).trans ((jnp i eσ1457 (imp_45 i hi)).trans ((jnp i eσ1456 (imp_45 i hi)).trans ((f1443 i (imp_46 i hi)).trans ((f1427 i (imp_46 i hi)).trans ((f1327 i (imp_46 i hi)).trans ((f1211 i (imp_46 i hi)).trans ((f31 i (imp_47 i hi)).trans (f10 i (imp_46 i hi)))))))))))), (fun i hi => ((congrFun (f1462 9 (by decide)) i).trans ((congrFun (jnp 9 eσ1458 (by decide)) i).trans ((congrFun (jnp 9 eσ1457 (by decide)) i).trans ((congrFun (jnp 9 eσ1456 (by decide)) i).trans ((f1444 i (imp_48 i hi)).trans ((f1428 i (imp_49 i hi)).trans ((f1328 i (imp_50 i hi)).trans ((f1212 i (imp_49 i hi)).trans ((f32 i (imp_49 i hi)).trans (f11 i (imp_50 i hi)))))))))))), (fun i hi => ((congrFun (f1462 16 (by decide)) i).trans ((jkp i eσ1458 (imp_51 i hi)).trans ((jkp i eσ1457 (imp_52 i hi)).trans ((jkp i eσ1456 (imp_53 i hi)).trans ((congrFun (f1443 16 (by decide)) i).trans ((congrFun (f1427 16 (by decide)) i).trans ((congrFun (f1327 16 (by decide)) i).trans ((congrFun (f1211 16 (by decide)) i).trans ((congrFun (f31 16 (by decide)) i).trans (congrFun (f10 16 (by decide)) i))))))))))), I1464, I1468, (by omega), trivial⟩ hP hS dX7_readOrder_179
                          · obtain ⟨q1471, k1470⟩ := h1453
                            refine lv_istore (lv' := [(5, .int r1442), (3, .int r1326), (4, .int 0), (2, .int x24), (0, .ref (ad 9)), (1, .ref (ad 16))]) hx hb dX7_readOrder_137 hl (by decide) rfl (fun ls hl => ?_)
                            refine lv_iload hx hb dX7_readOrder_139 (lv_at hl 0 rfl) ?_
                            refine lv_iconst (v := (-1)) hx hb dX7_readOrder_141 (by decide) ?_
                            refine lv_icmp_eq (tgt := 148) hx hb dX7_readOrder_142 (by decide) (fun c => absurd (jeq c rfl jz_m1) (by omega)) (fun c1472 => ?_)
                            have kc1472 := jne c1472 rfl jz_m1
                            refine lv_iload hx hb dX7_readOrder_145 (lv_at hl 0 rfl) ?_
                            have I1473 : jI16 σ1441 := jI16_fr ((congrFun (f1443 16 (by decide)) 0).trans ((congrFun (f1427 16 (by decide)) 0).trans ((congrFun (f1327 16 (by decide)) 0).trans ((congrFun (f1211 16 (by decide)) 0).trans ((congrFun (f31 16 (by decide)) 0).trans (congrFun (f10 16 (by decide)) 0)))))) ((congrFun (f1443 16 (by decide)) 1).trans ((congrFun (f1427 16 (by decide)) 1).trans ((congrFun (f1327 16 (by decide)) 1).trans ((congrFun (f1211 16 (by decide)) 1).trans ((congrFun (f31 16 (by decide)) 1).trans (congrFun (f10 16 (by decide)) 1)))))) ((congrFun (f1443 16 (by decide)) 2).trans ((congrFun (f1427 16 (by decide)) 2).trans ((congrFun (f1327 16 (by decide)) 2).trans ((congrFun (f1211 16 (by decide)) 2).trans ((congrFun (f31 16 (by decide)) 2).trans (congrFun (f10 16 (by decide)) 2)))))) ((f1443 17 (by decide)).trans ((f1427 17 (by decide)).trans ((f1327 17 (by decide)).trans ((f1211 17 (by decide)).trans ((f31 17 (by decide)).trans (f10 17 (by decide))))))) hI16
                            exact hret r1442 σ1441 τ _ _ _ _ rfl ⟨rfl, (fun i hi => ((f1443 i (imp_46 i hi)).trans ((f1427 i (imp_46 i hi)).trans ((f1327 i (imp_46 i hi)).trans ((f1211 i (imp_46 i hi)).trans ((f31 i (imp_47 i hi)).trans (f10 i (imp_46 i hi)))))))), (fun i hi => ((f1444 i (imp_48 i hi)).trans ((f1428 i (imp_49 i hi)).trans ((f1328 i (imp_50 i hi)).trans ((f1212 i (imp_49 i hi)).trans ((f32 i (imp_49 i hi)).trans (f11 i (imp_50 i hi)))))))), (fun i hi => ((congrFun (f1443 16 (by decide)) i).trans ((congrFun (f1427 16 (by decide)) i).trans ((congrFun (f1327 16 (by decide)) i).trans ((congrFun (f1211 16 (by decide)) i).trans ((congrFun (f31 16 (by decide)) i).trans (congrFun (f10 16 (by decide)) i))))))), I1445, I1473, (by omega), trivial⟩ hP hS dX7_readOrder_147
                        · have kc1440 := jne c1440 rfl jz_0
                          refine lv_aload_n hx hb dX7_readOrder_126 rfl (lv_at hl 4 rfl) ?_
                          refine lv_iconst (v := 3) hx hb dX7_readOrder_127 (by decide) ?_
                          refine jcallV (As := [.int 3]) (rest := []) ⟨hx, hb, hml, hown, hts⟩ hK hP hA hS hZ (c_X7_number_3 l D cI cL ad zz hJ σ1425 τ I1429 I1430 I1431) cw_RX7_53 (jc_9 cI cL ad σ1425 τ) rfl ⟨Nat.le_of_ble_eq_true rfl, Nat.le_of_ble_eq_true rfl⟩ rfl rfl rfl hl.1 rfl (Nat.le_of_ble_eq_true rfl) dX7_readOrder_128 ⟨Nat.zero_le _, Nat.zero_le _⟩ (fun r1475 σ1474 τ1474 H locs h1474 hP hS => ?_)
                          obtain ⟨rfl, f1476, f1477, I1478, I1479, I1480, h1474⟩ := h1474
                          obtain ⟨i1481, w1482, w1483⟩ : (0 ≤ (σ1474 9 0).toInt ∧ (σ1474 9 0).toInt ≤ 80) ∧ (∀ k : Nat, k < 80 → 0 ≤ (σ1474 10 k).toInt ∧ (σ1474 10 k).toInt ≤ 255) ∧ (∀ k : Nat, k < 8 → 0 ≤ (σ1474 11 k).toInt ∧ (σ1474 11 k).toInt ≤ 3) := id I1478
                          obtain ⟨i1484, i1485⟩ : (0 ≤ (σ1474 9 1).toInt) ∧ ((σ1474 9 1).toInt ≤ (σ1474 9 0).toInt) := id I1479
                          have i1486 : (-1) ≤ (σ1474 9 2).toInt := I1480
                          have z1487 : (σ1474 9 0).toInt = (σ 9 0).toInt := (congrArg Int32.toInt (show σ1474 9 0 = (σ 9 0) from ((f1477 0 (by decide)).trans ((f1428 0 (by decide)).trans ((f1328 0 (by decide)).trans ((f1212 0 (by decide)).trans ((f32 0 (by decide)).trans (f11 0 (by decide)))))))))
                          obtain ⟨k1488, h1474⟩ := h1474
                          have h1489 := h1474
                          obtain ⟨q1491, k1490⟩ := h1489
                          refine lv_istore (lv' := [(4, .int r1475), (3, .int r1326), (5, .int (σ1209 9 1)), (2, .int x24), (0, .ref (ad 9)), (1, .ref (ad 16))]) hx hb dX7_readOrder_131 hl (by decide) rfl (fun ls hl => ?_)
                          refine lv_aload_n hx hb dX7_readOrder_133 rfl (lv_at hl 4 rfl) ?_
                          refine jcallV (As := []) (rest := []) ⟨hx, hb, hml, hown, hts⟩ hK hP hA hS hZ (c_X7_end_9 l D cI cL ad zz hJ σ1474 τ I1478 I1479 I1480) cw_RX7_57 (jc_9 cI cL ad σ1474 τ) rfl ⟨Nat.le_of_ble_eq_true rfl, Nat.le_of_ble_eq_true rfl⟩ rfl rfl rfl hl.1 rfl (Nat.le_of_ble_eq_true rfl) dX7_readOrder_134 ⟨Nat.zero_le _, Nat.zero_le _⟩ (fun r1493 σ1492 τ1492 H locs h1492 hP hS => ?_)
                          obtain ⟨rfl, f1494, f1495, I1496, I1497, h1492⟩ := h1492
                          obtain ⟨i1498, w1499, w1500⟩ : (0 ≤ (σ1492 9 0).toInt ∧ (σ1492 9 0).toInt ≤ 80) ∧ (∀ k : Nat, k < 80 → 0 ≤ (σ1492 10 k).toInt ∧ (σ1492 10 k).toInt ≤ 255) ∧ (∀ k : Nat, k < 8 → 0 ≤ (σ1492 11 k).toInt ∧ (σ1492 11 k).toInt ≤ 3) := id I1496
                          have i1501 : (-1) ≤ (σ1492 9 2).toInt := I1497
                          obtain ⟨k1502, h1492⟩ := h1492
                          rcases h1492 with h1503 | h1504
                          · obtain ⟨q1506, k1505⟩ := h1503
                            have q1506 := q1506.symm
                            subst q1506
                            refine lv_istore (lv' := [(5, .int (-1)), (4, .int r1475), (3, .int r1326), (2, .int x24), (0, .ref (ad 9)), (1, .ref (ad 16))]) hx hb dX7_readOrder_137 hl (by decide) rfl (fun ls hl => ?_)
                            refine lv_iload hx hb dX7_readOrder_139 (lv_at hl 0 rfl) ?_
                            refine lv_iconst (v := (-1)) hx hb dX7_readOrder_141 (by decide) ?_
                            refine lv_icmp_eq (tgt := 148) hx hb dX7_readOrder_142 (by decide) (fun _ => ?_) (fun c => absurd (by decide) c)
                            refine lv_aload_n hx hb dX7_readOrder_148 rfl (lv_at hl 5 rfl) ?_
                            refine lv_iload_n hx hb dX7_readOrder_149 rfl (lv_at hl 3 rfl) ?_
                            refine jput (ty := .int) hx hb hts inlX6 tyX6 tyX6_ok nmX6 hown hK hP hJ hA hS (jc_16 cI cL ad σ1492 τ) rfl (k := 0) (by decide) (Nat.le_of_ble_eq_true rfl) (jp_16_0 cI cL ad σ1492 τ x24) (hts _ kw_13_18) (fun _ h9 => h9) rfl (by decide +kernel) rfl rfl dX7_readOrder_150 (fun σ1507 H locs eσ1507 hP hS => ?_)
                            refine lv_aload_n hx hb dX7_readOrder_153 rfl (lv_at hl 5 rfl) ?_
                            refine lv_iload_n hx hb dX7_readOrder_154 rfl (lv_at hl 2 rfl) ?_
                            refine jput (ty := .int) hx hb hts inlX6 tyX6 tyX6_ok nmX6 hown hK hP hJ hA hS (jc_16 cI cL ad σ1507 τ) rfl (k := 1) (by decide) (Nat.le_of_ble_eq_true rfl) (jp_16_1 cI cL ad σ1507 τ r1326) (hts _ kw_13_19) (fun _ h9 => h9) rfl (by decide +kernel) rfl rfl dX7_readOrder_155 (fun σ1508 H locs eσ1508 hP hS => ?_)
                            refine lv_aload_n hx hb dX7_readOrder_158 rfl (lv_at hl 5 rfl) ?_
                            refine lv_iload hx hb dX7_readOrder_159 (lv_at hl 1 rfl) ?_
                            refine jput (ty := .int) hx hb hts inlX6 tyX6 tyX6_ok nmX6 hown hK hP hJ hA hS (jc_16 cI cL ad σ1508 τ) rfl (k := 2) (by decide) (Nat.le_of_ble_eq_true rfl) (jp_16_2 cI cL ad σ1508 τ r1475) (hts _ kw_13_20) (fun _ h9 => h9) rfl (by decide +kernel) rfl rfl dX7_readOrder_161 (fun σ1509 H locs eσ1509 hP hS => ?_)
                            refine lv_aload_n hx hb dX7_readOrder_164 rfl (lv_at hl 4 rfl) ?_
                            refine va_get (D := D) hx hb hts inlX7 hown hK hP 9 (jc_9 cI cL ad σ1509 τ) rfl 4 (by decide) (hts _ kw_3_21) (fun _ h9 => h9) rfl dX7_readOrder_165 ?_
                            refine lv_iconst (v := 0) hx hb dX7_readOrder_168 (by decide) ?_
                            refine lv_aload_n hx hb dX7_readOrder_169 rfl (lv_at hl 5 rfl) ?_
                            refine va_get (D := D) hx hb hts inlX6 hown hK hP 16 (jc_16 cI cL ad σ1509 τ) rfl 3 (by decide) (hts _ kw_13_21) (fun _ h9 => h9) rfl dX7_readOrder_170 ?_
                            refine lv_iconst (v := 0) hx hb dX7_readOrder_173 (by decide) ?_
                            refine lv_iload_n hx hb dX7_readOrder_174 rfl (lv_at hl 3 rfl) ?_
                            refine jcpyI (q0 := 11) (q1 := 17) hx hb (hml.trans hl.1.symm) hown (hts _ kw_13_22) (hts _ kw_13_23) (hts _ kw_14_0) (hts _ kw_14_1) hK hP hJ hA hS (jc_11 cI cL ad σ1509 τ) (jc_17 cI cL ad σ1509 τ) (fun _ => rfl) jz_0 jz_0 rfl (by omega) (by omega) (by omega) (by omega) (by omega) (Nat.le_of_ble_eq_true rfl) (Nat.le_of_ble_eq_true rfl) dX7_readOrder_175 (fun σ1510 H locs eσ1510 hP hS => ?_)
                            have w1511 : ∀ k : Nat, k < 8 → 0 ≤ (σ1509 11 k).toInt ∧ (σ1509 11 k).toInt ≤ 3 := (jrr_fr (jnp 11 eσ1509 (by decide)) (jrr_fr (jnp 11 eσ1508 (by decide)) (jrr_fr (jnp 11 eσ1507 (by decide)) w1500)))
                            have w1512 : ∀ k : Nat, k < 8 → 0 ≤ (σ1509 17 k).toInt ∧ (σ1509 17 k).toInt ≤ 3 := (jrr_fr (jnp 17 eσ1509 (by decide)) (jrr_fr (jnp 17 eσ1508 (by decide)) (jrr_fr (jnp 17 eσ1507 (by decide)) (jrr_fr (f1494 17 (by decide)) (jrr_fr (f1476 17 (by decide)) (jrr_fr (f1427 17 (by decide)) (jrr_fr (f1327 17 (by decide)) (jrr_fr (f1211 17 (by decide)) (jrr_fr (f31 17 (by decide)) (jrr_fr (f10 17 (by decide)) w7))))))))))
                            have f1513 : (∀ i : Nat, (i < 17 ∨ 17 < i) → σ1510 i = σ1509 i) := by rw [eσ1510]; exact jrow_n
                            have w1514 : ∀ k : Nat, k < 8 → 0 ≤ (σ1510 17 k).toInt ∧ (σ1510 17 k).toInt ≤ 3 := by rw [eσ1510]; exact jrow_rr w1511 w1512 jz_0 rfl (n0 := 8) (by omega) (by omega) (by omega)
                            refine lv_iconst (v := (-1)) hx hb dX7_readOrder_178 (by decide) ?_
                            have I1515 : jI9 σ1510 := jI9_fr ((congrFun (f1513 9 (by decide)) 0).trans ((congrFun (jnp 9 eσ1509 (by decide)) 0).trans ((congrFun (jnp 9 eσ1508 (by decide)) 0).trans (congrFun (jnp 9 eσ1507 (by decide)) 0)))) ((f1513 10 (by decide)).trans ((jnp 10 eσ1509 (by decide)).trans ((jnp 10 eσ1508 (by decide)).trans (jnp 10 eσ1507 (by decide))))) ((f1513 11 (by decide)).trans ((jnp 11 eσ1509 (by decide)).trans ((jnp 11 eσ1508 (by decide)).trans (jnp 11 eσ1507 (by decide))))) I1496
                            have z1516 : (σ1510 16 0).toInt = x24.toInt := (congrArg Int32.toInt (show σ1510 16 0 = x24 from ((congrFun (f1513 16 (by decide)) 0).trans ((jkp 0 eσ1509 (by decide)).trans ((jkp 0 eσ1508 (by decide)).trans (jsp eσ1507))))))
                            have z1517 : (σ1510 16 1).toInt = r1326.toInt := (congrArg Int32.toInt (show σ1510 16 1 = r1326 from ((congrFun (f1513 16 (by decide)) 1).trans ((jkp 1 eσ1509 (by decide)).trans (jsp eσ1508)))))
                            have z1518 : (σ1510 16 2).toInt = r1475.toInt := (congrArg Int32.toInt (show σ1510 16 2 = r1475 from ((congrFun (f1513 16 (by decide)) 2).trans (jsp eσ1509))))
                            have I1519 : jI16 σ1510 := ⟨(by omega), (by omega), (by omega), w1514⟩
                            have z1520 : (σ1510 9 0).toInt = (σ1492 9 0).toInt := (congrArg Int32.toInt (show σ1510 9 0 = (σ1492 9 0) from ((congrFun (f1513 9 (by decide)) 0).trans ((congrFun (jnp 9 eσ1509 (by decide)) 0).trans ((congrFun (jnp 9 eσ1508 (by decide)) 0).trans (congrFun (jnp 9 eσ1507 (by decide)) 0))))))
                            exact hret (-1) σ1510 τ _ _ _ _ rfl ⟨rfl, (fun i hi => ((f1513 i (imp_44 i hi)).trans ((jnp i eσ1509 (imp_45 i hi)).trans ((jnp i eσ1508 (imp_45 i hi)).trans ((jnp i eσ1507 (imp_45 i hi)).trans ((f1494 i (imp_46 i hi)).trans ((f1476 i (imp_46 i hi)).trans ((f1427 i (imp_46 i hi)).trans ((f1327 i (imp_46 i hi)).trans ((f1211 i (imp_46 i hi)).trans ((f31 i (imp_47 i hi)).trans (f10 i (imp_46 i hi))))))))))))), (fun i hi => ((congrFun (f1513 9 (by decide)) i).trans ((congrFun (jnp 9 eσ1509 (by decide)) i).trans ((congrFun (jnp 9 eσ1508 (by decide)) i).trans ((congrFun (jnp 9 eσ1507 (by decide)) i).trans ((f1495 i (imp_48 i hi)).trans ((f1477 i (imp_50 i hi)).trans ((f1428 i (imp_49 i hi)).trans ((f1328 i (imp_50 i hi)).trans ((f1212 i (imp_49 i hi)).trans ((f32 i (imp_49 i hi)).trans (f11 i (imp_50 i hi))))))))))))), (fun i hi => ((congrFun (f1513 16 (by decide)) i).trans ((jkp i eσ1509 (imp_51 i hi)).trans ((jkp i eσ1508 (imp_52 i hi)).trans ((jkp i eσ1507 (imp_53 i hi)).trans ((congrFun (f1494 16 (by decide)) i).trans ((congrFun (f1476 16 (by decide)) i).trans ((congrFun (f1427 16 (by decide)) i).trans ((congrFun (f1327 16 (by decide)) i).trans ((congrFun (f1211 16 (by decide)) i).trans ((congrFun (f31 16 (by decide)) i).trans (congrFun (f10 16 (by decide)) i)))))))))))), I1515, I1519, (by omega), trivial⟩ hP hS dX7_readOrder_179
                          · obtain ⟨q1522, k1521⟩ := h1504
                            refine lv_istore (lv' := [(5, .int r1493), (4, .int r1475), (3, .int r1326), (2, .int x24), (0, .ref (ad 9)), (1, .ref (ad 16))]) hx hb dX7_readOrder_137 hl (by decide) rfl (fun ls hl => ?_)
                            refine lv_iload hx hb dX7_readOrder_139 (lv_at hl 0 rfl) ?_
                            refine lv_iconst (v := (-1)) hx hb dX7_readOrder_141 (by decide) ?_
                            refine lv_icmp_eq (tgt := 148) hx hb dX7_readOrder_142 (by decide) (fun c => absurd (jeq c rfl jz_m1) (by omega)) (fun c1523 => ?_)
                            have kc1523 := jne c1523 rfl jz_m1
                            refine lv_iload hx hb dX7_readOrder_145 (lv_at hl 0 rfl) ?_
                            have I1524 : jI16 σ1492 := jI16_fr ((congrFun (f1494 16 (by decide)) 0).trans ((congrFun (f1476 16 (by decide)) 0).trans ((congrFun (f1427 16 (by decide)) 0).trans ((congrFun (f1327 16 (by decide)) 0).trans ((congrFun (f1211 16 (by decide)) 0).trans ((congrFun (f31 16 (by decide)) 0).trans (congrFun (f10 16 (by decide)) 0))))))) ((congrFun (f1494 16 (by decide)) 1).trans ((congrFun (f1476 16 (by decide)) 1).trans ((congrFun (f1427 16 (by decide)) 1).trans ((congrFun (f1327 16 (by decide)) 1).trans ((congrFun (f1211 16 (by decide)) 1).trans ((congrFun (f31 16 (by decide)) 1).trans (congrFun (f10 16 (by decide)) 1))))))) ((congrFun (f1494 16 (by decide)) 2).trans ((congrFun (f1476 16 (by decide)) 2).trans ((congrFun (f1427 16 (by decide)) 2).trans ((congrFun (f1327 16 (by decide)) 2).trans ((congrFun (f1211 16 (by decide)) 2).trans ((congrFun (f31 16 (by decide)) 2).trans (congrFun (f10 16 (by decide)) 2))))))) ((f1494 17 (by decide)).trans ((f1476 17 (by decide)).trans ((f1427 17 (by decide)).trans ((f1327 17 (by decide)).trans ((f1211 17 (by decide)).trans ((f31 17 (by decide)).trans (f10 17 (by decide)))))))) hI16
                            exact hret r1493 σ1492 τ _ _ _ _ rfl ⟨rfl, (fun i hi => ((f1494 i (imp_46 i hi)).trans ((f1476 i (imp_46 i hi)).trans ((f1427 i (imp_46 i hi)).trans ((f1327 i (imp_46 i hi)).trans ((f1211 i (imp_46 i hi)).trans ((f31 i (imp_47 i hi)).trans (f10 i (imp_46 i hi))))))))), (fun i hi => ((f1495 i (imp_48 i hi)).trans ((f1477 i (imp_50 i hi)).trans ((f1428 i (imp_49 i hi)).trans ((f1328 i (imp_50 i hi)).trans ((f1212 i (imp_49 i hi)).trans ((f32 i (imp_49 i hi)).trans (f11 i (imp_50 i hi))))))))), (fun i hi => ((congrFun (f1494 16 (by decide)) i).trans ((congrFun (f1476 16 (by decide)) i).trans ((congrFun (f1427 16 (by decide)) i).trans ((congrFun (f1327 16 (by decide)) i).trans ((congrFun (f1211 16 (by decide)) i).trans ((congrFun (f31 16 (by decide)) i).trans (congrFun (f10 16 (by decide)) i)))))))), I1496, I1524, (by omega), trivial⟩ hP hS dX7_readOrder_147
                      · have kc1424 := jnle c1424 rfl jz_12
                        refine lv_aload_n hx hb dX7_readOrder_111 rfl (lv_at hl 4 rfl) ?_
                        refine lv_iload hx hb dX7_readOrder_112 (lv_at hl 1 rfl) ?_
                        refine jcallVv (As := [.int (σ1209 9 1)]) (rest := []) ⟨hx, hb, hml, hown, hts⟩ hK hP hA hS hZ (c_X7_fail_9 l D cI cL ad zz hJ σ1325 τ (σ1209 9 1) ((σ1209 9 1).toInt) rfl I1331 (by omega)) cw_RX7_43 (jc_9 cI cL ad σ1325 τ) rfl ⟨Nat.le_of_ble_eq_true rfl, Nat.le_of_ble_eq_true rfl⟩ rfl rfl rfl hl.1 rfl (Nat.le_of_ble_eq_true rfl) dX7_readOrder_114 ⟨Nat.zero_le _, Nat.zero_le _⟩ (fun σ1525 τ1525 H locs h1525 hP hS => ?_)
                        obtain ⟨rfl, f1527, f1528, h1525⟩ := h1525
                        obtain ⟨k1529, h1525⟩ := h1525
                        refine lv_aload_n hx hb dX7_readOrder_117 rfl (lv_at hl 4 rfl) ?_
                        refine lv_bipush (v := 114) hx hb dX7_readOrder_118 (by decide) ?_
                        have I1530 : jI9 σ1525 := jI9_fr (f1528 0 (by decide)) (f1527 10 (by decide)) (f1527 11 (by decide)) I1329
                        have I1531 : jI91 σ1525 := jI91_fr (f1528 0 (by decide)) (f1528 1 (by decide)) I1330
                        have I1532 : jI92 σ1525 := (show (-1) ≤ (σ1525 9 2).toInt by omega)
                        refine jcallV (As := [.int 114]) (rest := []) ⟨hx, hb, hml, hown, hts⟩ hK hP hA hS hZ (c_X7_skip_9 l D cI cL ad zz hJ σ1525 τ 114 (114) jz_114 I1530 I1531 I1532 (by omega)) cw_RX7_50 (jc_9 cI cL ad σ1525 τ) rfl ⟨Nat.le_of_ble_eq_true rfl, Nat.le_of_ble_eq_true rfl⟩ rfl rfl rfl hl.1 rfl (Nat.le_of_ble_eq_true rfl) dX7_readOrder_120 ⟨Nat.zero_le _, Nat.zero_le _⟩ (fun r1534 σ1533 τ1533 H locs h1533 hP hS => ?_)
                        obtain ⟨rfl, f1535, f1536, I1537, I1538, I1539, h1533⟩ := h1533
                        obtain ⟨i1540, w1541, w1542⟩ : (0 ≤ (σ1533 9 0).toInt ∧ (σ1533 9 0).toInt ≤ 80) ∧ (∀ k : Nat, k < 80 → 0 ≤ (σ1533 10 k).toInt ∧ (σ1533 10 k).toInt ≤ 255) ∧ (∀ k : Nat, k < 8 → 0 ≤ (σ1533 11 k).toInt ∧ (σ1533 11 k).toInt ≤ 3) := id I1537
                        obtain ⟨i1543, i1544⟩ : (0 ≤ (σ1533 9 1).toInt) ∧ ((σ1533 9 1).toInt ≤ (σ1533 9 0).toInt) := id I1538
                        have i1545 : (-1) ≤ (σ1533 9 2).toInt := I1539
                        have z1546 : (σ1533 9 0).toInt = (σ 9 0).toInt := (congrArg Int32.toInt (show σ1533 9 0 = (σ 9 0) from ((f1536 0 (by decide)).trans ((f1528 0 (by decide)).trans ((f1328 0 (by decide)).trans ((f1212 0 (by decide)).trans ((f32 0 (by decide)).trans (f11 0 (by decide)))))))))
                        have z1547 : (σ1533 9 2).toInt = (σ1525 9 2).toInt := (congrArg Int32.toInt (show σ1533 9 2 = (σ1525 9 2) from (f1536 2 (by decide))))
                        refine lv_if_eq (tgt := 133) hx hb dX7_readOrder_123 (by decide) (fun c1548 => ?_) (fun c1548 => ?_)
                        · have kc1548 := jeq c1548 rfl jz_0
                          refine lv_aload_n hx hb dX7_readOrder_133 rfl (lv_at hl 4 rfl) ?_
                          refine jcallV (As := []) (rest := []) ⟨hx, hb, hml, hown, hts⟩ hK hP hA hS hZ (c_X7_end_9 l D cI cL ad zz hJ σ1533 τ I1537 I1538 I1539) cw_RX7_57 (jc_9 cI cL ad σ1533 τ) rfl ⟨Nat.le_of_ble_eq_true rfl, Nat.le_of_ble_eq_true rfl⟩ rfl rfl rfl hl.1 rfl (Nat.le_of_ble_eq_true rfl) dX7_readOrder_134 ⟨Nat.zero_le _, Nat.zero_le _⟩ (fun r1550 σ1549 τ1549 H locs h1549 hP hS => ?_)
                          obtain ⟨rfl, f1551, f1552, I1553, I1554, h1549⟩ := h1549
                          obtain ⟨i1555, w1556, w1557⟩ : (0 ≤ (σ1549 9 0).toInt ∧ (σ1549 9 0).toInt ≤ 80) ∧ (∀ k : Nat, k < 80 → 0 ≤ (σ1549 10 k).toInt ∧ (σ1549 10 k).toInt ≤ 255) ∧ (∀ k : Nat, k < 8 → 0 ≤ (σ1549 11 k).toInt ∧ (σ1549 11 k).toInt ≤ 3) := id I1553
                          have i1558 : (-1) ≤ (σ1549 9 2).toInt := I1554
                          obtain ⟨k1559, h1549⟩ := h1549
                          rcases h1549 with h1560 | h1561
                          · obtain ⟨q1563, k1562⟩ := h1560
                            exact absurd (by omega : False) id
                          · obtain ⟨q1565, k1564⟩ := h1561
                            refine lv_istore (lv' := [(5, .int r1550), (3, .int r1326), (4, .int 0), (2, .int x24), (0, .ref (ad 9)), (1, .ref (ad 16))]) hx hb dX7_readOrder_137 hl (by decide) rfl (fun ls hl => ?_)
                            refine lv_iload hx hb dX7_readOrder_139 (lv_at hl 0 rfl) ?_
                            refine lv_iconst (v := (-1)) hx hb dX7_readOrder_141 (by decide) ?_
                            refine lv_icmp_eq (tgt := 148) hx hb dX7_readOrder_142 (by decide) (fun c => absurd (jeq c rfl jz_m1) (by omega)) (fun c1566 => ?_)
                            have kc1566 := jne c1566 rfl jz_m1
                            refine lv_iload hx hb dX7_readOrder_145 (lv_at hl 0 rfl) ?_
                            have I1567 : jI16 σ1549 := jI16_fr ((congrFun (f1551 16 (by decide)) 0).trans ((congrFun (f1535 16 (by decide)) 0).trans ((congrFun (f1527 16 (by decide)) 0).trans ((congrFun (f1327 16 (by decide)) 0).trans ((congrFun (f1211 16 (by decide)) 0).trans ((congrFun (f31 16 (by decide)) 0).trans (congrFun (f10 16 (by decide)) 0))))))) ((congrFun (f1551 16 (by decide)) 1).trans ((congrFun (f1535 16 (by decide)) 1).trans ((congrFun (f1527 16 (by decide)) 1).trans ((congrFun (f1327 16 (by decide)) 1).trans ((congrFun (f1211 16 (by decide)) 1).trans ((congrFun (f31 16 (by decide)) 1).trans (congrFun (f10 16 (by decide)) 1))))))) ((congrFun (f1551 16 (by decide)) 2).trans ((congrFun (f1535 16 (by decide)) 2).trans ((congrFun (f1527 16 (by decide)) 2).trans ((congrFun (f1327 16 (by decide)) 2).trans ((congrFun (f1211 16 (by decide)) 2).trans ((congrFun (f31 16 (by decide)) 2).trans (congrFun (f10 16 (by decide)) 2))))))) ((f1551 17 (by decide)).trans ((f1535 17 (by decide)).trans ((f1527 17 (by decide)).trans ((f1327 17 (by decide)).trans ((f1211 17 (by decide)).trans ((f31 17 (by decide)).trans (f10 17 (by decide)))))))) hI16
                            exact hret r1550 σ1549 τ _ _ _ _ rfl ⟨rfl, (fun i hi => ((f1551 i (imp_46 i hi)).trans ((f1535 i (imp_46 i hi)).trans ((f1527 i (imp_46 i hi)).trans ((f1327 i (imp_46 i hi)).trans ((f1211 i (imp_46 i hi)).trans ((f31 i (imp_47 i hi)).trans (f10 i (imp_46 i hi))))))))), (fun i hi => ((f1552 i (imp_48 i hi)).trans ((f1536 i (imp_49 i hi)).trans ((f1528 i (imp_54 i hi)).trans ((f1328 i (imp_50 i hi)).trans ((f1212 i (imp_49 i hi)).trans ((f32 i (imp_49 i hi)).trans (f11 i (imp_50 i hi))))))))), (fun i hi => ((congrFun (f1551 16 (by decide)) i).trans ((congrFun (f1535 16 (by decide)) i).trans ((congrFun (f1527 16 (by decide)) i).trans ((congrFun (f1327 16 (by decide)) i).trans ((congrFun (f1211 16 (by decide)) i).trans ((congrFun (f31 16 (by decide)) i).trans (congrFun (f10 16 (by decide)) i)))))))), I1553, I1567, (by omega), trivial⟩ hP hS dX7_readOrder_147
                        · have kc1548 := jne c1548 rfl jz_0
                          refine lv_aload_n hx hb dX7_readOrder_126 rfl (lv_at hl 4 rfl) ?_
                          refine lv_iconst (v := 3) hx hb dX7_readOrder_127 (by decide) ?_
                          refine jcallV (As := [.int 3]) (rest := []) ⟨hx, hb, hml, hown, hts⟩ hK hP hA hS hZ (c_X7_number_3 l D cI cL ad zz hJ σ1533 τ I1537 I1538 I1539) cw_RX7_53 (jc_9 cI cL ad σ1533 τ) rfl ⟨Nat.le_of_ble_eq_true rfl, Nat.le_of_ble_eq_true rfl⟩ rfl rfl rfl hl.1 rfl (Nat.le_of_ble_eq_true rfl) dX7_readOrder_128 ⟨Nat.zero_le _, Nat.zero_le _⟩ (fun r1569 σ1568 τ1568 H locs h1568 hP hS => ?_)
                          obtain ⟨rfl, f1570, f1571, I1572, I1573, I1574, h1568⟩ := h1568
                          obtain ⟨i1575, w1576, w1577⟩ : (0 ≤ (σ1568 9 0).toInt ∧ (σ1568 9 0).toInt ≤ 80) ∧ (∀ k : Nat, k < 80 → 0 ≤ (σ1568 10 k).toInt ∧ (σ1568 10 k).toInt ≤ 255) ∧ (∀ k : Nat, k < 8 → 0 ≤ (σ1568 11 k).toInt ∧ (σ1568 11 k).toInt ≤ 3) := id I1572
                          obtain ⟨i1578, i1579⟩ : (0 ≤ (σ1568 9 1).toInt) ∧ ((σ1568 9 1).toInt ≤ (σ1568 9 0).toInt) := id I1573
                          have i1580 : (-1) ≤ (σ1568 9 2).toInt := I1574
                          have z1581 : (σ1568 9 0).toInt = (σ 9 0).toInt := (congrArg Int32.toInt (show σ1568 9 0 = (σ 9 0) from ((f1571 0 (by decide)).trans ((f1536 0 (by decide)).trans ((f1528 0 (by decide)).trans ((f1328 0 (by decide)).trans ((f1212 0 (by decide)).trans ((f32 0 (by decide)).trans (f11 0 (by decide))))))))))
                          obtain ⟨k1582, h1568⟩ := h1568
                          have h1583 := h1568
                          obtain ⟨q1585, k1584⟩ := h1583
                          refine lv_istore (lv' := [(4, .int r1569), (3, .int r1326), (5, .int (σ1209 9 1)), (2, .int x24), (0, .ref (ad 9)), (1, .ref (ad 16))]) hx hb dX7_readOrder_131 hl (by decide) rfl (fun ls hl => ?_)
                          refine lv_aload_n hx hb dX7_readOrder_133 rfl (lv_at hl 4 rfl) ?_
                          refine jcallV (As := []) (rest := []) ⟨hx, hb, hml, hown, hts⟩ hK hP hA hS hZ (c_X7_end_9 l D cI cL ad zz hJ σ1568 τ I1572 I1573 I1574) cw_RX7_57 (jc_9 cI cL ad σ1568 τ) rfl ⟨Nat.le_of_ble_eq_true rfl, Nat.le_of_ble_eq_true rfl⟩ rfl rfl rfl hl.1 rfl (Nat.le_of_ble_eq_true rfl) dX7_readOrder_134 ⟨Nat.zero_le _, Nat.zero_le _⟩ (fun r1587 σ1586 τ1586 H locs h1586 hP hS => ?_)
                          obtain ⟨rfl, f1588, f1589, I1590, I1591, h1586⟩ := h1586
                          obtain ⟨i1592, w1593, w1594⟩ : (0 ≤ (σ1586 9 0).toInt ∧ (σ1586 9 0).toInt ≤ 80) ∧ (∀ k : Nat, k < 80 → 0 ≤ (σ1586 10 k).toInt ∧ (σ1586 10 k).toInt ≤ 255) ∧ (∀ k : Nat, k < 8 → 0 ≤ (σ1586 11 k).toInt ∧ (σ1586 11 k).toInt ≤ 3) := id I1590
                          have i1595 : (-1) ≤ (σ1586 9 2).toInt := I1591
                          obtain ⟨k1596, h1586⟩ := h1586
                          rcases h1586 with h1597 | h1598
                          · obtain ⟨q1600, k1599⟩ := h1597
                            exact absurd (by omega : False) id
                          · obtain ⟨q1602, k1601⟩ := h1598
                            refine lv_istore (lv' := [(5, .int r1587), (4, .int r1569), (3, .int r1326), (2, .int x24), (0, .ref (ad 9)), (1, .ref (ad 16))]) hx hb dX7_readOrder_137 hl (by decide) rfl (fun ls hl => ?_)
                            refine lv_iload hx hb dX7_readOrder_139 (lv_at hl 0 rfl) ?_
                            refine lv_iconst (v := (-1)) hx hb dX7_readOrder_141 (by decide) ?_
                            refine lv_icmp_eq (tgt := 148) hx hb dX7_readOrder_142 (by decide) (fun c => absurd (jeq c rfl jz_m1) (by omega)) (fun c1603 => ?_)
                            have kc1603 := jne c1603 rfl jz_m1
                            refine lv_iload hx hb dX7_readOrder_145 (lv_at hl 0 rfl) ?_
                            have I1604 : jI16 σ1586 := jI16_fr ((congrFun (f1588 16 (by decide)) 0).trans ((congrFun (f1570 16 (by decide)) 0).trans ((congrFun (f1535 16 (by decide)) 0).trans ((congrFun (f1527 16 (by decide)) 0).trans ((congrFun (f1327 16 (by decide)) 0).trans ((congrFun (f1211 16 (by decide)) 0).trans ((congrFun (f31 16 (by decide)) 0).trans (congrFun (f10 16 (by decide)) 0)))))))) ((congrFun (f1588 16 (by decide)) 1).trans ((congrFun (f1570 16 (by decide)) 1).trans ((congrFun (f1535 16 (by decide)) 1).trans ((congrFun (f1527 16 (by decide)) 1).trans ((congrFun (f1327 16 (by decide)) 1).trans ((congrFun (f1211 16 (by decide)) 1).trans ((congrFun (f31 16 (by decide)) 1).trans (congrFun (f10 16 (by decide)) 1)))))))) ((congrFun (f1588 16 (by decide)) 2).trans ((congrFun (f1570 16 (by decide)) 2).trans ((congrFun (f1535 16 (by decide)) 2).trans ((congrFun (f1527 16 (by decide)) 2).trans ((congrFun (f1327 16 (by decide)) 2).trans ((congrFun (f1211 16 (by decide)) 2).trans ((congrFun (f31 16 (by decide)) 2).trans (congrFun (f10 16 (by decide)) 2)))))))) ((f1588 17 (by decide)).trans ((f1570 17 (by decide)).trans ((f1535 17 (by decide)).trans ((f1527 17 (by decide)).trans ((f1327 17 (by decide)).trans ((f1211 17 (by decide)).trans ((f31 17 (by decide)).trans (f10 17 (by decide))))))))) hI16
                            exact hret r1587 σ1586 τ _ _ _ _ rfl ⟨rfl, (fun i hi => ((f1588 i (imp_46 i hi)).trans ((f1570 i (imp_46 i hi)).trans ((f1535 i (imp_46 i hi)).trans ((f1527 i (imp_46 i hi)).trans ((f1327 i (imp_46 i hi)).trans ((f1211 i (imp_46 i hi)).trans ((f31 i (imp_47 i hi)).trans (f10 i (imp_46 i hi)))))))))), (fun i hi => ((f1589 i (imp_48 i hi)).trans ((f1571 i (imp_50 i hi)).trans ((f1536 i (imp_49 i hi)).trans ((f1528 i (imp_54 i hi)).trans ((f1328 i (imp_50 i hi)).trans ((f1212 i (imp_49 i hi)).trans ((f32 i (imp_49 i hi)).trans (f11 i (imp_50 i hi)))))))))), (fun i hi => ((congrFun (f1588 16 (by decide)) i).trans ((congrFun (f1570 16 (by decide)) i).trans ((congrFun (f1535 16 (by decide)) i).trans ((congrFun (f1527 16 (by decide)) i).trans ((congrFun (f1327 16 (by decide)) i).trans ((congrFun (f1211 16 (by decide)) i).trans ((congrFun (f31 16 (by decide)) i).trans (congrFun (f10 16 (by decide)) i))))))))), I1590, I1604, (by omega), trivial⟩ hP hS dX7_readOrder_147
                · have kc1206 := jeq c1206 rfl jz_0
                  refine lv_aload_n hx hb dX7_readOrder_71 rfl (lv_at hl 3 rfl) ?_
                  refine lv_aload_n hx hb dX7_readOrder_72 rfl (lv_at hl 3 rfl) ?_
                  refine va_get (D := D) hx hb hts inlX7 hown hK hP 9 (jc_9 cI cL ad σ25 τ) rfl 1 (by decide) (hts _ kw_13_17) (fun _ h9 => h9) rfl dX7_readOrder_73 ?_
                  have I1605 : jI92 σ25 := jI92_fr (f32 2 (by decide)) I14
                  refine jcallVv (As := [.int (σ25 9 1)]) (rest := []) ⟨hx, hb, hml, hown, hts⟩ hK hP hA hS hZ (c_X7_fail_9 l D cI cL ad zz hJ σ25 τ (σ25 9 1) ((σ25 9 1).toInt) rfl I1605 (by omega)) cw_RX7_43 (jc_9 cI cL ad σ25 τ) rfl ⟨Nat.le_of_ble_eq_true rfl, Nat.le_of_ble_eq_true rfl⟩ rfl rfl rfl hl.1 rfl (Nat.le_of_ble_eq_true rfl) dX7_readOrder_76 ⟨Nat.zero_le _, Nat.zero_le _⟩ (fun σ1606 τ1606 H locs h1606 hP hS => ?_)
                  obtain ⟨rfl, f1608, f1609, h1606⟩ := h1606
                  obtain ⟨k1610, h1606⟩ := h1606
                  refine lv_aload_n hx hb dX7_readOrder_79 rfl (lv_at hl 3 rfl) ?_
                  refine lv_bipush (v := 58) hx hb dX7_readOrder_80 (by decide) ?_
                  have I1611 : jI9 σ1606 := jI9_fr (f1609 0 (by decide)) (f1608 10 (by decide)) (f1608 11 (by decide)) p33
                  have z1612 : (σ1606 9 1).toInt = (σ25 9 1).toInt := (congrArg Int32.toInt (show σ1606 9 1 = (σ25 9 1) from (f1609 1 (by decide))))
                  have z1613 : (σ1606 9 0).toInt = (σ 9 0).toInt := (congrArg Int32.toInt (show σ1606 9 0 = (σ 9 0) from ((f1609 0 (by decide)).trans ((f32 0 (by decide)).trans (f11 0 (by decide))))))
                  have I1614 : jI91 σ1606 := ⟨(by omega), (by omega)⟩
                  have I1615 : jI92 σ1606 := (show (-1) ≤ (σ1606 9 2).toInt by omega)
                  refine jcallV (As := [.int 58]) (rest := []) ⟨hx, hb, hml, hown, hts⟩ hK hP hA hS hZ (c_X7_skip_9 l D cI cL ad zz hJ σ1606 τ 58 (58) jz_58 I1611 I1614 I1615 (by omega)) cw_RX7_50 (jc_9 cI cL ad σ1606 τ) rfl ⟨Nat.le_of_ble_eq_true rfl, Nat.le_of_ble_eq_true rfl⟩ rfl rfl rfl hl.1 rfl (Nat.le_of_ble_eq_true rfl) dX7_readOrder_82 ⟨Nat.zero_le _, Nat.zero_le _⟩ (fun r1617 σ1616 τ1616 H locs h1616 hP hS => ?_)
                  obtain ⟨rfl, f1618, f1619, I1620, I1621, I1622, h1616⟩ := h1616
                  obtain ⟨i1623, w1624, w1625⟩ : (0 ≤ (σ1616 9 0).toInt ∧ (σ1616 9 0).toInt ≤ 80) ∧ (∀ k : Nat, k < 80 → 0 ≤ (σ1616 10 k).toInt ∧ (σ1616 10 k).toInt ≤ 255) ∧ (∀ k : Nat, k < 8 → 0 ≤ (σ1616 11 k).toInt ∧ (σ1616 11 k).toInt ≤ 3) := id I1620
                  obtain ⟨i1626, i1627⟩ : (0 ≤ (σ1616 9 1).toInt) ∧ ((σ1616 9 1).toInt ≤ (σ1616 9 0).toInt) := id I1621
                  have i1628 : (-1) ≤ (σ1616 9 2).toInt := I1622
                  have z1629 : (σ1616 9 0).toInt = (σ 9 0).toInt := (congrArg Int32.toInt (show σ1616 9 0 = (σ 9 0) from ((f1619 0 (by decide)).trans ((f1609 0 (by decide)).trans ((f32 0 (by decide)).trans (f11 0 (by decide)))))))
                  have z1630 : (σ1616 9 2).toInt = (σ1606 9 2).toInt := (congrArg Int32.toInt (show σ1616 9 2 = (σ1606 9 2) from (f1619 2 (by decide))))
                  refine lv_if_eq (tgt := 117) hx hb dX7_readOrder_85 (by decide) (fun c1631 => ?_) (fun c1631 => ?_)
                  · have kc1631 := jeq c1631 rfl jz_0
                    refine lv_aload_n hx hb dX7_readOrder_117 rfl (lv_at hl 3 rfl) ?_
                    refine lv_bipush (v := 114) hx hb dX7_readOrder_118 (by decide) ?_
                    refine jcallV (As := [.int 114]) (rest := []) ⟨hx, hb, hml, hown, hts⟩ hK hP hA hS hZ (c_X7_skip_9 l D cI cL ad zz hJ σ1616 τ 114 (114) jz_114 I1620 I1621 I1622 (by omega)) cw_RX7_50 (jc_9 cI cL ad σ1616 τ) rfl ⟨Nat.le_of_ble_eq_true rfl, Nat.le_of_ble_eq_true rfl⟩ rfl rfl rfl hl.1 rfl (Nat.le_of_ble_eq_true rfl) dX7_readOrder_120 ⟨Nat.zero_le _, Nat.zero_le _⟩ (fun r1633 σ1632 τ1632 H locs h1632 hP hS => ?_)
                    obtain ⟨rfl, f1634, f1635, I1636, I1637, I1638, h1632⟩ := h1632
                    obtain ⟨i1639, w1640, w1641⟩ : (0 ≤ (σ1632 9 0).toInt ∧ (σ1632 9 0).toInt ≤ 80) ∧ (∀ k : Nat, k < 80 → 0 ≤ (σ1632 10 k).toInt ∧ (σ1632 10 k).toInt ≤ 255) ∧ (∀ k : Nat, k < 8 → 0 ≤ (σ1632 11 k).toInt ∧ (σ1632 11 k).toInt ≤ 3) := id I1636
                    obtain ⟨i1642, i1643⟩ : (0 ≤ (σ1632 9 1).toInt) ∧ ((σ1632 9 1).toInt ≤ (σ1632 9 0).toInt) := id I1637
                    have i1644 : (-1) ≤ (σ1632 9 2).toInt := I1638
                    have z1645 : (σ1632 9 0).toInt = (σ 9 0).toInt := (congrArg Int32.toInt (show σ1632 9 0 = (σ 9 0) from ((f1635 0 (by decide)).trans ((f1619 0 (by decide)).trans ((f1609 0 (by decide)).trans ((f32 0 (by decide)).trans (f11 0 (by decide))))))))
                    have z1646 : (σ1632 9 2).toInt = (σ1606 9 2).toInt := (congrArg Int32.toInt (show σ1632 9 2 = (σ1606 9 2) from ((f1635 2 (by decide)).trans (f1619 2 (by decide)))))
                    refine lv_if_eq (tgt := 133) hx hb dX7_readOrder_123 (by decide) (fun c1647 => ?_) (fun c1647 => ?_)
                    · have kc1647 := jeq c1647 rfl jz_0
                      refine lv_aload_n hx hb dX7_readOrder_133 rfl (lv_at hl 3 rfl) ?_
                      refine jcallV (As := []) (rest := []) ⟨hx, hb, hml, hown, hts⟩ hK hP hA hS hZ (c_X7_end_9 l D cI cL ad zz hJ σ1632 τ I1636 I1637 I1638) cw_RX7_57 (jc_9 cI cL ad σ1632 τ) rfl ⟨Nat.le_of_ble_eq_true rfl, Nat.le_of_ble_eq_true rfl⟩ rfl rfl rfl hl.1 rfl (Nat.le_of_ble_eq_true rfl) dX7_readOrder_134 ⟨Nat.zero_le _, Nat.zero_le _⟩ (fun r1649 σ1648 τ1648 H locs h1648 hP hS => ?_)
                      obtain ⟨rfl, f1650, f1651, I1652, I1653, h1648⟩ := h1648
                      obtain ⟨i1654, w1655, w1656⟩ : (0 ≤ (σ1648 9 0).toInt ∧ (σ1648 9 0).toInt ≤ 80) ∧ (∀ k : Nat, k < 80 → 0 ≤ (σ1648 10 k).toInt ∧ (σ1648 10 k).toInt ≤ 255) ∧ (∀ k : Nat, k < 8 → 0 ≤ (σ1648 11 k).toInt ∧ (σ1648 11 k).toInt ≤ 3) := id I1652
                      have i1657 : (-1) ≤ (σ1648 9 2).toInt := I1653
                      obtain ⟨k1658, h1648⟩ := h1648
                      rcases h1648 with h1659 | h1660
                      · obtain ⟨q1662, k1661⟩ := h1659
                        exact absurd (by omega : False) id
                      · obtain ⟨q1664, k1663⟩ := h1660
                        refine lv_istore (lv' := [(5, .int r1649), (4, .int 0), (3, .int 8), (2, .int x24), (0, .ref (ad 9)), (1, .ref (ad 16))]) hx hb dX7_readOrder_137 hl (by decide) rfl (fun ls hl => ?_)
                        refine lv_iload hx hb dX7_readOrder_139 (lv_at hl 0 rfl) ?_
                        refine lv_iconst (v := (-1)) hx hb dX7_readOrder_141 (by decide) ?_
                        refine lv_icmp_eq (tgt := 148) hx hb dX7_readOrder_142 (by decide) (fun c => absurd (jeq c rfl jz_m1) (by omega)) (fun c1665 => ?_)
                        have kc1665 := jne c1665 rfl jz_m1
                        refine lv_iload hx hb dX7_readOrder_145 (lv_at hl 0 rfl) ?_
                        have I1666 : jI16 σ1648 := jI16_fr ((congrFun (f1650 16 (by decide)) 0).trans ((congrFun (f1634 16 (by decide)) 0).trans ((congrFun (f1618 16 (by decide)) 0).trans ((congrFun (f1608 16 (by decide)) 0).trans ((congrFun (f31 16 (by decide)) 0).trans (congrFun (f10 16 (by decide)) 0)))))) ((congrFun (f1650 16 (by decide)) 1).trans ((congrFun (f1634 16 (by decide)) 1).trans ((congrFun (f1618 16 (by decide)) 1).trans ((congrFun (f1608 16 (by decide)) 1).trans ((congrFun (f31 16 (by decide)) 1).trans (congrFun (f10 16 (by decide)) 1)))))) ((congrFun (f1650 16 (by decide)) 2).trans ((congrFun (f1634 16 (by decide)) 2).trans ((congrFun (f1618 16 (by decide)) 2).trans ((congrFun (f1608 16 (by decide)) 2).trans ((congrFun (f31 16 (by decide)) 2).trans (congrFun (f10 16 (by decide)) 2)))))) ((f1650 17 (by decide)).trans ((f1634 17 (by decide)).trans ((f1618 17 (by decide)).trans ((f1608 17 (by decide)).trans ((f31 17 (by decide)).trans (f10 17 (by decide))))))) hI16
                        exact hret r1649 σ1648 τ _ _ _ _ rfl ⟨rfl, (fun i hi => ((f1650 i (imp_46 i hi)).trans ((f1634 i (imp_46 i hi)).trans ((f1618 i (imp_46 i hi)).trans ((f1608 i (imp_46 i hi)).trans ((f31 i (imp_47 i hi)).trans (f10 i (imp_46 i hi)))))))), (fun i hi => ((f1651 i (imp_48 i hi)).trans ((f1635 i (imp_49 i hi)).trans ((f1619 i (imp_49 i hi)).trans ((f1609 i (imp_54 i hi)).trans ((f32 i (imp_49 i hi)).trans (f11 i (imp_50 i hi)))))))), (fun i hi => ((congrFun (f1650 16 (by decide)) i).trans ((congrFun (f1634 16 (by decide)) i).trans ((congrFun (f1618 16 (by decide)) i).trans ((congrFun (f1608 16 (by decide)) i).trans ((congrFun (f31 16 (by decide)) i).trans (congrFun (f10 16 (by decide)) i))))))), I1652, I1666, (by omega), trivial⟩ hP hS dX7_readOrder_147
                    · have kc1647 := jne c1647 rfl jz_0
                      refine lv_aload_n hx hb dX7_readOrder_126 rfl (lv_at hl 3 rfl) ?_
                      refine lv_iconst (v := 3) hx hb dX7_readOrder_127 (by decide) ?_
                      refine jcallV (As := [.int 3]) (rest := []) ⟨hx, hb, hml, hown, hts⟩ hK hP hA hS hZ (c_X7_number_3 l D cI cL ad zz hJ σ1632 τ I1636 I1637 I1638) cw_RX7_53 (jc_9 cI cL ad σ1632 τ) rfl ⟨Nat.le_of_ble_eq_true rfl, Nat.le_of_ble_eq_true rfl⟩ rfl rfl rfl hl.1 rfl (Nat.le_of_ble_eq_true rfl) dX7_readOrder_128 ⟨Nat.zero_le _, Nat.zero_le _⟩ (fun r1668 σ1667 τ1667 H locs h1667 hP hS => ?_)
                      obtain ⟨rfl, f1669, f1670, I1671, I1672, I1673, h1667⟩ := h1667
                      obtain ⟨i1674, w1675, w1676⟩ : (0 ≤ (σ1667 9 0).toInt ∧ (σ1667 9 0).toInt ≤ 80) ∧ (∀ k : Nat, k < 80 → 0 ≤ (σ1667 10 k).toInt ∧ (σ1667 10 k).toInt ≤ 255) ∧ (∀ k : Nat, k < 8 → 0 ≤ (σ1667 11 k).toInt ∧ (σ1667 11 k).toInt ≤ 3) := id I1671
                      obtain ⟨i1677, i1678⟩ : (0 ≤ (σ1667 9 1).toInt) ∧ ((σ1667 9 1).toInt ≤ (σ1667 9 0).toInt) := id I1672
                      have i1679 : (-1) ≤ (σ1667 9 2).toInt := I1673
                      have z1680 : (σ1667 9 0).toInt = (σ 9 0).toInt := (congrArg Int32.toInt (show σ1667 9 0 = (σ 9 0) from ((f1670 0 (by decide)).trans ((f1635 0 (by decide)).trans ((f1619 0 (by decide)).trans ((f1609 0 (by decide)).trans ((f32 0 (by decide)).trans (f11 0 (by decide)))))))))
                      obtain ⟨k1681, h1667⟩ := h1667
                      have h1682 := h1667
                      obtain ⟨q1684, k1683⟩ := h1682
                      refine lv_istore (lv' := [(4, .int r1668), (3, .int 8), (2, .int x24), (0, .ref (ad 9)), (1, .ref (ad 16))]) hx hb dX7_readOrder_131 hl (by decide) rfl (fun ls hl => ?_)
                      refine lv_aload_n hx hb dX7_readOrder_133 rfl (lv_at hl 3 rfl) ?_
                      refine jcallV (As := []) (rest := []) ⟨hx, hb, hml, hown, hts⟩ hK hP hA hS hZ (c_X7_end_9 l D cI cL ad zz hJ σ1667 τ I1671 I1672 I1673) cw_RX7_57 (jc_9 cI cL ad σ1667 τ) rfl ⟨Nat.le_of_ble_eq_true rfl, Nat.le_of_ble_eq_true rfl⟩ rfl rfl rfl hl.1 rfl (Nat.le_of_ble_eq_true rfl) dX7_readOrder_134 ⟨Nat.zero_le _, Nat.zero_le _⟩ (fun r1686 σ1685 τ1685 H locs h1685 hP hS => ?_)
                      obtain ⟨rfl, f1687, f1688, I1689, I1690, h1685⟩ := h1685
                      obtain ⟨i1691, w1692, w1693⟩ : (0 ≤ (σ1685 9 0).toInt ∧ (σ1685 9 0).toInt ≤ 80) ∧ (∀ k : Nat, k < 80 → 0 ≤ (σ1685 10 k).toInt ∧ (σ1685 10 k).toInt ≤ 255) ∧ (∀ k : Nat, k < 8 → 0 ≤ (σ1685 11 k).toInt ∧ (σ1685 11 k).toInt ≤ 3) := id I1689
                      have i1694 : (-1) ≤ (σ1685 9 2).toInt := I1690
                      obtain ⟨k1695, h1685⟩ := h1685
                      rcases h1685 with h1696 | h1697
                      · obtain ⟨q1699, k1698⟩ := h1696
                        exact absurd (by omega : False) id
                      · obtain ⟨q1701, k1700⟩ := h1697
                        refine lv_istore (lv' := [(5, .int r1686), (4, .int r1668), (3, .int 8), (2, .int x24), (0, .ref (ad 9)), (1, .ref (ad 16))]) hx hb dX7_readOrder_137 hl (by decide) rfl (fun ls hl => ?_)
                        refine lv_iload hx hb dX7_readOrder_139 (lv_at hl 0 rfl) ?_
                        refine lv_iconst (v := (-1)) hx hb dX7_readOrder_141 (by decide) ?_
                        refine lv_icmp_eq (tgt := 148) hx hb dX7_readOrder_142 (by decide) (fun c => absurd (jeq c rfl jz_m1) (by omega)) (fun c1702 => ?_)
                        have kc1702 := jne c1702 rfl jz_m1
                        refine lv_iload hx hb dX7_readOrder_145 (lv_at hl 0 rfl) ?_
                        have I1703 : jI16 σ1685 := jI16_fr ((congrFun (f1687 16 (by decide)) 0).trans ((congrFun (f1669 16 (by decide)) 0).trans ((congrFun (f1634 16 (by decide)) 0).trans ((congrFun (f1618 16 (by decide)) 0).trans ((congrFun (f1608 16 (by decide)) 0).trans ((congrFun (f31 16 (by decide)) 0).trans (congrFun (f10 16 (by decide)) 0))))))) ((congrFun (f1687 16 (by decide)) 1).trans ((congrFun (f1669 16 (by decide)) 1).trans ((congrFun (f1634 16 (by decide)) 1).trans ((congrFun (f1618 16 (by decide)) 1).trans ((congrFun (f1608 16 (by decide)) 1).trans ((congrFun (f31 16 (by decide)) 1).trans (congrFun (f10 16 (by decide)) 1))))))) ((congrFun (f1687 16 (by decide)) 2).trans ((congrFun (f1669 16 (by decide)) 2).trans ((congrFun (f1634 16 (by decide)) 2).trans ((congrFun (f1618 16 (by decide)) 2).trans ((congrFun (f1608 16 (by decide)) 2).trans ((congrFun (f31 16 (by decide)) 2).trans (congrFun (f10 16 (by decide)) 2))))))) ((f1687 17 (by decide)).trans ((f1669 17 (by decide)).trans ((f1634 17 (by decide)).trans ((f1618 17 (by decide)).trans ((f1608 17 (by decide)).trans ((f31 17 (by decide)).trans (f10 17 (by decide)))))))) hI16
                        exact hret r1686 σ1685 τ _ _ _ _ rfl ⟨rfl, (fun i hi => ((f1687 i (imp_46 i hi)).trans ((f1669 i (imp_46 i hi)).trans ((f1634 i (imp_46 i hi)).trans ((f1618 i (imp_46 i hi)).trans ((f1608 i (imp_46 i hi)).trans ((f31 i (imp_47 i hi)).trans (f10 i (imp_46 i hi))))))))), (fun i hi => ((f1688 i (imp_48 i hi)).trans ((f1670 i (imp_50 i hi)).trans ((f1635 i (imp_49 i hi)).trans ((f1619 i (imp_49 i hi)).trans ((f1609 i (imp_54 i hi)).trans ((f32 i (imp_49 i hi)).trans (f11 i (imp_50 i hi))))))))), (fun i hi => ((congrFun (f1687 16 (by decide)) i).trans ((congrFun (f1669 16 (by decide)) i).trans ((congrFun (f1634 16 (by decide)) i).trans ((congrFun (f1618 16 (by decide)) i).trans ((congrFun (f1608 16 (by decide)) i).trans ((congrFun (f31 16 (by decide)) i).trans (congrFun (f10 16 (by decide)) i)))))))), I1689, I1703, (by omega), trivial⟩ hP hS dX7_readOrder_147
                  · have kc1631 := jne c1631 rfl jz_0
                    refine lv_aload_n hx hb dX7_readOrder_88 rfl (lv_at hl 3 rfl) ?_
                    refine va_get (D := D) hx hb hts inlX7 hown hK hP 9 (jc_9 cI cL ad σ1616 τ) rfl 1 (by decide) (hts _ kw_13_17) (fun _ h9 => h9) rfl dX7_readOrder_89 ?_
                    refine lv_istore (lv' := [(5, .int (σ1616 9 1)), (4, .int 0), (3, .int 8), (2, .int x24), (0, .ref (ad 9)), (1, .ref (ad 16))]) hx hb dX7_readOrder_92 hl (by decide) rfl (fun ls hl => ?_)
                    refine lv_aload_n hx hb dX7_readOrder_94 rfl (lv_at hl 4 rfl) ?_
                    refine lv_iconst (v := 2) hx hb dX7_readOrder_95 (by decide) ?_
                    refine jcallV (As := [.int 2]) (rest := []) ⟨hx, hb, hml, hown, hts⟩ hK hP hA hS hZ (c_X7_number_2 l D cI cL ad zz hJ σ1616 τ I1620 I1621 I1622) cw_RX7_53 (jc_9 cI cL ad σ1616 τ) rfl ⟨Nat.le_of_ble_eq_true rfl, Nat.le_of_ble_eq_true rfl⟩ rfl rfl rfl hl.1 rfl (Nat.le_of_ble_eq_true rfl) dX7_readOrder_96 ⟨Nat.zero_le _, Nat.zero_le _⟩ (fun r1705 σ1704 τ1704 H locs h1704 hP hS => ?_)
                    obtain ⟨rfl, f1706, f1707, I1708, I1709, I1710, h1704⟩ := h1704
                    obtain ⟨i1711, w1712, w1713⟩ : (0 ≤ (σ1704 9 0).toInt ∧ (σ1704 9 0).toInt ≤ 80) ∧ (∀ k : Nat, k < 80 → 0 ≤ (σ1704 10 k).toInt ∧ (σ1704 10 k).toInt ≤ 255) ∧ (∀ k : Nat, k < 8 → 0 ≤ (σ1704 11 k).toInt ∧ (σ1704 11 k).toInt ≤ 3) := id I1708
                    obtain ⟨i1714, i1715⟩ : (0 ≤ (σ1704 9 1).toInt) ∧ ((σ1704 9 1).toInt ≤ (σ1704 9 0).toInt) := id I1709
                    have i1716 : (-1) ≤ (σ1704 9 2).toInt := I1710
                    have z1717 : (σ1704 9 0).toInt = (σ 9 0).toInt := (congrArg Int32.toInt (show σ1704 9 0 = (σ 9 0) from ((f1707 0 (by decide)).trans ((f1619 0 (by decide)).trans ((f1609 0 (by decide)).trans ((f32 0 (by decide)).trans (f11 0 (by decide))))))))
                    obtain ⟨k1718, h1704⟩ := h1704
                    have h1719 := h1704
                    obtain ⟨q1721, k1720⟩ := h1719
                    refine lv_istore_n (lv' := [(3, .int r1705), (5, .int (σ1616 9 1)), (4, .int 0), (2, .int x24), (0, .ref (ad 9)), (1, .ref (ad 16))]) hx hb dX7_readOrder_99 rfl hl (by decide) rfl (fun ls hl => ?_)
                    refine lv_iload_n hx hb dX7_readOrder_100 rfl (lv_at hl 0 rfl) ?_
                    refine lv_iconst (v := 1) hx hb dX7_readOrder_101 (by decide) ?_
                    refine lv_icmp_lt (tgt := 111) hx hb dX7_readOrder_102 (by decide) (fun c1722 => ?_) (fun c1722 => ?_)
                    · have kc1722 := jlt c1722 rfl jz_1
                      refine lv_aload_n hx hb dX7_readOrder_111 rfl (lv_at hl 4 rfl) ?_
                      refine lv_iload hx hb dX7_readOrder_112 (lv_at hl 1 rfl) ?_
                      refine jcallVv (As := [.int (σ1616 9 1)]) (rest := []) ⟨hx, hb, hml, hown, hts⟩ hK hP hA hS hZ (c_X7_fail_9 l D cI cL ad zz hJ σ1704 τ (σ1616 9 1) ((σ1616 9 1).toInt) rfl I1710 (by omega)) cw_RX7_43 (jc_9 cI cL ad σ1704 τ) rfl ⟨Nat.le_of_ble_eq_true rfl, Nat.le_of_ble_eq_true rfl⟩ rfl rfl rfl hl.1 rfl (Nat.le_of_ble_eq_true rfl) dX7_readOrder_114 ⟨Nat.zero_le _, Nat.zero_le _⟩ (fun σ1723 τ1723 H locs h1723 hP hS => ?_)
                      obtain ⟨rfl, f1725, f1726, h1723⟩ := h1723
                      obtain ⟨k1727, h1723⟩ := h1723
                      refine lv_aload_n hx hb dX7_readOrder_117 rfl (lv_at hl 4 rfl) ?_
                      refine lv_bipush (v := 114) hx hb dX7_readOrder_118 (by decide) ?_
                      have I1728 : jI9 σ1723 := jI9_fr (f1726 0 (by decide)) (f1725 10 (by decide)) (f1725 11 (by decide)) I1708
                      have I1729 : jI91 σ1723 := jI91_fr (f1726 0 (by decide)) (f1726 1 (by decide)) I1709
                      have I1730 : jI92 σ1723 := (show (-1) ≤ (σ1723 9 2).toInt by omega)
                      refine jcallV (As := [.int 114]) (rest := []) ⟨hx, hb, hml, hown, hts⟩ hK hP hA hS hZ (c_X7_skip_9 l D cI cL ad zz hJ σ1723 τ 114 (114) jz_114 I1728 I1729 I1730 (by omega)) cw_RX7_50 (jc_9 cI cL ad σ1723 τ) rfl ⟨Nat.le_of_ble_eq_true rfl, Nat.le_of_ble_eq_true rfl⟩ rfl rfl rfl hl.1 rfl (Nat.le_of_ble_eq_true rfl) dX7_readOrder_120 ⟨Nat.zero_le _, Nat.zero_le _⟩ (fun r1732 σ1731 τ1731 H locs h1731 hP hS => ?_)
                      obtain ⟨rfl, f1733, f1734, I1735, I1736, I1737, h1731⟩ := h1731
                      obtain ⟨i1738, w1739, w1740⟩ : (0 ≤ (σ1731 9 0).toInt ∧ (σ1731 9 0).toInt ≤ 80) ∧ (∀ k : Nat, k < 80 → 0 ≤ (σ1731 10 k).toInt ∧ (σ1731 10 k).toInt ≤ 255) ∧ (∀ k : Nat, k < 8 → 0 ≤ (σ1731 11 k).toInt ∧ (σ1731 11 k).toInt ≤ 3) := id I1735
                      obtain ⟨i1741, i1742⟩ : (0 ≤ (σ1731 9 1).toInt) ∧ ((σ1731 9 1).toInt ≤ (σ1731 9 0).toInt) := id I1736
                      have i1743 : (-1) ≤ (σ1731 9 2).toInt := I1737
                      have z1744 : (σ1731 9 0).toInt = (σ 9 0).toInt := (congrArg Int32.toInt (show σ1731 9 0 = (σ 9 0) from ((f1734 0 (by decide)).trans ((f1726 0 (by decide)).trans ((f1707 0 (by decide)).trans ((f1619 0 (by decide)).trans ((f1609 0 (by decide)).trans ((f32 0 (by decide)).trans (f11 0 (by decide))))))))))
                      have z1745 : (σ1731 9 2).toInt = (σ1723 9 2).toInt := (congrArg Int32.toInt (show σ1731 9 2 = (σ1723 9 2) from (f1734 2 (by decide))))
                      refine lv_if_eq (tgt := 133) hx hb dX7_readOrder_123 (by decide) (fun c1746 => ?_) (fun c1746 => ?_)
                      · have kc1746 := jeq c1746 rfl jz_0
                        refine lv_aload_n hx hb dX7_readOrder_133 rfl (lv_at hl 4 rfl) ?_
                        refine jcallV (As := []) (rest := []) ⟨hx, hb, hml, hown, hts⟩ hK hP hA hS hZ (c_X7_end_9 l D cI cL ad zz hJ σ1731 τ I1735 I1736 I1737) cw_RX7_57 (jc_9 cI cL ad σ1731 τ) rfl ⟨Nat.le_of_ble_eq_true rfl, Nat.le_of_ble_eq_true rfl⟩ rfl rfl rfl hl.1 rfl (Nat.le_of_ble_eq_true rfl) dX7_readOrder_134 ⟨Nat.zero_le _, Nat.zero_le _⟩ (fun r1748 σ1747 τ1747 H locs h1747 hP hS => ?_)
                        obtain ⟨rfl, f1749, f1750, I1751, I1752, h1747⟩ := h1747
                        obtain ⟨i1753, w1754, w1755⟩ : (0 ≤ (σ1747 9 0).toInt ∧ (σ1747 9 0).toInt ≤ 80) ∧ (∀ k : Nat, k < 80 → 0 ≤ (σ1747 10 k).toInt ∧ (σ1747 10 k).toInt ≤ 255) ∧ (∀ k : Nat, k < 8 → 0 ≤ (σ1747 11 k).toInt ∧ (σ1747 11 k).toInt ≤ 3) := id I1751
                        have i1756 : (-1) ≤ (σ1747 9 2).toInt := I1752
                        obtain ⟨k1757, h1747⟩ := h1747
                        rcases h1747 with h1758 | h1759
                        · obtain ⟨q1761, k1760⟩ := h1758
                          exact absurd (by omega : False) id
                        · obtain ⟨q1763, k1762⟩ := h1759
                          refine lv_istore (lv' := [(5, .int r1748), (3, .int r1705), (4, .int 0), (2, .int x24), (0, .ref (ad 9)), (1, .ref (ad 16))]) hx hb dX7_readOrder_137 hl (by decide) rfl (fun ls hl => ?_)
                          refine lv_iload hx hb dX7_readOrder_139 (lv_at hl 0 rfl) ?_
                          refine lv_iconst (v := (-1)) hx hb dX7_readOrder_141 (by decide) ?_
                          refine lv_icmp_eq (tgt := 148) hx hb dX7_readOrder_142 (by decide) (fun c => absurd (jeq c rfl jz_m1) (by omega)) (fun c1764 => ?_)
                          have kc1764 := jne c1764 rfl jz_m1
                          refine lv_iload hx hb dX7_readOrder_145 (lv_at hl 0 rfl) ?_
                          have I1765 : jI16 σ1747 := jI16_fr ((congrFun (f1749 16 (by decide)) 0).trans ((congrFun (f1733 16 (by decide)) 0).trans ((congrFun (f1725 16 (by decide)) 0).trans ((congrFun (f1706 16 (by decide)) 0).trans ((congrFun (f1618 16 (by decide)) 0).trans ((congrFun (f1608 16 (by decide)) 0).trans ((congrFun (f31 16 (by decide)) 0).trans (congrFun (f10 16 (by decide)) 0)))))))) ((congrFun (f1749 16 (by decide)) 1).trans ((congrFun (f1733 16 (by decide)) 1).trans ((congrFun (f1725 16 (by decide)) 1).trans ((congrFun (f1706 16 (by decide)) 1).trans ((congrFun (f1618 16 (by decide)) 1).trans ((congrFun (f1608 16 (by decide)) 1).trans ((congrFun (f31 16 (by decide)) 1).trans (congrFun (f10 16 (by decide)) 1)))))))) ((congrFun (f1749 16 (by decide)) 2).trans ((congrFun (f1733 16 (by decide)) 2).trans ((congrFun (f1725 16 (by decide)) 2).trans ((congrFun (f1706 16 (by decide)) 2).trans ((congrFun (f1618 16 (by decide)) 2).trans ((congrFun (f1608 16 (by decide)) 2).trans ((congrFun (f31 16 (by decide)) 2).trans (congrFun (f10 16 (by decide)) 2)))))))) ((f1749 17 (by decide)).trans ((f1733 17 (by decide)).trans ((f1725 17 (by decide)).trans ((f1706 17 (by decide)).trans ((f1618 17 (by decide)).trans ((f1608 17 (by decide)).trans ((f31 17 (by decide)).trans (f10 17 (by decide))))))))) hI16
                          exact hret r1748 σ1747 τ _ _ _ _ rfl ⟨rfl, (fun i hi => ((f1749 i (imp_46 i hi)).trans ((f1733 i (imp_46 i hi)).trans ((f1725 i (imp_46 i hi)).trans ((f1706 i (imp_46 i hi)).trans ((f1618 i (imp_46 i hi)).trans ((f1608 i (imp_46 i hi)).trans ((f31 i (imp_47 i hi)).trans (f10 i (imp_46 i hi)))))))))), (fun i hi => ((f1750 i (imp_48 i hi)).trans ((f1734 i (imp_49 i hi)).trans ((f1726 i (imp_54 i hi)).trans ((f1707 i (imp_50 i hi)).trans ((f1619 i (imp_49 i hi)).trans ((f1609 i (imp_54 i hi)).trans ((f32 i (imp_49 i hi)).trans (f11 i (imp_50 i hi)))))))))), (fun i hi => ((congrFun (f1749 16 (by decide)) i).trans ((congrFun (f1733 16 (by decide)) i).trans ((congrFun (f1725 16 (by decide)) i).trans ((congrFun (f1706 16 (by decide)) i).trans ((congrFun (f1618 16 (by decide)) i).trans ((congrFun (f1608 16 (by decide)) i).trans ((congrFun (f31 16 (by decide)) i).trans (congrFun (f10 16 (by decide)) i))))))))), I1751, I1765, (by omega), trivial⟩ hP hS dX7_readOrder_147
                      · have kc1746 := jne c1746 rfl jz_0
                        refine lv_aload_n hx hb dX7_readOrder_126 rfl (lv_at hl 4 rfl) ?_
                        refine lv_iconst (v := 3) hx hb dX7_readOrder_127 (by decide) ?_
                        refine jcallV (As := [.int 3]) (rest := []) ⟨hx, hb, hml, hown, hts⟩ hK hP hA hS hZ (c_X7_number_3 l D cI cL ad zz hJ σ1731 τ I1735 I1736 I1737) cw_RX7_53 (jc_9 cI cL ad σ1731 τ) rfl ⟨Nat.le_of_ble_eq_true rfl, Nat.le_of_ble_eq_true rfl⟩ rfl rfl rfl hl.1 rfl (Nat.le_of_ble_eq_true rfl) dX7_readOrder_128 ⟨Nat.zero_le _, Nat.zero_le _⟩ (fun r1767 σ1766 τ1766 H locs h1766 hP hS => ?_)
                        obtain ⟨rfl, f1768, f1769, I1770, I1771, I1772, h1766⟩ := h1766
                        obtain ⟨i1773, w1774, w1775⟩ : (0 ≤ (σ1766 9 0).toInt ∧ (σ1766 9 0).toInt ≤ 80) ∧ (∀ k : Nat, k < 80 → 0 ≤ (σ1766 10 k).toInt ∧ (σ1766 10 k).toInt ≤ 255) ∧ (∀ k : Nat, k < 8 → 0 ≤ (σ1766 11 k).toInt ∧ (σ1766 11 k).toInt ≤ 3) := id I1770
                        obtain ⟨i1776, i1777⟩ : (0 ≤ (σ1766 9 1).toInt) ∧ ((σ1766 9 1).toInt ≤ (σ1766 9 0).toInt) := id I1771
                        have i1778 : (-1) ≤ (σ1766 9 2).toInt := I1772
                        have z1779 : (σ1766 9 0).toInt = (σ 9 0).toInt := (congrArg Int32.toInt (show σ1766 9 0 = (σ 9 0) from ((f1769 0 (by decide)).trans ((f1734 0 (by decide)).trans ((f1726 0 (by decide)).trans ((f1707 0 (by decide)).trans ((f1619 0 (by decide)).trans ((f1609 0 (by decide)).trans ((f32 0 (by decide)).trans (f11 0 (by decide)))))))))))
                        obtain ⟨k1780, h1766⟩ := h1766
                        have h1781 := h1766
                        obtain ⟨q1783, k1782⟩ := h1781
                        refine lv_istore (lv' := [(4, .int r1767), (3, .int r1705), (5, .int (σ1616 9 1)), (2, .int x24), (0, .ref (ad 9)), (1, .ref (ad 16))]) hx hb dX7_readOrder_131 hl (by decide) rfl (fun ls hl => ?_)
                        refine lv_aload_n hx hb dX7_readOrder_133 rfl (lv_at hl 4 rfl) ?_
                        refine jcallV (As := []) (rest := []) ⟨hx, hb, hml, hown, hts⟩ hK hP hA hS hZ (c_X7_end_9 l D cI cL ad zz hJ σ1766 τ I1770 I1771 I1772) cw_RX7_57 (jc_9 cI cL ad σ1766 τ) rfl ⟨Nat.le_of_ble_eq_true rfl, Nat.le_of_ble_eq_true rfl⟩ rfl rfl rfl hl.1 rfl (Nat.le_of_ble_eq_true rfl) dX7_readOrder_134 ⟨Nat.zero_le _, Nat.zero_le _⟩ (fun r1785 σ1784 τ1784 H locs h1784 hP hS => ?_)
                        obtain ⟨rfl, f1786, f1787, I1788, I1789, h1784⟩ := h1784
                        obtain ⟨i1790, w1791, w1792⟩ : (0 ≤ (σ1784 9 0).toInt ∧ (σ1784 9 0).toInt ≤ 80) ∧ (∀ k : Nat, k < 80 → 0 ≤ (σ1784 10 k).toInt ∧ (σ1784 10 k).toInt ≤ 255) ∧ (∀ k : Nat, k < 8 → 0 ≤ (σ1784 11 k).toInt ∧ (σ1784 11 k).toInt ≤ 3) := id I1788
                        have i1793 : (-1) ≤ (σ1784 9 2).toInt := I1789
                        obtain ⟨k1794, h1784⟩ := h1784
                        rcases h1784 with h1795 | h1796
                        · obtain ⟨q1798, k1797⟩ := h1795
                          exact absurd (by omega : False) id
                        · obtain ⟨q1800, k1799⟩ := h1796
                          refine lv_istore (lv' := [(5, .int r1785), (4, .int r1767), (3, .int r1705), (2, .int x24), (0, .ref (ad 9)), (1, .ref (ad 16))]) hx hb dX7_readOrder_137 hl (by decide) rfl (fun ls hl => ?_)
                          refine lv_iload hx hb dX7_readOrder_139 (lv_at hl 0 rfl) ?_
                          refine lv_iconst (v := (-1)) hx hb dX7_readOrder_141 (by decide) ?_
                          refine lv_icmp_eq (tgt := 148) hx hb dX7_readOrder_142 (by decide) (fun c => absurd (jeq c rfl jz_m1) (by omega)) (fun c1801 => ?_)
                          have kc1801 := jne c1801 rfl jz_m1
                          refine lv_iload hx hb dX7_readOrder_145 (lv_at hl 0 rfl) ?_
                          have I1802 : jI16 σ1784 := jI16_fr ((congrFun (f1786 16 (by decide)) 0).trans ((congrFun (f1768 16 (by decide)) 0).trans ((congrFun (f1733 16 (by decide)) 0).trans ((congrFun (f1725 16 (by decide)) 0).trans ((congrFun (f1706 16 (by decide)) 0).trans ((congrFun (f1618 16 (by decide)) 0).trans ((congrFun (f1608 16 (by decide)) 0).trans ((congrFun (f31 16 (by decide)) 0).trans (congrFun (f10 16 (by decide)) 0))))))))) ((congrFun (f1786 16 (by decide)) 1).trans ((congrFun (f1768 16 (by decide)) 1).trans ((congrFun (f1733 16 (by decide)) 1).trans ((congrFun (f1725 16 (by decide)) 1).trans ((congrFun (f1706 16 (by decide)) 1).trans ((congrFun (f1618 16 (by decide)) 1).trans ((congrFun (f1608 16 (by decide)) 1).trans ((congrFun (f31 16 (by decide)) 1).trans (congrFun (f10 16 (by decide)) 1))))))))) ((congrFun (f1786 16 (by decide)) 2).trans ((congrFun (f1768 16 (by decide)) 2).trans ((congrFun (f1733 16 (by decide)) 2).trans ((congrFun (f1725 16 (by decide)) 2).trans ((congrFun (f1706 16 (by decide)) 2).trans ((congrFun (f1618 16 (by decide)) 2).trans ((congrFun (f1608 16 (by decide)) 2).trans ((congrFun (f31 16 (by decide)) 2).trans (congrFun (f10 16 (by decide)) 2))))))))) ((f1786 17 (by decide)).trans ((f1768 17 (by decide)).trans ((f1733 17 (by decide)).trans ((f1725 17 (by decide)).trans ((f1706 17 (by decide)).trans ((f1618 17 (by decide)).trans ((f1608 17 (by decide)).trans ((f31 17 (by decide)).trans (f10 17 (by decide)))))))))) hI16
                          exact hret r1785 σ1784 τ _ _ _ _ rfl ⟨rfl, (fun i hi => ((f1786 i (imp_46 i hi)).trans ((f1768 i (imp_46 i hi)).trans ((f1733 i (imp_46 i hi)).trans ((f1725 i (imp_46 i hi)).trans ((f1706 i (imp_46 i hi)).trans ((f1618 i (imp_46 i hi)).trans ((f1608 i (imp_46 i hi)).trans ((f31 i (imp_47 i hi)).trans (f10 i (imp_46 i hi))))))))))), (fun i hi => ((f1787 i (imp_48 i hi)).trans ((f1769 i (imp_50 i hi)).trans ((f1734 i (imp_49 i hi)).trans ((f1726 i (imp_54 i hi)).trans ((f1707 i (imp_50 i hi)).trans ((f1619 i (imp_49 i hi)).trans ((f1609 i (imp_54 i hi)).trans ((f32 i (imp_49 i hi)).trans (f11 i (imp_50 i hi))))))))))), (fun i hi => ((congrFun (f1786 16 (by decide)) i).trans ((congrFun (f1768 16 (by decide)) i).trans ((congrFun (f1733 16 (by decide)) i).trans ((congrFun (f1725 16 (by decide)) i).trans ((congrFun (f1706 16 (by decide)) i).trans ((congrFun (f1618 16 (by decide)) i).trans ((congrFun (f1608 16 (by decide)) i).trans ((congrFun (f31 16 (by decide)) i).trans (congrFun (f10 16 (by decide)) i)))))))))), I1788, I1802, (by omega), trivial⟩ hP hS dX7_readOrder_147
                    · have kc1722 := jnlt c1722 rfl jz_1
                      refine lv_iload_n hx hb dX7_readOrder_105 rfl (lv_at hl 0 rfl) ?_
                      refine lv_bipush (v := 12) hx hb dX7_readOrder_106 (by decide) ?_
                      refine lv_icmp_le (tgt := 117) hx hb dX7_readOrder_108 (by decide) (fun c1803 => ?_) (fun c1803 => ?_)
                      · have kc1803 := jle c1803 rfl jz_12
                        refine lv_aload_n hx hb dX7_readOrder_117 rfl (lv_at hl 4 rfl) ?_
                        refine lv_bipush (v := 114) hx hb dX7_readOrder_118 (by decide) ?_
                        refine jcallV (As := [.int 114]) (rest := []) ⟨hx, hb, hml, hown, hts⟩ hK hP hA hS hZ (c_X7_skip_9 l D cI cL ad zz hJ σ1704 τ 114 (114) jz_114 I1708 I1709 I1710 (by omega)) cw_RX7_50 (jc_9 cI cL ad σ1704 τ) rfl ⟨Nat.le_of_ble_eq_true rfl, Nat.le_of_ble_eq_true rfl⟩ rfl rfl rfl hl.1 rfl (Nat.le_of_ble_eq_true rfl) dX7_readOrder_120 ⟨Nat.zero_le _, Nat.zero_le _⟩ (fun r1805 σ1804 τ1804 H locs h1804 hP hS => ?_)
                        obtain ⟨rfl, f1806, f1807, I1808, I1809, I1810, h1804⟩ := h1804
                        obtain ⟨i1811, w1812, w1813⟩ : (0 ≤ (σ1804 9 0).toInt ∧ (σ1804 9 0).toInt ≤ 80) ∧ (∀ k : Nat, k < 80 → 0 ≤ (σ1804 10 k).toInt ∧ (σ1804 10 k).toInt ≤ 255) ∧ (∀ k : Nat, k < 8 → 0 ≤ (σ1804 11 k).toInt ∧ (σ1804 11 k).toInt ≤ 3) := id I1808
                        obtain ⟨i1814, i1815⟩ : (0 ≤ (σ1804 9 1).toInt) ∧ ((σ1804 9 1).toInt ≤ (σ1804 9 0).toInt) := id I1809
                        have i1816 : (-1) ≤ (σ1804 9 2).toInt := I1810
                        have z1817 : (σ1804 9 0).toInt = (σ 9 0).toInt := (congrArg Int32.toInt (show σ1804 9 0 = (σ 9 0) from ((f1807 0 (by decide)).trans ((f1707 0 (by decide)).trans ((f1619 0 (by decide)).trans ((f1609 0 (by decide)).trans ((f32 0 (by decide)).trans (f11 0 (by decide)))))))))
                        have z1818 : (σ1804 9 2).toInt = (σ1704 9 2).toInt := (congrArg Int32.toInt (show σ1804 9 2 = (σ1704 9 2) from (f1807 2 (by decide))))
                        refine lv_if_eq (tgt := 133) hx hb dX7_readOrder_123 (by decide) (fun c1819 => ?_) (fun c1819 => ?_)
                        · have kc1819 := jeq c1819 rfl jz_0
                          refine lv_aload_n hx hb dX7_readOrder_133 rfl (lv_at hl 4 rfl) ?_
                          refine jcallV (As := []) (rest := []) ⟨hx, hb, hml, hown, hts⟩ hK hP hA hS hZ (c_X7_end_9 l D cI cL ad zz hJ σ1804 τ I1808 I1809 I1810) cw_RX7_57 (jc_9 cI cL ad σ1804 τ) rfl ⟨Nat.le_of_ble_eq_true rfl, Nat.le_of_ble_eq_true rfl⟩ rfl rfl rfl hl.1 rfl (Nat.le_of_ble_eq_true rfl) dX7_readOrder_134 ⟨Nat.zero_le _, Nat.zero_le _⟩ (fun r1821 σ1820 τ1820 H locs h1820 hP hS => ?_)
                          obtain ⟨rfl, f1822, f1823, I1824, I1825, h1820⟩ := h1820
                          obtain ⟨i1826, w1827, w1828⟩ : (0 ≤ (σ1820 9 0).toInt ∧ (σ1820 9 0).toInt ≤ 80) ∧ (∀ k : Nat, k < 80 → 0 ≤ (σ1820 10 k).toInt ∧ (σ1820 10 k).toInt ≤ 255) ∧ (∀ k : Nat, k < 8 → 0 ≤ (σ1820 11 k).toInt ∧ (σ1820 11 k).toInt ≤ 3) := id I1824
                          have i1829 : (-1) ≤ (σ1820 9 2).toInt := I1825
                          obtain ⟨k1830, h1820⟩ := h1820
                          rcases h1820 with h1831 | h1832
                          · obtain ⟨q1834, k1833⟩ := h1831
                            exact absurd (by omega : False) id
                          · obtain ⟨q1836, k1835⟩ := h1832
                            refine lv_istore (lv' := [(5, .int r1821), (3, .int r1705), (4, .int 0), (2, .int x24), (0, .ref (ad 9)), (1, .ref (ad 16))]) hx hb dX7_readOrder_137 hl (by decide) rfl (fun ls hl => ?_)
                            refine lv_iload hx hb dX7_readOrder_139 (lv_at hl 0 rfl) ?_
                            refine lv_iconst (v := (-1)) hx hb dX7_readOrder_141 (by decide) ?_
                            refine lv_icmp_eq (tgt := 148) hx hb dX7_readOrder_142 (by decide) (fun c => absurd (jeq c rfl jz_m1) (by omega)) (fun c1837 => ?_)
                            have kc1837 := jne c1837 rfl jz_m1
                            refine lv_iload hx hb dX7_readOrder_145 (lv_at hl 0 rfl) ?_
                            have I1838 : jI16 σ1820 := jI16_fr ((congrFun (f1822 16 (by decide)) 0).trans ((congrFun (f1806 16 (by decide)) 0).trans ((congrFun (f1706 16 (by decide)) 0).trans ((congrFun (f1618 16 (by decide)) 0).trans ((congrFun (f1608 16 (by decide)) 0).trans ((congrFun (f31 16 (by decide)) 0).trans (congrFun (f10 16 (by decide)) 0))))))) ((congrFun (f1822 16 (by decide)) 1).trans ((congrFun (f1806 16 (by decide)) 1).trans ((congrFun (f1706 16 (by decide)) 1).trans ((congrFun (f1618 16 (by decide)) 1).trans ((congrFun (f1608 16 (by decide)) 1).trans ((congrFun (f31 16 (by decide)) 1).trans (congrFun (f10 16 (by decide)) 1))))))) ((congrFun (f1822 16 (by decide)) 2).trans ((congrFun (f1806 16 (by decide)) 2).trans ((congrFun (f1706 16 (by decide)) 2).trans ((congrFun (f1618 16 (by decide)) 2).trans ((congrFun (f1608 16 (by decide)) 2).trans ((congrFun (f31 16 (by decide)) 2).trans (congrFun (f10 16 (by decide)) 2))))))) ((f1822 17 (by decide)).trans ((f1806 17 (by decide)).trans ((f1706 17 (by decide)).trans ((f1618 17 (by decide)).trans ((f1608 17 (by decide)).trans ((f31 17 (by decide)).trans (f10 17 (by decide)))))))) hI16
                            exact hret r1821 σ1820 τ _ _ _ _ rfl ⟨rfl, (fun i hi => ((f1822 i (imp_46 i hi)).trans ((f1806 i (imp_46 i hi)).trans ((f1706 i (imp_46 i hi)).trans ((f1618 i (imp_46 i hi)).trans ((f1608 i (imp_46 i hi)).trans ((f31 i (imp_47 i hi)).trans (f10 i (imp_46 i hi))))))))), (fun i hi => ((f1823 i (imp_48 i hi)).trans ((f1807 i (imp_49 i hi)).trans ((f1707 i (imp_50 i hi)).trans ((f1619 i (imp_49 i hi)).trans ((f1609 i (imp_54 i hi)).trans ((f32 i (imp_49 i hi)).trans (f11 i (imp_50 i hi))))))))), (fun i hi => ((congrFun (f1822 16 (by decide)) i).trans ((congrFun (f1806 16 (by decide)) i).trans ((congrFun (f1706 16 (by decide)) i).trans ((congrFun (f1618 16 (by decide)) i).trans ((congrFun (f1608 16 (by decide)) i).trans ((congrFun (f31 16 (by decide)) i).trans (congrFun (f10 16 (by decide)) i)))))))), I1824, I1838, (by omega), trivial⟩ hP hS dX7_readOrder_147
                        · have kc1819 := jne c1819 rfl jz_0
                          refine lv_aload_n hx hb dX7_readOrder_126 rfl (lv_at hl 4 rfl) ?_
                          refine lv_iconst (v := 3) hx hb dX7_readOrder_127 (by decide) ?_
                          refine jcallV (As := [.int 3]) (rest := []) ⟨hx, hb, hml, hown, hts⟩ hK hP hA hS hZ (c_X7_number_3 l D cI cL ad zz hJ σ1804 τ I1808 I1809 I1810) cw_RX7_53 (jc_9 cI cL ad σ1804 τ) rfl ⟨Nat.le_of_ble_eq_true rfl, Nat.le_of_ble_eq_true rfl⟩ rfl rfl rfl hl.1 rfl (Nat.le_of_ble_eq_true rfl) dX7_readOrder_128 ⟨Nat.zero_le _, Nat.zero_le _⟩ (fun r1840 σ1839 τ1839 H locs h1839 hP hS => ?_)
                          obtain ⟨rfl, f1841, f1842, I1843, I1844, I1845, h1839⟩ := h1839
                          obtain ⟨i1846, w1847, w1848⟩ : (0 ≤ (σ1839 9 0).toInt ∧ (σ1839 9 0).toInt ≤ 80) ∧ (∀ k : Nat, k < 80 → 0 ≤ (σ1839 10 k).toInt ∧ (σ1839 10 k).toInt ≤ 255) ∧ (∀ k : Nat, k < 8 → 0 ≤ (σ1839 11 k).toInt ∧ (σ1839 11 k).toInt ≤ 3) := id I1843
                          obtain ⟨i1849, i1850⟩ : (0 ≤ (σ1839 9 1).toInt) ∧ ((σ1839 9 1).toInt ≤ (σ1839 9 0).toInt) := id I1844
                          have i1851 : (-1) ≤ (σ1839 9 2).toInt := I1845
                          have z1852 : (σ1839 9 0).toInt = (σ 9 0).toInt := (congrArg Int32.toInt (show σ1839 9 0 = (σ 9 0) from ((f1842 0 (by decide)).trans ((f1807 0 (by decide)).trans ((f1707 0 (by decide)).trans ((f1619 0 (by decide)).trans ((f1609 0 (by decide)).trans ((f32 0 (by decide)).trans (f11 0 (by decide))))))))))
                          obtain ⟨k1853, h1839⟩ := h1839
                          have h1854 := h1839
                          obtain ⟨q1856, k1855⟩ := h1854
                          refine lv_istore (lv' := [(4, .int r1840), (3, .int r1705), (5, .int (σ1616 9 1)), (2, .int x24), (0, .ref (ad 9)), (1, .ref (ad 16))]) hx hb dX7_readOrder_131 hl (by decide) rfl (fun ls hl => ?_)
                          refine lv_aload_n hx hb dX7_readOrder_133 rfl (lv_at hl 4 rfl) ?_
                          refine jcallV (As := []) (rest := []) ⟨hx, hb, hml, hown, hts⟩ hK hP hA hS hZ (c_X7_end_9 l D cI cL ad zz hJ σ1839 τ I1843 I1844 I1845) cw_RX7_57 (jc_9 cI cL ad σ1839 τ) rfl ⟨Nat.le_of_ble_eq_true rfl, Nat.le_of_ble_eq_true rfl⟩ rfl rfl rfl hl.1 rfl (Nat.le_of_ble_eq_true rfl) dX7_readOrder_134 ⟨Nat.zero_le _, Nat.zero_le _⟩ (fun r1858 σ1857 τ1857 H locs h1857 hP hS => ?_)
                          obtain ⟨rfl, f1859, f1860, I1861, I1862, h1857⟩ := h1857
                          obtain ⟨i1863, w1864, w1865⟩ : (0 ≤ (σ1857 9 0).toInt ∧ (σ1857 9 0).toInt ≤ 80) ∧ (∀ k : Nat, k < 80 → 0 ≤ (σ1857 10 k).toInt ∧ (σ1857 10 k).toInt ≤ 255) ∧ (∀ k : Nat, k < 8 → 0 ≤ (σ1857 11 k).toInt ∧ (σ1857 11 k).toInt ≤ 3) := id I1861
                          have i1866 : (-1) ≤ (σ1857 9 2).toInt := I1862
                          obtain ⟨k1867, h1857⟩ := h1857
                          rcases h1857 with h1868 | h1869
                          · obtain ⟨q1871, k1870⟩ := h1868
                            exact absurd (by omega : False) id
                          · obtain ⟨q1873, k1872⟩ := h1869
                            refine lv_istore (lv' := [(5, .int r1858), (4, .int r1840), (3, .int r1705), (2, .int x24), (0, .ref (ad 9)), (1, .ref (ad 16))]) hx hb dX7_readOrder_137 hl (by decide) rfl (fun ls hl => ?_)
                            refine lv_iload hx hb dX7_readOrder_139 (lv_at hl 0 rfl) ?_
                            refine lv_iconst (v := (-1)) hx hb dX7_readOrder_141 (by decide) ?_
                            refine lv_icmp_eq (tgt := 148) hx hb dX7_readOrder_142 (by decide) (fun c => absurd (jeq c rfl jz_m1) (by omega)) (fun c1874 => ?_)
                            have kc1874 := jne c1874 rfl jz_m1
                            refine lv_iload hx hb dX7_readOrder_145 (lv_at hl 0 rfl) ?_
                            have I1875 : jI16 σ1857 := jI16_fr ((congrFun (f1859 16 (by decide)) 0).trans ((congrFun (f1841 16 (by decide)) 0).trans ((congrFun (f1806 16 (by decide)) 0).trans ((congrFun (f1706 16 (by decide)) 0).trans ((congrFun (f1618 16 (by decide)) 0).trans ((congrFun (f1608 16 (by decide)) 0).trans ((congrFun (f31 16 (by decide)) 0).trans (congrFun (f10 16 (by decide)) 0)))))))) ((congrFun (f1859 16 (by decide)) 1).trans ((congrFun (f1841 16 (by decide)) 1).trans ((congrFun (f1806 16 (by decide)) 1).trans ((congrFun (f1706 16 (by decide)) 1).trans ((congrFun (f1618 16 (by decide)) 1).trans ((congrFun (f1608 16 (by decide)) 1).trans ((congrFun (f31 16 (by decide)) 1).trans (congrFun (f10 16 (by decide)) 1)))))))) ((congrFun (f1859 16 (by decide)) 2).trans ((congrFun (f1841 16 (by decide)) 2).trans ((congrFun (f1806 16 (by decide)) 2).trans ((congrFun (f1706 16 (by decide)) 2).trans ((congrFun (f1618 16 (by decide)) 2).trans ((congrFun (f1608 16 (by decide)) 2).trans ((congrFun (f31 16 (by decide)) 2).trans (congrFun (f10 16 (by decide)) 2)))))))) ((f1859 17 (by decide)).trans ((f1841 17 (by decide)).trans ((f1806 17 (by decide)).trans ((f1706 17 (by decide)).trans ((f1618 17 (by decide)).trans ((f1608 17 (by decide)).trans ((f31 17 (by decide)).trans (f10 17 (by decide))))))))) hI16
                            exact hret r1858 σ1857 τ _ _ _ _ rfl ⟨rfl, (fun i hi => ((f1859 i (imp_46 i hi)).trans ((f1841 i (imp_46 i hi)).trans ((f1806 i (imp_46 i hi)).trans ((f1706 i (imp_46 i hi)).trans ((f1618 i (imp_46 i hi)).trans ((f1608 i (imp_46 i hi)).trans ((f31 i (imp_47 i hi)).trans (f10 i (imp_46 i hi)))))))))), (fun i hi => ((f1860 i (imp_48 i hi)).trans ((f1842 i (imp_50 i hi)).trans ((f1807 i (imp_49 i hi)).trans ((f1707 i (imp_50 i hi)).trans ((f1619 i (imp_49 i hi)).trans ((f1609 i (imp_54 i hi)).trans ((f32 i (imp_49 i hi)).trans (f11 i (imp_50 i hi)))))))))), (fun i hi => ((congrFun (f1859 16 (by decide)) i).trans ((congrFun (f1841 16 (by decide)) i).trans ((congrFun (f1806 16 (by decide)) i).trans ((congrFun (f1706 16 (by decide)) i).trans ((congrFun (f1618 16 (by decide)) i).trans ((congrFun (f1608 16 (by decide)) i).trans ((congrFun (f31 16 (by decide)) i).trans (congrFun (f10 16 (by decide)) i))))))))), I1861, I1875, (by omega), trivial⟩ hP hS dX7_readOrder_147
                      · have kc1803 := jnle c1803 rfl jz_12
                        refine lv_aload_n hx hb dX7_readOrder_111 rfl (lv_at hl 4 rfl) ?_
                        refine lv_iload hx hb dX7_readOrder_112 (lv_at hl 1 rfl) ?_
                        refine jcallVv (As := [.int (σ1616 9 1)]) (rest := []) ⟨hx, hb, hml, hown, hts⟩ hK hP hA hS hZ (c_X7_fail_9 l D cI cL ad zz hJ σ1704 τ (σ1616 9 1) ((σ1616 9 1).toInt) rfl I1710 (by omega)) cw_RX7_43 (jc_9 cI cL ad σ1704 τ) rfl ⟨Nat.le_of_ble_eq_true rfl, Nat.le_of_ble_eq_true rfl⟩ rfl rfl rfl hl.1 rfl (Nat.le_of_ble_eq_true rfl) dX7_readOrder_114 ⟨Nat.zero_le _, Nat.zero_le _⟩ (fun σ1876 τ1876 H locs h1876 hP hS => ?_)
                        obtain ⟨rfl, f1878, f1879, h1876⟩ := h1876
                        obtain ⟨k1880, h1876⟩ := h1876
                        refine lv_aload_n hx hb dX7_readOrder_117 rfl (lv_at hl 4 rfl) ?_
                        refine lv_bipush (v := 114) hx hb dX7_readOrder_118 (by decide) ?_
                        have I1881 : jI9 σ1876 := jI9_fr (f1879 0 (by decide)) (f1878 10 (by decide)) (f1878 11 (by decide)) I1708
                        have I1882 : jI91 σ1876 := jI91_fr (f1879 0 (by decide)) (f1879 1 (by decide)) I1709
                        have I1883 : jI92 σ1876 := (show (-1) ≤ (σ1876 9 2).toInt by omega)
                        refine jcallV (As := [.int 114]) (rest := []) ⟨hx, hb, hml, hown, hts⟩ hK hP hA hS hZ (c_X7_skip_9 l D cI cL ad zz hJ σ1876 τ 114 (114) jz_114 I1881 I1882 I1883 (by omega)) cw_RX7_50 (jc_9 cI cL ad σ1876 τ) rfl ⟨Nat.le_of_ble_eq_true rfl, Nat.le_of_ble_eq_true rfl⟩ rfl rfl rfl hl.1 rfl (Nat.le_of_ble_eq_true rfl) dX7_readOrder_120 ⟨Nat.zero_le _, Nat.zero_le _⟩ (fun r1885 σ1884 τ1884 H locs h1884 hP hS => ?_)
                        obtain ⟨rfl, f1886, f1887, I1888, I1889, I1890, h1884⟩ := h1884
                        obtain ⟨i1891, w1892, w1893⟩ : (0 ≤ (σ1884 9 0).toInt ∧ (σ1884 9 0).toInt ≤ 80) ∧ (∀ k : Nat, k < 80 → 0 ≤ (σ1884 10 k).toInt ∧ (σ1884 10 k).toInt ≤ 255) ∧ (∀ k : Nat, k < 8 → 0 ≤ (σ1884 11 k).toInt ∧ (σ1884 11 k).toInt ≤ 3) := id I1888
                        obtain ⟨i1894, i1895⟩ : (0 ≤ (σ1884 9 1).toInt) ∧ ((σ1884 9 1).toInt ≤ (σ1884 9 0).toInt) := id I1889
                        have i1896 : (-1) ≤ (σ1884 9 2).toInt := I1890
                        have z1897 : (σ1884 9 0).toInt = (σ 9 0).toInt := (congrArg Int32.toInt (show σ1884 9 0 = (σ 9 0) from ((f1887 0 (by decide)).trans ((f1879 0 (by decide)).trans ((f1707 0 (by decide)).trans ((f1619 0 (by decide)).trans ((f1609 0 (by decide)).trans ((f32 0 (by decide)).trans (f11 0 (by decide))))))))))
                        have z1898 : (σ1884 9 2).toInt = (σ1876 9 2).toInt := (congrArg Int32.toInt (show σ1884 9 2 = (σ1876 9 2) from (f1887 2 (by decide))))
                        refine lv_if_eq (tgt := 133) hx hb dX7_readOrder_123 (by decide) (fun c1899 => ?_) (fun c1899 => ?_)
                        · have kc1899 := jeq c1899 rfl jz_0
                          refine lv_aload_n hx hb dX7_readOrder_133 rfl (lv_at hl 4 rfl) ?_
                          refine jcallV (As := []) (rest := []) ⟨hx, hb, hml, hown, hts⟩ hK hP hA hS hZ (c_X7_end_9 l D cI cL ad zz hJ σ1884 τ I1888 I1889 I1890) cw_RX7_57 (jc_9 cI cL ad σ1884 τ) rfl ⟨Nat.le_of_ble_eq_true rfl, Nat.le_of_ble_eq_true rfl⟩ rfl rfl rfl hl.1 rfl (Nat.le_of_ble_eq_true rfl) dX7_readOrder_134 ⟨Nat.zero_le _, Nat.zero_le _⟩ (fun r1901 σ1900 τ1900 H locs h1900 hP hS => ?_)
                          obtain ⟨rfl, f1902, f1903, I1904, I1905, h1900⟩ := h1900
                          obtain ⟨i1906, w1907, w1908⟩ : (0 ≤ (σ1900 9 0).toInt ∧ (σ1900 9 0).toInt ≤ 80) ∧ (∀ k : Nat, k < 80 → 0 ≤ (σ1900 10 k).toInt ∧ (σ1900 10 k).toInt ≤ 255) ∧ (∀ k : Nat, k < 8 → 0 ≤ (σ1900 11 k).toInt ∧ (σ1900 11 k).toInt ≤ 3) := id I1904
                          have i1909 : (-1) ≤ (σ1900 9 2).toInt := I1905
                          obtain ⟨k1910, h1900⟩ := h1900
                          rcases h1900 with h1911 | h1912
                          · obtain ⟨q1914, k1913⟩ := h1911
                            exact absurd (by omega : False) id
                          · obtain ⟨q1916, k1915⟩ := h1912
                            refine lv_istore (lv' := [(5, .int r1901), (3, .int r1705), (4, .int 0), (2, .int x24), (0, .ref (ad 9)), (1, .ref (ad 16))]) hx hb dX7_readOrder_137 hl (by decide) rfl (fun ls hl => ?_)
                            refine lv_iload hx hb dX7_readOrder_139 (lv_at hl 0 rfl) ?_
                            refine lv_iconst (v := (-1)) hx hb dX7_readOrder_141 (by decide) ?_
                            refine lv_icmp_eq (tgt := 148) hx hb dX7_readOrder_142 (by decide) (fun c => absurd (jeq c rfl jz_m1) (by omega)) (fun c1917 => ?_)
                            have kc1917 := jne c1917 rfl jz_m1
                            refine lv_iload hx hb dX7_readOrder_145 (lv_at hl 0 rfl) ?_
                            have I1918 : jI16 σ1900 := jI16_fr ((congrFun (f1902 16 (by decide)) 0).trans ((congrFun (f1886 16 (by decide)) 0).trans ((congrFun (f1878 16 (by decide)) 0).trans ((congrFun (f1706 16 (by decide)) 0).trans ((congrFun (f1618 16 (by decide)) 0).trans ((congrFun (f1608 16 (by decide)) 0).trans ((congrFun (f31 16 (by decide)) 0).trans (congrFun (f10 16 (by decide)) 0)))))))) ((congrFun (f1902 16 (by decide)) 1).trans ((congrFun (f1886 16 (by decide)) 1).trans ((congrFun (f1878 16 (by decide)) 1).trans ((congrFun (f1706 16 (by decide)) 1).trans ((congrFun (f1618 16 (by decide)) 1).trans ((congrFun (f1608 16 (by decide)) 1).trans ((congrFun (f31 16 (by decide)) 1).trans (congrFun (f10 16 (by decide)) 1)))))))) ((congrFun (f1902 16 (by decide)) 2).trans ((congrFun (f1886 16 (by decide)) 2).trans ((congrFun (f1878 16 (by decide)) 2).trans ((congrFun (f1706 16 (by decide)) 2).trans ((congrFun (f1618 16 (by decide)) 2).trans ((congrFun (f1608 16 (by decide)) 2).trans ((congrFun (f31 16 (by decide)) 2).trans (congrFun (f10 16 (by decide)) 2)))))))) ((f1902 17 (by decide)).trans ((f1886 17 (by decide)).trans ((f1878 17 (by decide)).trans ((f1706 17 (by decide)).trans ((f1618 17 (by decide)).trans ((f1608 17 (by decide)).trans ((f31 17 (by decide)).trans (f10 17 (by decide))))))))) hI16
                            exact hret r1901 σ1900 τ _ _ _ _ rfl ⟨rfl, (fun i hi => ((f1902 i (imp_46 i hi)).trans ((f1886 i (imp_46 i hi)).trans ((f1878 i (imp_46 i hi)).trans ((f1706 i (imp_46 i hi)).trans ((f1618 i (imp_46 i hi)).trans ((f1608 i (imp_46 i hi)).trans ((f31 i (imp_47 i hi)).trans (f10 i (imp_46 i hi)))))))))), (fun i hi => ((f1903 i (imp_48 i hi)).trans ((f1887 i (imp_49 i hi)).trans ((f1879 i (imp_54 i hi)).trans ((f1707 i (imp_50 i hi)).trans ((f1619 i (imp_49 i hi)).trans ((f1609 i (imp_54 i hi)).trans ((f32 i (imp_49 i hi)).trans (f11 i (imp_50 i hi)))))))))), (fun i hi => ((congrFun (f1902 16 (by decide)) i).trans ((congrFun (f1886 16 (by decide)) i).trans ((congrFun (f1878 16 (by decide)) i).trans ((congrFun (f1706 16 (by decide)) i).trans ((congrFun (f1618 16 (by decide)) i).trans ((congrFun (f1608 16 (by decide)) i).trans ((congrFun (f31 16 (by decide)) i).trans (congrFun (f10 16 (by decide)) i))))))))), I1904, I1918, (by omega), trivial⟩ hP hS dX7_readOrder_147
                        · have kc1899 := jne c1899 rfl jz_0
                          refine lv_aload_n hx hb dX7_readOrder_126 rfl (lv_at hl 4 rfl) ?_
                          refine lv_iconst (v := 3) hx hb dX7_readOrder_127 (by decide) ?_
                          refine jcallV (As := [.int 3]) (rest := []) ⟨hx, hb, hml, hown, hts⟩ hK hP hA hS hZ (c_X7_number_3 l D cI cL ad zz hJ σ1884 τ I1888 I1889 I1890) cw_RX7_53 (jc_9 cI cL ad σ1884 τ) rfl ⟨Nat.le_of_ble_eq_true rfl, Nat.le_of_ble_eq_true rfl⟩ rfl rfl rfl hl.1 rfl (Nat.le_of_ble_eq_true rfl) dX7_readOrder_128 ⟨Nat.zero_le _, Nat.zero_le _⟩ (fun r1920 σ1919 τ1919 H locs h1919 hP hS => ?_)
                          obtain ⟨rfl, f1921, f1922, I1923, I1924, I1925, h1919⟩ := h1919
                          obtain ⟨i1926, w1927, w1928⟩ : (0 ≤ (σ1919 9 0).toInt ∧ (σ1919 9 0).toInt ≤ 80) ∧ (∀ k : Nat, k < 80 → 0 ≤ (σ1919 10 k).toInt ∧ (σ1919 10 k).toInt ≤ 255) ∧ (∀ k : Nat, k < 8 → 0 ≤ (σ1919 11 k).toInt ∧ (σ1919 11 k).toInt ≤ 3) := id I1923
                          obtain ⟨i1929, i1930⟩ : (0 ≤ (σ1919 9 1).toInt) ∧ ((σ1919 9 1).toInt ≤ (σ1919 9 0).toInt) := id I1924
                          have i1931 : (-1) ≤ (σ1919 9 2).toInt := I1925
                          have z1932 : (σ1919 9 0).toInt = (σ 9 0).toInt := (congrArg Int32.toInt (show σ1919 9 0 = (σ 9 0) from ((f1922 0 (by decide)).trans ((f1887 0 (by decide)).trans ((f1879 0 (by decide)).trans ((f1707 0 (by decide)).trans ((f1619 0 (by decide)).trans ((f1609 0 (by decide)).trans ((f32 0 (by decide)).trans (f11 0 (by decide)))))))))))
                          obtain ⟨k1933, h1919⟩ := h1919
                          have h1934 := h1919
                          obtain ⟨q1936, k1935⟩ := h1934
                          refine lv_istore (lv' := [(4, .int r1920), (3, .int r1705), (5, .int (σ1616 9 1)), (2, .int x24), (0, .ref (ad 9)), (1, .ref (ad 16))]) hx hb dX7_readOrder_131 hl (by decide) rfl (fun ls hl => ?_)
                          refine lv_aload_n hx hb dX7_readOrder_133 rfl (lv_at hl 4 rfl) ?_
                          refine jcallV (As := []) (rest := []) ⟨hx, hb, hml, hown, hts⟩ hK hP hA hS hZ (c_X7_end_9 l D cI cL ad zz hJ σ1919 τ I1923 I1924 I1925) cw_RX7_57 (jc_9 cI cL ad σ1919 τ) rfl ⟨Nat.le_of_ble_eq_true rfl, Nat.le_of_ble_eq_true rfl⟩ rfl rfl rfl hl.1 rfl (Nat.le_of_ble_eq_true rfl) dX7_readOrder_134 ⟨Nat.zero_le _, Nat.zero_le _⟩ (fun r1938 σ1937 τ1937 H locs h1937 hP hS => ?_)
                          obtain ⟨rfl, f1939, f1940, I1941, I1942, h1937⟩ := h1937
                          obtain ⟨i1943, w1944, w1945⟩ : (0 ≤ (σ1937 9 0).toInt ∧ (σ1937 9 0).toInt ≤ 80) ∧ (∀ k : Nat, k < 80 → 0 ≤ (σ1937 10 k).toInt ∧ (σ1937 10 k).toInt ≤ 255) ∧ (∀ k : Nat, k < 8 → 0 ≤ (σ1937 11 k).toInt ∧ (σ1937 11 k).toInt ≤ 3) := id I1941
                          have i1946 : (-1) ≤ (σ1937 9 2).toInt := I1942
                          obtain ⟨k1947, h1937⟩ := h1937
                          rcases h1937 with h1948 | h1949
                          · obtain ⟨q1951, k1950⟩ := h1948
                            exact absurd (by omega : False) id
                          · obtain ⟨q1953, k1952⟩ := h1949
                            refine lv_istore (lv' := [(5, .int r1938), (4, .int r1920), (3, .int r1705), (2, .int x24), (0, .ref (ad 9)), (1, .ref (ad 16))]) hx hb dX7_readOrder_137 hl (by decide) rfl (fun ls hl => ?_)
                            refine lv_iload hx hb dX7_readOrder_139 (lv_at hl 0 rfl) ?_
                            refine lv_iconst (v := (-1)) hx hb dX7_readOrder_141 (by decide) ?_
                            refine lv_icmp_eq (tgt := 148) hx hb dX7_readOrder_142 (by decide) (fun c => absurd (jeq c rfl jz_m1) (by omega)) (fun c1954 => ?_)
                            have kc1954 := jne c1954 rfl jz_m1
                            refine lv_iload hx hb dX7_readOrder_145 (lv_at hl 0 rfl) ?_
                            have I1955 : jI16 σ1937 := jI16_fr ((congrFun (f1939 16 (by decide)) 0).trans ((congrFun (f1921 16 (by decide)) 0).trans ((congrFun (f1886 16 (by decide)) 0).trans ((congrFun (f1878 16 (by decide)) 0).trans ((congrFun (f1706 16 (by decide)) 0).trans ((congrFun (f1618 16 (by decide)) 0).trans ((congrFun (f1608 16 (by decide)) 0).trans ((congrFun (f31 16 (by decide)) 0).trans (congrFun (f10 16 (by decide)) 0))))))))) ((congrFun (f1939 16 (by decide)) 1).trans ((congrFun (f1921 16 (by decide)) 1).trans ((congrFun (f1886 16 (by decide)) 1).trans ((congrFun (f1878 16 (by decide)) 1).trans ((congrFun (f1706 16 (by decide)) 1).trans ((congrFun (f1618 16 (by decide)) 1).trans ((congrFun (f1608 16 (by decide)) 1).trans ((congrFun (f31 16 (by decide)) 1).trans (congrFun (f10 16 (by decide)) 1))))))))) ((congrFun (f1939 16 (by decide)) 2).trans ((congrFun (f1921 16 (by decide)) 2).trans ((congrFun (f1886 16 (by decide)) 2).trans ((congrFun (f1878 16 (by decide)) 2).trans ((congrFun (f1706 16 (by decide)) 2).trans ((congrFun (f1618 16 (by decide)) 2).trans ((congrFun (f1608 16 (by decide)) 2).trans ((congrFun (f31 16 (by decide)) 2).trans (congrFun (f10 16 (by decide)) 2))))))))) ((f1939 17 (by decide)).trans ((f1921 17 (by decide)).trans ((f1886 17 (by decide)).trans ((f1878 17 (by decide)).trans ((f1706 17 (by decide)).trans ((f1618 17 (by decide)).trans ((f1608 17 (by decide)).trans ((f31 17 (by decide)).trans (f10 17 (by decide)))))))))) hI16
                            exact hret r1938 σ1937 τ _ _ _ _ rfl ⟨rfl, (fun i hi => ((f1939 i (imp_46 i hi)).trans ((f1921 i (imp_46 i hi)).trans ((f1886 i (imp_46 i hi)).trans ((f1878 i (imp_46 i hi)).trans ((f1706 i (imp_46 i hi)).trans ((f1618 i (imp_46 i hi)).trans ((f1608 i (imp_46 i hi)).trans ((f31 i (imp_47 i hi)).trans (f10 i (imp_46 i hi))))))))))), (fun i hi => ((f1940 i (imp_48 i hi)).trans ((f1922 i (imp_50 i hi)).trans ((f1887 i (imp_49 i hi)).trans ((f1879 i (imp_54 i hi)).trans ((f1707 i (imp_50 i hi)).trans ((f1619 i (imp_49 i hi)).trans ((f1609 i (imp_54 i hi)).trans ((f32 i (imp_49 i hi)).trans (f11 i (imp_50 i hi))))))))))), (fun i hi => ((congrFun (f1939 16 (by decide)) i).trans ((congrFun (f1921 16 (by decide)) i).trans ((congrFun (f1886 16 (by decide)) i).trans ((congrFun (f1878 16 (by decide)) i).trans ((congrFun (f1706 16 (by decide)) i).trans ((congrFun (f1618 16 (by decide)) i).trans ((congrFun (f1608 16 (by decide)) i).trans ((congrFun (f31 16 (by decide)) i).trans (congrFun (f10 16 (by decide)) i)))))))))), I1941, I1955, (by omega), trivial⟩ hP hS dX7_readOrder_147
              · have kc1205 := jnlt c1205 jz_51 rfl
                refine lv_aload_n hx hb dX7_readOrder_36 rfl (lv_at hl 3 rfl) ?_
                refine va_get (D := D) hx hb hts inlX7 hown hK hP 9 (jc_9 cI cL ad σ25 τ) rfl 4 (by decide) (hts _ kw_3_21) (fun _ h9 => h9) rfl dX7_readOrder_37 ?_
                refine lv_iload_n hx hb dX7_readOrder_40 rfl (lv_at hl 2 rfl) ?_
                obtain ⟨x1956, ex1956⟩ : ∃ y : Int32, y = x24 + 1 := ⟨_, rfl⟩
                have tx1956 : x1956.toInt = x24.toInt + 1 := (jadd ex1956 rfl jz_1 (by omega) (by omega)).trans (by omega)
                refine lv_iinc (v := x1956) (lv' := [(2, .int x1956), (4, .int 0), (3, .int 8), (0, .ref (ad 9)), (1, .ref (ad 16))]) hx hb dX7_readOrder_41 hl (k := 2) rfl (by rw [ex1956]; rfl) (by decide) rfl (fun ls hl => ?_)
                refine lv_aload_n hx hb dX7_readOrder_44 rfl (lv_at hl 3 rfl) ?_
                refine va_get (D := D) hx hb hts inlX7 hown hK hP 9 (jc_9 cI cL ad σ25 τ) rfl 3 (by decide) (hts _ kw_3_20) (fun _ h9 => h9) rfl dX7_readOrder_45 ?_
                refine lv_aload_n hx hb dX7_readOrder_48 rfl (lv_at hl 3 rfl) ?_
                refine lv_dup hx hb dX7_readOrder_49 rfl ?_
                refine va_get (D := D) hx hb hts inlX7 hown hK hP 9 (jc_9 cI cL ad σ25 τ) rfl 1 (by decide) (hts _ kw_13_17) (fun _ h9 => h9) rfl dX7_readOrder_50 ?_
                refine lv_dup_x1 hx hb dX7_readOrder_53 rfl rfl ?_
                refine lv_iconst (v := 1) hx hb dX7_readOrder_54 (by decide) ?_
                have g1957 := jrg (rfl : (σ25 9 1).toInt = (σ25 9 1).toInt)
                refine lv_iadd hx hb dX7_readOrder_55 ?_
                refine lv_topi (fun x1958 ex1958 => ?_)
                have tx1958 : x1958.toInt = (σ25 9 1).toInt + 1 := (jadd ex1958 rfl jz_1 (by omega) (by omega)).trans (by omega)
                refine jput (ty := .int) hx hb hts inlX7 tyX7 tyX7_ok nmX7 hown hK hP hJ hA hS (jc_9 cI cL ad σ25 τ) rfl (k := 1) (by decide) (Nat.le_of_ble_eq_true rfl) (jp_9_1 cI cL ad σ25 τ x1958) (hts _ kw_13_17) (fun _ h9 => h9) rfl (by decide +kernel) rfl rfl dX7_readOrder_56 (fun σ1959 H locs eσ1959 hP hS => ?_)
                refine jald hx hb hK hP (jc_10 cI cL ad σ1959 τ) (jin rfl (by omega) (by omega)) dX7_readOrder_59 ?_
                refine jtopr (y := (σ 10 (σ25 9 1).toNatClampNeg)) (by rw [jnp 10 eσ1959 (by decide), f31 10 (by decide), f10 10 (by decide)]) ?_
                refine lv_bipush (v := 48) hx hb dX7_readOrder_60 (by decide) ?_
                have g1960 := jrg (rfl : (σ 10 (σ25 9 1).toNatClampNeg).toInt = (σ 10 (σ25 9 1).toNatClampNeg).toInt)
                refine lv_isub hx hb dX7_readOrder_62 ?_
                refine lv_topi (fun x1961 ex1961 => ?_)
                have tx1961 : x1961.toInt = (σ 10 (σ25 9 1).toNatClampNeg).toInt - 48 := (jsub ex1961 rfl jz_48 (by omega) (by omega)).trans (by omega)
                refine jast hx hb hK hP hJ hA hS (jc_11 cI cL ad σ1959 τ) (ja_11 cI cL ad σ1959 τ _ _) (jin rfl (by omega) (by omega)) dX7_readOrder_63 (fun σ1962 H locs eσ1962 hP hS => ?_)
                refine lv_goto (tgt := 12) hx hb dX7_readOrder_64 (by decide) ?_
                have z1963 : (σ1962 9 1).toInt = (σ25 9 1).toInt + 1 := ((congrArg Int32.toInt (show σ1962 9 1 = x1958 from ((congrFun (jnp 9 eσ1962 (by decide)) 1).trans (jsp eσ1959)))).trans tx1958)
                have z1964 : (σ1962 9 0).toInt = (σ 9 0).toInt := (congrArg Int32.toInt (show σ1962 9 0 = (σ 9 0) from ((congrFun (jnp 9 eσ1962 (by decide)) 0).trans ((jkp 0 eσ1959 (by decide)).trans ((f32 0 (by decide)).trans (f11 0 (by decide)))))))
                have w1965 : ∀ k : Nat, k < 80 → 0 ≤ (σ1962 10 k).toInt ∧ (σ1962 10 k).toInt ≤ 255 := (jrr_fr (jnp 10 eσ1962 (by decide)) (jrr_fr (jnp 10 eσ1959 (by decide)) w35))
                have w1966 : ∀ k : Nat, k < 8 → 0 ≤ (σ1962 11 k).toInt ∧ (σ1962 11 k).toInt ≤ 3 := (by rw [eσ1962]; exact jrr_up (jrr_fr (jnp 11 eσ1959 (by decide)) w36) (by have h9 := tx1961; omega) (by have h9 := tx1961; omega))
                have I1967 : jI9 σ1962 := ⟨(by omega), w1965, w1966⟩
                exact ihlp22 x1956 σ1962 _ _ ls (by have h90 := tx1956; omega) (by have h90 := tx1956; omega) (by have h90 := tx1956; omega) (by have h90 := tx1956; omega) (by have h90 := tx1956; omega) (fun i hi => ((jnp i eσ1962 (imp_55 i hi)).trans ((jnp i eσ1959 (imp_56 i hi)).trans (f31 i hi)))) (fun i hi => ((congrFun (jnp 9 eσ1962 (by decide)) i).trans ((jkp i eσ1959 (imp_42 i hi)).trans (f32 i hi))))  I1967 hP hS (lv_sub hl [1, 2, 0, 3, 4] rfl)
            · obtain ⟨q1969, k1968⟩ := h1200
              exact absurd (by omega : False) id
        · obtain ⟨q1971, k1970⟩ := h441
          have q1971 := q1971.symm
          subst q1971
          refine lv_bipush (v := 48) hx hb dX7_readOrder_22 (by decide) ?_
          refine lv_icmp_lt (tgt := 67) hx hb dX7_readOrder_24 (by decide) (fun _ => ?_) (fun c => absurd (by decide) c)
          refine lv_iload_n hx hb dX7_readOrder_67 rfl (lv_at hl 2 rfl) ?_
          refine lv_if_ne (tgt := 79) hx hb dX7_readOrder_68 (by decide) (fun c1972 => ?_) (fun c1972 => ?_)
          · have kc1972 := jne c1972 rfl jz_0
            refine lv_aload_n hx hb dX7_readOrder_79 rfl (lv_at hl 3 rfl) ?_
            refine lv_bipush (v := 58) hx hb dX7_readOrder_80 (by decide) ?_
            have I1973 : jI91 σ25 := ⟨(by omega), (by omega)⟩
            have I1974 : jI92 σ25 := jI92_fr (f32 2 (by decide)) I14
            refine jcallV (As := [.int 58]) (rest := []) ⟨hx, hb, hml, hown, hts⟩ hK hP hA hS hZ (c_X7_skip_9 l D cI cL ad zz hJ σ25 τ 58 (58) jz_58 p33 I1973 I1974 (by omega)) cw_RX7_50 (jc_9 cI cL ad σ25 τ) rfl ⟨Nat.le_of_ble_eq_true rfl, Nat.le_of_ble_eq_true rfl⟩ rfl rfl rfl hl.1 rfl (Nat.le_of_ble_eq_true rfl) dX7_readOrder_82 ⟨Nat.zero_le _, Nat.zero_le _⟩ (fun r1976 σ1975 τ1975 H locs h1975 hP hS => ?_)
            obtain ⟨rfl, f1977, f1978, I1979, I1980, I1981, h1975⟩ := h1975
            obtain ⟨i1982, w1983, w1984⟩ : (0 ≤ (σ1975 9 0).toInt ∧ (σ1975 9 0).toInt ≤ 80) ∧ (∀ k : Nat, k < 80 → 0 ≤ (σ1975 10 k).toInt ∧ (σ1975 10 k).toInt ≤ 255) ∧ (∀ k : Nat, k < 8 → 0 ≤ (σ1975 11 k).toInt ∧ (σ1975 11 k).toInt ≤ 3) := id I1979
            obtain ⟨i1985, i1986⟩ : (0 ≤ (σ1975 9 1).toInt) ∧ ((σ1975 9 1).toInt ≤ (σ1975 9 0).toInt) := id I1980
            have i1987 : (-1) ≤ (σ1975 9 2).toInt := I1981
            have z1988 : (σ1975 9 0).toInt = (σ 9 0).toInt := (congrArg Int32.toInt (show σ1975 9 0 = (σ 9 0) from ((f1978 0 (by decide)).trans ((f32 0 (by decide)).trans (f11 0 (by decide))))))
            have z1989 : (σ1975 9 2).toInt = (σ8 9 2).toInt := (congrArg Int32.toInt (show σ1975 9 2 = (σ8 9 2) from ((f1978 2 (by decide)).trans (f32 2 (by decide)))))
            refine lv_if_eq (tgt := 117) hx hb dX7_readOrder_85 (by decide) (fun c1990 => ?_) (fun c1990 => ?_)
            · have kc1990 := jeq c1990 rfl jz_0
              refine lv_aload_n hx hb dX7_readOrder_117 rfl (lv_at hl 3 rfl) ?_
              refine lv_bipush (v := 114) hx hb dX7_readOrder_118 (by decide) ?_
              refine jcallV (As := [.int 114]) (rest := []) ⟨hx, hb, hml, hown, hts⟩ hK hP hA hS hZ (c_X7_skip_9 l D cI cL ad zz hJ σ1975 τ 114 (114) jz_114 I1979 I1980 I1981 (by omega)) cw_RX7_50 (jc_9 cI cL ad σ1975 τ) rfl ⟨Nat.le_of_ble_eq_true rfl, Nat.le_of_ble_eq_true rfl⟩ rfl rfl rfl hl.1 rfl (Nat.le_of_ble_eq_true rfl) dX7_readOrder_120 ⟨Nat.zero_le _, Nat.zero_le _⟩ (fun r1992 σ1991 τ1991 H locs h1991 hP hS => ?_)
              obtain ⟨rfl, f1993, f1994, I1995, I1996, I1997, h1991⟩ := h1991
              obtain ⟨i1998, w1999, w2000⟩ : (0 ≤ (σ1991 9 0).toInt ∧ (σ1991 9 0).toInt ≤ 80) ∧ (∀ k : Nat, k < 80 → 0 ≤ (σ1991 10 k).toInt ∧ (σ1991 10 k).toInt ≤ 255) ∧ (∀ k : Nat, k < 8 → 0 ≤ (σ1991 11 k).toInt ∧ (σ1991 11 k).toInt ≤ 3) := id I1995
              obtain ⟨i2001, i2002⟩ : (0 ≤ (σ1991 9 1).toInt) ∧ ((σ1991 9 1).toInt ≤ (σ1991 9 0).toInt) := id I1996
              have i2003 : (-1) ≤ (σ1991 9 2).toInt := I1997
              have z2004 : (σ1991 9 0).toInt = (σ 9 0).toInt := (congrArg Int32.toInt (show σ1991 9 0 = (σ 9 0) from ((f1994 0 (by decide)).trans ((f1978 0 (by decide)).trans ((f32 0 (by decide)).trans (f11 0 (by decide)))))))
              have z2005 : (σ1991 9 2).toInt = (σ8 9 2).toInt := (congrArg Int32.toInt (show σ1991 9 2 = (σ8 9 2) from ((f1994 2 (by decide)).trans ((f1978 2 (by decide)).trans (f32 2 (by decide))))))
              refine lv_if_eq (tgt := 133) hx hb dX7_readOrder_123 (by decide) (fun c2006 => ?_) (fun c2006 => ?_)
              · have kc2006 := jeq c2006 rfl jz_0
                refine lv_aload_n hx hb dX7_readOrder_133 rfl (lv_at hl 3 rfl) ?_
                refine jcallV (As := []) (rest := []) ⟨hx, hb, hml, hown, hts⟩ hK hP hA hS hZ (c_X7_end_9 l D cI cL ad zz hJ σ1991 τ I1995 I1996 I1997) cw_RX7_57 (jc_9 cI cL ad σ1991 τ) rfl ⟨Nat.le_of_ble_eq_true rfl, Nat.le_of_ble_eq_true rfl⟩ rfl rfl rfl hl.1 rfl (Nat.le_of_ble_eq_true rfl) dX7_readOrder_134 ⟨Nat.zero_le _, Nat.zero_le _⟩ (fun r2008 σ2007 τ2007 H locs h2007 hP hS => ?_)
                obtain ⟨rfl, f2009, f2010, I2011, I2012, h2007⟩ := h2007
                obtain ⟨i2013, w2014, w2015⟩ : (0 ≤ (σ2007 9 0).toInt ∧ (σ2007 9 0).toInt ≤ 80) ∧ (∀ k : Nat, k < 80 → 0 ≤ (σ2007 10 k).toInt ∧ (σ2007 10 k).toInt ≤ 255) ∧ (∀ k : Nat, k < 8 → 0 ≤ (σ2007 11 k).toInt ∧ (σ2007 11 k).toInt ≤ 3) := id I2011
                have i2016 : (-1) ≤ (σ2007 9 2).toInt := I2012
                obtain ⟨k2017, h2007⟩ := h2007
                rcases h2007 with h2018 | h2019
                · obtain ⟨q2021, k2020⟩ := h2018
                  have q2021 := q2021.symm
                  subst q2021
                  refine lv_istore (lv' := [(5, .int (-1)), (4, .int 0), (3, .int 8), (2, .int x24), (0, .ref (ad 9)), (1, .ref (ad 16))]) hx hb dX7_readOrder_137 hl (by decide) rfl (fun ls hl => ?_)
                  refine lv_iload hx hb dX7_readOrder_139 (lv_at hl 0 rfl) ?_
                  refine lv_iconst (v := (-1)) hx hb dX7_readOrder_141 (by decide) ?_
                  refine lv_icmp_eq (tgt := 148) hx hb dX7_readOrder_142 (by decide) (fun _ => ?_) (fun c => absurd (by decide) c)
                  refine lv_aload_n hx hb dX7_readOrder_148 rfl (lv_at hl 5 rfl) ?_
                  refine lv_iload_n hx hb dX7_readOrder_149 rfl (lv_at hl 3 rfl) ?_
                  refine jput (ty := .int) hx hb hts inlX6 tyX6 tyX6_ok nmX6 hown hK hP hJ hA hS (jc_16 cI cL ad σ2007 τ) rfl (k := 0) (by decide) (Nat.le_of_ble_eq_true rfl) (jp_16_0 cI cL ad σ2007 τ x24) (hts _ kw_13_18) (fun _ h9 => h9) rfl (by decide +kernel) rfl rfl dX7_readOrder_150 (fun σ2022 H locs eσ2022 hP hS => ?_)
                  refine lv_aload_n hx hb dX7_readOrder_153 rfl (lv_at hl 5 rfl) ?_
                  refine lv_iload_n hx hb dX7_readOrder_154 rfl (lv_at hl 2 rfl) ?_
                  refine jput (ty := .int) hx hb hts inlX6 tyX6 tyX6_ok nmX6 hown hK hP hJ hA hS (jc_16 cI cL ad σ2022 τ) rfl (k := 1) (by decide) (Nat.le_of_ble_eq_true rfl) (jp_16_1 cI cL ad σ2022 τ 8) (hts _ kw_13_19) (fun _ h9 => h9) rfl (by decide +kernel) rfl rfl dX7_readOrder_155 (fun σ2023 H locs eσ2023 hP hS => ?_)
                  refine lv_aload_n hx hb dX7_readOrder_158 rfl (lv_at hl 5 rfl) ?_
                  refine lv_iload hx hb dX7_readOrder_159 (lv_at hl 1 rfl) ?_
                  refine jput (ty := .int) hx hb hts inlX6 tyX6 tyX6_ok nmX6 hown hK hP hJ hA hS (jc_16 cI cL ad σ2023 τ) rfl (k := 2) (by decide) (Nat.le_of_ble_eq_true rfl) (jp_16_2 cI cL ad σ2023 τ 0) (hts _ kw_13_20) (fun _ h9 => h9) rfl (by decide +kernel) rfl rfl dX7_readOrder_161 (fun σ2024 H locs eσ2024 hP hS => ?_)
                  refine lv_aload_n hx hb dX7_readOrder_164 rfl (lv_at hl 4 rfl) ?_
                  refine va_get (D := D) hx hb hts inlX7 hown hK hP 9 (jc_9 cI cL ad σ2024 τ) rfl 4 (by decide) (hts _ kw_3_21) (fun _ h9 => h9) rfl dX7_readOrder_165 ?_
                  refine lv_iconst (v := 0) hx hb dX7_readOrder_168 (by decide) ?_
                  refine lv_aload_n hx hb dX7_readOrder_169 rfl (lv_at hl 5 rfl) ?_
                  refine va_get (D := D) hx hb hts inlX6 hown hK hP 16 (jc_16 cI cL ad σ2024 τ) rfl 3 (by decide) (hts _ kw_13_21) (fun _ h9 => h9) rfl dX7_readOrder_170 ?_
                  refine lv_iconst (v := 0) hx hb dX7_readOrder_173 (by decide) ?_
                  refine lv_iload_n hx hb dX7_readOrder_174 rfl (lv_at hl 3 rfl) ?_
                  refine jcpyI (q0 := 11) (q1 := 17) hx hb (hml.trans hl.1.symm) hown (hts _ kw_13_22) (hts _ kw_13_23) (hts _ kw_14_0) (hts _ kw_14_1) hK hP hJ hA hS (jc_11 cI cL ad σ2024 τ) (jc_17 cI cL ad σ2024 τ) (fun _ => rfl) jz_0 jz_0 rfl (by omega) (by omega) (by omega) (by omega) (by omega) (Nat.le_of_ble_eq_true rfl) (Nat.le_of_ble_eq_true rfl) dX7_readOrder_175 (fun σ2025 H locs eσ2025 hP hS => ?_)
                  have w2026 : ∀ k : Nat, k < 8 → 0 ≤ (σ2024 11 k).toInt ∧ (σ2024 11 k).toInt ≤ 3 := (jrr_fr (jnp 11 eσ2024 (by decide)) (jrr_fr (jnp 11 eσ2023 (by decide)) (jrr_fr (jnp 11 eσ2022 (by decide)) w2015)))
                  have w2027 : ∀ k : Nat, k < 8 → 0 ≤ (σ2024 17 k).toInt ∧ (σ2024 17 k).toInt ≤ 3 := (jrr_fr (jnp 17 eσ2024 (by decide)) (jrr_fr (jnp 17 eσ2023 (by decide)) (jrr_fr (jnp 17 eσ2022 (by decide)) (jrr_fr (f2009 17 (by decide)) (jrr_fr (f1993 17 (by decide)) (jrr_fr (f1977 17 (by decide)) (jrr_fr (f31 17 (by decide)) (jrr_fr (f10 17 (by decide)) w7))))))))
                  have f2028 : (∀ i : Nat, (i < 17 ∨ 17 < i) → σ2025 i = σ2024 i) := by rw [eσ2025]; exact jrow_n
                  have w2029 : ∀ k : Nat, k < 8 → 0 ≤ (σ2025 17 k).toInt ∧ (σ2025 17 k).toInt ≤ 3 := by rw [eσ2025]; exact jrow_rr w2026 w2027 jz_0 rfl (n0 := 8) (by omega) (by omega) (by omega)
                  refine lv_iconst (v := (-1)) hx hb dX7_readOrder_178 (by decide) ?_
                  have I2030 : jI9 σ2025 := jI9_fr ((congrFun (f2028 9 (by decide)) 0).trans ((congrFun (jnp 9 eσ2024 (by decide)) 0).trans ((congrFun (jnp 9 eσ2023 (by decide)) 0).trans (congrFun (jnp 9 eσ2022 (by decide)) 0)))) ((f2028 10 (by decide)).trans ((jnp 10 eσ2024 (by decide)).trans ((jnp 10 eσ2023 (by decide)).trans (jnp 10 eσ2022 (by decide))))) ((f2028 11 (by decide)).trans ((jnp 11 eσ2024 (by decide)).trans ((jnp 11 eσ2023 (by decide)).trans (jnp 11 eσ2022 (by decide))))) I2011
                  have z2031 : (σ2025 16 0).toInt = x24.toInt := (congrArg Int32.toInt (show σ2025 16 0 = x24 from ((congrFun (f2028 16 (by decide)) 0).trans ((jkp 0 eσ2024 (by decide)).trans ((jkp 0 eσ2023 (by decide)).trans (jsp eσ2022))))))
                  have z2032 : (σ2025 16 1).toInt = 8 := ((congrArg Int32.toInt (show σ2025 16 1 = 8 from ((congrFun (f2028 16 (by decide)) 1).trans ((jkp 1 eσ2024 (by decide)).trans (jsp eσ2023))))).trans jz_8)
                  have z2033 : (σ2025 16 2).toInt = 0 := ((congrArg Int32.toInt (show σ2025 16 2 = 0 from ((congrFun (f2028 16 (by decide)) 2).trans (jsp eσ2024)))).trans jz_0)
                  have I2034 : jI16 σ2025 := ⟨(by omega), (by omega), (by omega), w2029⟩
                  have z2035 : (σ2025 9 0).toInt = (σ2007 9 0).toInt := (congrArg Int32.toInt (show σ2025 9 0 = (σ2007 9 0) from ((congrFun (f2028 9 (by decide)) 0).trans ((congrFun (jnp 9 eσ2024 (by decide)) 0).trans ((congrFun (jnp 9 eσ2023 (by decide)) 0).trans (congrFun (jnp 9 eσ2022 (by decide)) 0))))))
                  exact hret (-1) σ2025 τ _ _ _ _ rfl ⟨rfl, (fun i hi => ((f2028 i (imp_44 i hi)).trans ((jnp i eσ2024 (imp_45 i hi)).trans ((jnp i eσ2023 (imp_45 i hi)).trans ((jnp i eσ2022 (imp_45 i hi)).trans ((f2009 i (imp_46 i hi)).trans ((f1993 i (imp_46 i hi)).trans ((f1977 i (imp_46 i hi)).trans ((f31 i (imp_47 i hi)).trans (f10 i (imp_46 i hi))))))))))), (fun i hi => ((congrFun (f2028 9 (by decide)) i).trans ((congrFun (jnp 9 eσ2024 (by decide)) i).trans ((congrFun (jnp 9 eσ2023 (by decide)) i).trans ((congrFun (jnp 9 eσ2022 (by decide)) i).trans ((f2010 i (imp_48 i hi)).trans ((f1994 i (imp_49 i hi)).trans ((f1978 i (imp_49 i hi)).trans ((f32 i (imp_49 i hi)).trans (f11 i (imp_50 i hi))))))))))), (fun i hi => ((congrFun (f2028 16 (by decide)) i).trans ((jkp i eσ2024 (imp_51 i hi)).trans ((jkp i eσ2023 (imp_52 i hi)).trans ((jkp i eσ2022 (imp_53 i hi)).trans ((congrFun (f2009 16 (by decide)) i).trans ((congrFun (f1993 16 (by decide)) i).trans ((congrFun (f1977 16 (by decide)) i).trans ((congrFun (f31 16 (by decide)) i).trans (congrFun (f10 16 (by decide)) i)))))))))), I2030, I2034, (by omega), trivial⟩ hP hS dX7_readOrder_179
                · obtain ⟨q2037, k2036⟩ := h2019
                  refine lv_istore (lv' := [(5, .int r2008), (4, .int 0), (3, .int 8), (2, .int x24), (0, .ref (ad 9)), (1, .ref (ad 16))]) hx hb dX7_readOrder_137 hl (by decide) rfl (fun ls hl => ?_)
                  refine lv_iload hx hb dX7_readOrder_139 (lv_at hl 0 rfl) ?_
                  refine lv_iconst (v := (-1)) hx hb dX7_readOrder_141 (by decide) ?_
                  refine lv_icmp_eq (tgt := 148) hx hb dX7_readOrder_142 (by decide) (fun c => absurd (jeq c rfl jz_m1) (by omega)) (fun c2038 => ?_)
                  have kc2038 := jne c2038 rfl jz_m1
                  refine lv_iload hx hb dX7_readOrder_145 (lv_at hl 0 rfl) ?_
                  have I2039 : jI16 σ2007 := jI16_fr ((congrFun (f2009 16 (by decide)) 0).trans ((congrFun (f1993 16 (by decide)) 0).trans ((congrFun (f1977 16 (by decide)) 0).trans ((congrFun (f31 16 (by decide)) 0).trans (congrFun (f10 16 (by decide)) 0))))) ((congrFun (f2009 16 (by decide)) 1).trans ((congrFun (f1993 16 (by decide)) 1).trans ((congrFun (f1977 16 (by decide)) 1).trans ((congrFun (f31 16 (by decide)) 1).trans (congrFun (f10 16 (by decide)) 1))))) ((congrFun (f2009 16 (by decide)) 2).trans ((congrFun (f1993 16 (by decide)) 2).trans ((congrFun (f1977 16 (by decide)) 2).trans ((congrFun (f31 16 (by decide)) 2).trans (congrFun (f10 16 (by decide)) 2))))) ((f2009 17 (by decide)).trans ((f1993 17 (by decide)).trans ((f1977 17 (by decide)).trans ((f31 17 (by decide)).trans (f10 17 (by decide)))))) hI16
                  exact hret r2008 σ2007 τ _ _ _ _ rfl ⟨rfl, (fun i hi => ((f2009 i (imp_46 i hi)).trans ((f1993 i (imp_46 i hi)).trans ((f1977 i (imp_46 i hi)).trans ((f31 i (imp_47 i hi)).trans (f10 i (imp_46 i hi))))))), (fun i hi => ((f2010 i (imp_48 i hi)).trans ((f1994 i (imp_49 i hi)).trans ((f1978 i (imp_49 i hi)).trans ((f32 i (imp_49 i hi)).trans (f11 i (imp_50 i hi))))))), (fun i hi => ((congrFun (f2009 16 (by decide)) i).trans ((congrFun (f1993 16 (by decide)) i).trans ((congrFun (f1977 16 (by decide)) i).trans ((congrFun (f31 16 (by decide)) i).trans (congrFun (f10 16 (by decide)) i)))))), I2011, I2039, (by omega), trivial⟩ hP hS dX7_readOrder_147
              · have kc2006 := jne c2006 rfl jz_0
                refine lv_aload_n hx hb dX7_readOrder_126 rfl (lv_at hl 3 rfl) ?_
                refine lv_iconst (v := 3) hx hb dX7_readOrder_127 (by decide) ?_
                refine jcallV (As := [.int 3]) (rest := []) ⟨hx, hb, hml, hown, hts⟩ hK hP hA hS hZ (c_X7_number_3 l D cI cL ad zz hJ σ1991 τ I1995 I1996 I1997) cw_RX7_53 (jc_9 cI cL ad σ1991 τ) rfl ⟨Nat.le_of_ble_eq_true rfl, Nat.le_of_ble_eq_true rfl⟩ rfl rfl rfl hl.1 rfl (Nat.le_of_ble_eq_true rfl) dX7_readOrder_128 ⟨Nat.zero_le _, Nat.zero_le _⟩ (fun r2041 σ2040 τ2040 H locs h2040 hP hS => ?_)
                obtain ⟨rfl, f2042, f2043, I2044, I2045, I2046, h2040⟩ := h2040
                obtain ⟨i2047, w2048, w2049⟩ : (0 ≤ (σ2040 9 0).toInt ∧ (σ2040 9 0).toInt ≤ 80) ∧ (∀ k : Nat, k < 80 → 0 ≤ (σ2040 10 k).toInt ∧ (σ2040 10 k).toInt ≤ 255) ∧ (∀ k : Nat, k < 8 → 0 ≤ (σ2040 11 k).toInt ∧ (σ2040 11 k).toInt ≤ 3) := id I2044
                obtain ⟨i2050, i2051⟩ : (0 ≤ (σ2040 9 1).toInt) ∧ ((σ2040 9 1).toInt ≤ (σ2040 9 0).toInt) := id I2045
                have i2052 : (-1) ≤ (σ2040 9 2).toInt := I2046
                have z2053 : (σ2040 9 0).toInt = (σ 9 0).toInt := (congrArg Int32.toInt (show σ2040 9 0 = (σ 9 0) from ((f2043 0 (by decide)).trans ((f1994 0 (by decide)).trans ((f1978 0 (by decide)).trans ((f32 0 (by decide)).trans (f11 0 (by decide))))))))
                obtain ⟨k2054, h2040⟩ := h2040
                have h2055 := h2040
                obtain ⟨q2057, k2056⟩ := h2055
                refine lv_istore (lv' := [(4, .int r2041), (3, .int 8), (2, .int x24), (0, .ref (ad 9)), (1, .ref (ad 16))]) hx hb dX7_readOrder_131 hl (by decide) rfl (fun ls hl => ?_)
                refine lv_aload_n hx hb dX7_readOrder_133 rfl (lv_at hl 3 rfl) ?_
                refine jcallV (As := []) (rest := []) ⟨hx, hb, hml, hown, hts⟩ hK hP hA hS hZ (c_X7_end_9 l D cI cL ad zz hJ σ2040 τ I2044 I2045 I2046) cw_RX7_57 (jc_9 cI cL ad σ2040 τ) rfl ⟨Nat.le_of_ble_eq_true rfl, Nat.le_of_ble_eq_true rfl⟩ rfl rfl rfl hl.1 rfl (Nat.le_of_ble_eq_true rfl) dX7_readOrder_134 ⟨Nat.zero_le _, Nat.zero_le _⟩ (fun r2059 σ2058 τ2058 H locs h2058 hP hS => ?_)
                obtain ⟨rfl, f2060, f2061, I2062, I2063, h2058⟩ := h2058
                obtain ⟨i2064, w2065, w2066⟩ : (0 ≤ (σ2058 9 0).toInt ∧ (σ2058 9 0).toInt ≤ 80) ∧ (∀ k : Nat, k < 80 → 0 ≤ (σ2058 10 k).toInt ∧ (σ2058 10 k).toInt ≤ 255) ∧ (∀ k : Nat, k < 8 → 0 ≤ (σ2058 11 k).toInt ∧ (σ2058 11 k).toInt ≤ 3) := id I2062
                have i2067 : (-1) ≤ (σ2058 9 2).toInt := I2063
                obtain ⟨k2068, h2058⟩ := h2058
                rcases h2058 with h2069 | h2070
                · obtain ⟨q2072, k2071⟩ := h2069
                  have q2072 := q2072.symm
                  subst q2072
                  refine lv_istore (lv' := [(5, .int (-1)), (4, .int r2041), (3, .int 8), (2, .int x24), (0, .ref (ad 9)), (1, .ref (ad 16))]) hx hb dX7_readOrder_137 hl (by decide) rfl (fun ls hl => ?_)
                  refine lv_iload hx hb dX7_readOrder_139 (lv_at hl 0 rfl) ?_
                  refine lv_iconst (v := (-1)) hx hb dX7_readOrder_141 (by decide) ?_
                  refine lv_icmp_eq (tgt := 148) hx hb dX7_readOrder_142 (by decide) (fun _ => ?_) (fun c => absurd (by decide) c)
                  refine lv_aload_n hx hb dX7_readOrder_148 rfl (lv_at hl 5 rfl) ?_
                  refine lv_iload_n hx hb dX7_readOrder_149 rfl (lv_at hl 3 rfl) ?_
                  refine jput (ty := .int) hx hb hts inlX6 tyX6 tyX6_ok nmX6 hown hK hP hJ hA hS (jc_16 cI cL ad σ2058 τ) rfl (k := 0) (by decide) (Nat.le_of_ble_eq_true rfl) (jp_16_0 cI cL ad σ2058 τ x24) (hts _ kw_13_18) (fun _ h9 => h9) rfl (by decide +kernel) rfl rfl dX7_readOrder_150 (fun σ2073 H locs eσ2073 hP hS => ?_)
                  refine lv_aload_n hx hb dX7_readOrder_153 rfl (lv_at hl 5 rfl) ?_
                  refine lv_iload_n hx hb dX7_readOrder_154 rfl (lv_at hl 2 rfl) ?_
                  refine jput (ty := .int) hx hb hts inlX6 tyX6 tyX6_ok nmX6 hown hK hP hJ hA hS (jc_16 cI cL ad σ2073 τ) rfl (k := 1) (by decide) (Nat.le_of_ble_eq_true rfl) (jp_16_1 cI cL ad σ2073 τ 8) (hts _ kw_13_19) (fun _ h9 => h9) rfl (by decide +kernel) rfl rfl dX7_readOrder_155 (fun σ2074 H locs eσ2074 hP hS => ?_)
                  refine lv_aload_n hx hb dX7_readOrder_158 rfl (lv_at hl 5 rfl) ?_
                  refine lv_iload hx hb dX7_readOrder_159 (lv_at hl 1 rfl) ?_
                  refine jput (ty := .int) hx hb hts inlX6 tyX6 tyX6_ok nmX6 hown hK hP hJ hA hS (jc_16 cI cL ad σ2074 τ) rfl (k := 2) (by decide) (Nat.le_of_ble_eq_true rfl) (jp_16_2 cI cL ad σ2074 τ r2041) (hts _ kw_13_20) (fun _ h9 => h9) rfl (by decide +kernel) rfl rfl dX7_readOrder_161 (fun σ2075 H locs eσ2075 hP hS => ?_)
                  refine lv_aload_n hx hb dX7_readOrder_164 rfl (lv_at hl 4 rfl) ?_
                  refine va_get (D := D) hx hb hts inlX7 hown hK hP 9 (jc_9 cI cL ad σ2075 τ) rfl 4 (by decide) (hts _ kw_3_21) (fun _ h9 => h9) rfl dX7_readOrder_165 ?_
                  refine lv_iconst (v := 0) hx hb dX7_readOrder_168 (by decide) ?_
                  refine lv_aload_n hx hb dX7_readOrder_169 rfl (lv_at hl 5 rfl) ?_
                  refine va_get (D := D) hx hb hts inlX6 hown hK hP 16 (jc_16 cI cL ad σ2075 τ) rfl 3 (by decide) (hts _ kw_13_21) (fun _ h9 => h9) rfl dX7_readOrder_170 ?_
                  refine lv_iconst (v := 0) hx hb dX7_readOrder_173 (by decide) ?_
                  refine lv_iload_n hx hb dX7_readOrder_174 rfl (lv_at hl 3 rfl) ?_
                  refine jcpyI (q0 := 11) (q1 := 17) hx hb (hml.trans hl.1.symm) hown (hts _ kw_13_22) (hts _ kw_13_23) (hts _ kw_14_0) (hts _ kw_14_1) hK hP hJ hA hS (jc_11 cI cL ad σ2075 τ) (jc_17 cI cL ad σ2075 τ) (fun _ => rfl) jz_0 jz_0 rfl (by omega) (by omega) (by omega) (by omega) (by omega) (Nat.le_of_ble_eq_true rfl) (Nat.le_of_ble_eq_true rfl) dX7_readOrder_175 (fun σ2076 H locs eσ2076 hP hS => ?_)
                  have w2077 : ∀ k : Nat, k < 8 → 0 ≤ (σ2075 11 k).toInt ∧ (σ2075 11 k).toInt ≤ 3 := (jrr_fr (jnp 11 eσ2075 (by decide)) (jrr_fr (jnp 11 eσ2074 (by decide)) (jrr_fr (jnp 11 eσ2073 (by decide)) w2066)))
                  have w2078 : ∀ k : Nat, k < 8 → 0 ≤ (σ2075 17 k).toInt ∧ (σ2075 17 k).toInt ≤ 3 := (jrr_fr (jnp 17 eσ2075 (by decide)) (jrr_fr (jnp 17 eσ2074 (by decide)) (jrr_fr (jnp 17 eσ2073 (by decide)) (jrr_fr (f2060 17 (by decide)) (jrr_fr (f2042 17 (by decide)) (jrr_fr (f1993 17 (by decide)) (jrr_fr (f1977 17 (by decide)) (jrr_fr (f31 17 (by decide)) (jrr_fr (f10 17 (by decide)) w7)))))))))
                  have f2079 : (∀ i : Nat, (i < 17 ∨ 17 < i) → σ2076 i = σ2075 i) := by rw [eσ2076]; exact jrow_n
                  have w2080 : ∀ k : Nat, k < 8 → 0 ≤ (σ2076 17 k).toInt ∧ (σ2076 17 k).toInt ≤ 3 := by rw [eσ2076]; exact jrow_rr w2077 w2078 jz_0 rfl (n0 := 8) (by omega) (by omega) (by omega)
                  refine lv_iconst (v := (-1)) hx hb dX7_readOrder_178 (by decide) ?_
                  have I2081 : jI9 σ2076 := jI9_fr ((congrFun (f2079 9 (by decide)) 0).trans ((congrFun (jnp 9 eσ2075 (by decide)) 0).trans ((congrFun (jnp 9 eσ2074 (by decide)) 0).trans (congrFun (jnp 9 eσ2073 (by decide)) 0)))) ((f2079 10 (by decide)).trans ((jnp 10 eσ2075 (by decide)).trans ((jnp 10 eσ2074 (by decide)).trans (jnp 10 eσ2073 (by decide))))) ((f2079 11 (by decide)).trans ((jnp 11 eσ2075 (by decide)).trans ((jnp 11 eσ2074 (by decide)).trans (jnp 11 eσ2073 (by decide))))) I2062
                  have z2082 : (σ2076 16 0).toInt = x24.toInt := (congrArg Int32.toInt (show σ2076 16 0 = x24 from ((congrFun (f2079 16 (by decide)) 0).trans ((jkp 0 eσ2075 (by decide)).trans ((jkp 0 eσ2074 (by decide)).trans (jsp eσ2073))))))
                  have z2083 : (σ2076 16 1).toInt = 8 := ((congrArg Int32.toInt (show σ2076 16 1 = 8 from ((congrFun (f2079 16 (by decide)) 1).trans ((jkp 1 eσ2075 (by decide)).trans (jsp eσ2074))))).trans jz_8)
                  have z2084 : (σ2076 16 2).toInt = r2041.toInt := (congrArg Int32.toInt (show σ2076 16 2 = r2041 from ((congrFun (f2079 16 (by decide)) 2).trans (jsp eσ2075))))
                  have I2085 : jI16 σ2076 := ⟨(by omega), (by omega), (by omega), w2080⟩
                  have z2086 : (σ2076 9 0).toInt = (σ2058 9 0).toInt := (congrArg Int32.toInt (show σ2076 9 0 = (σ2058 9 0) from ((congrFun (f2079 9 (by decide)) 0).trans ((congrFun (jnp 9 eσ2075 (by decide)) 0).trans ((congrFun (jnp 9 eσ2074 (by decide)) 0).trans (congrFun (jnp 9 eσ2073 (by decide)) 0))))))
                  exact hret (-1) σ2076 τ _ _ _ _ rfl ⟨rfl, (fun i hi => ((f2079 i (imp_44 i hi)).trans ((jnp i eσ2075 (imp_45 i hi)).trans ((jnp i eσ2074 (imp_45 i hi)).trans ((jnp i eσ2073 (imp_45 i hi)).trans ((f2060 i (imp_46 i hi)).trans ((f2042 i (imp_46 i hi)).trans ((f1993 i (imp_46 i hi)).trans ((f1977 i (imp_46 i hi)).trans ((f31 i (imp_47 i hi)).trans (f10 i (imp_46 i hi)))))))))))), (fun i hi => ((congrFun (f2079 9 (by decide)) i).trans ((congrFun (jnp 9 eσ2075 (by decide)) i).trans ((congrFun (jnp 9 eσ2074 (by decide)) i).trans ((congrFun (jnp 9 eσ2073 (by decide)) i).trans ((f2061 i (imp_48 i hi)).trans ((f2043 i (imp_50 i hi)).trans ((f1994 i (imp_49 i hi)).trans ((f1978 i (imp_49 i hi)).trans ((f32 i (imp_49 i hi)).trans (f11 i (imp_50 i hi)))))))))))), (fun i hi => ((congrFun (f2079 16 (by decide)) i).trans ((jkp i eσ2075 (imp_51 i hi)).trans ((jkp i eσ2074 (imp_52 i hi)).trans ((jkp i eσ2073 (imp_53 i hi)).trans ((congrFun (f2060 16 (by decide)) i).trans ((congrFun (f2042 16 (by decide)) i).trans ((congrFun (f1993 16 (by decide)) i).trans ((congrFun (f1977 16 (by decide)) i).trans ((congrFun (f31 16 (by decide)) i).trans (congrFun (f10 16 (by decide)) i))))))))))), I2081, I2085, (by omega), trivial⟩ hP hS dX7_readOrder_179
                · obtain ⟨q2088, k2087⟩ := h2070
                  refine lv_istore (lv' := [(5, .int r2059), (4, .int r2041), (3, .int 8), (2, .int x24), (0, .ref (ad 9)), (1, .ref (ad 16))]) hx hb dX7_readOrder_137 hl (by decide) rfl (fun ls hl => ?_)
                  refine lv_iload hx hb dX7_readOrder_139 (lv_at hl 0 rfl) ?_
                  refine lv_iconst (v := (-1)) hx hb dX7_readOrder_141 (by decide) ?_
                  refine lv_icmp_eq (tgt := 148) hx hb dX7_readOrder_142 (by decide) (fun c => absurd (jeq c rfl jz_m1) (by omega)) (fun c2089 => ?_)
                  have kc2089 := jne c2089 rfl jz_m1
                  refine lv_iload hx hb dX7_readOrder_145 (lv_at hl 0 rfl) ?_
                  have I2090 : jI16 σ2058 := jI16_fr ((congrFun (f2060 16 (by decide)) 0).trans ((congrFun (f2042 16 (by decide)) 0).trans ((congrFun (f1993 16 (by decide)) 0).trans ((congrFun (f1977 16 (by decide)) 0).trans ((congrFun (f31 16 (by decide)) 0).trans (congrFun (f10 16 (by decide)) 0)))))) ((congrFun (f2060 16 (by decide)) 1).trans ((congrFun (f2042 16 (by decide)) 1).trans ((congrFun (f1993 16 (by decide)) 1).trans ((congrFun (f1977 16 (by decide)) 1).trans ((congrFun (f31 16 (by decide)) 1).trans (congrFun (f10 16 (by decide)) 1)))))) ((congrFun (f2060 16 (by decide)) 2).trans ((congrFun (f2042 16 (by decide)) 2).trans ((congrFun (f1993 16 (by decide)) 2).trans ((congrFun (f1977 16 (by decide)) 2).trans ((congrFun (f31 16 (by decide)) 2).trans (congrFun (f10 16 (by decide)) 2)))))) ((f2060 17 (by decide)).trans ((f2042 17 (by decide)).trans ((f1993 17 (by decide)).trans ((f1977 17 (by decide)).trans ((f31 17 (by decide)).trans (f10 17 (by decide))))))) hI16
                  exact hret r2059 σ2058 τ _ _ _ _ rfl ⟨rfl, (fun i hi => ((f2060 i (imp_46 i hi)).trans ((f2042 i (imp_46 i hi)).trans ((f1993 i (imp_46 i hi)).trans ((f1977 i (imp_46 i hi)).trans ((f31 i (imp_47 i hi)).trans (f10 i (imp_46 i hi)))))))), (fun i hi => ((f2061 i (imp_48 i hi)).trans ((f2043 i (imp_50 i hi)).trans ((f1994 i (imp_49 i hi)).trans ((f1978 i (imp_49 i hi)).trans ((f32 i (imp_49 i hi)).trans (f11 i (imp_50 i hi)))))))), (fun i hi => ((congrFun (f2060 16 (by decide)) i).trans ((congrFun (f2042 16 (by decide)) i).trans ((congrFun (f1993 16 (by decide)) i).trans ((congrFun (f1977 16 (by decide)) i).trans ((congrFun (f31 16 (by decide)) i).trans (congrFun (f10 16 (by decide)) i))))))), I2062, I2090, (by omega), trivial⟩ hP hS dX7_readOrder_147
            · have kc1990 := jne c1990 rfl jz_0
              refine lv_aload_n hx hb dX7_readOrder_88 rfl (lv_at hl 3 rfl) ?_
              refine va_get (D := D) hx hb hts inlX7 hown hK hP 9 (jc_9 cI cL ad σ1975 τ) rfl 1 (by decide) (hts _ kw_13_17) (fun _ h9 => h9) rfl dX7_readOrder_89 ?_
              refine lv_istore (lv' := [(5, .int (σ1975 9 1)), (4, .int 0), (3, .int 8), (2, .int x24), (0, .ref (ad 9)), (1, .ref (ad 16))]) hx hb dX7_readOrder_92 hl (by decide) rfl (fun ls hl => ?_)
              refine lv_aload_n hx hb dX7_readOrder_94 rfl (lv_at hl 4 rfl) ?_
              refine lv_iconst (v := 2) hx hb dX7_readOrder_95 (by decide) ?_
              refine jcallV (As := [.int 2]) (rest := []) ⟨hx, hb, hml, hown, hts⟩ hK hP hA hS hZ (c_X7_number_2 l D cI cL ad zz hJ σ1975 τ I1979 I1980 I1981) cw_RX7_53 (jc_9 cI cL ad σ1975 τ) rfl ⟨Nat.le_of_ble_eq_true rfl, Nat.le_of_ble_eq_true rfl⟩ rfl rfl rfl hl.1 rfl (Nat.le_of_ble_eq_true rfl) dX7_readOrder_96 ⟨Nat.zero_le _, Nat.zero_le _⟩ (fun r2092 σ2091 τ2091 H locs h2091 hP hS => ?_)
              obtain ⟨rfl, f2093, f2094, I2095, I2096, I2097, h2091⟩ := h2091
              obtain ⟨i2098, w2099, w2100⟩ : (0 ≤ (σ2091 9 0).toInt ∧ (σ2091 9 0).toInt ≤ 80) ∧ (∀ k : Nat, k < 80 → 0 ≤ (σ2091 10 k).toInt ∧ (σ2091 10 k).toInt ≤ 255) ∧ (∀ k : Nat, k < 8 → 0 ≤ (σ2091 11 k).toInt ∧ (σ2091 11 k).toInt ≤ 3) := id I2095
              obtain ⟨i2101, i2102⟩ : (0 ≤ (σ2091 9 1).toInt) ∧ ((σ2091 9 1).toInt ≤ (σ2091 9 0).toInt) := id I2096
              have i2103 : (-1) ≤ (σ2091 9 2).toInt := I2097
              have z2104 : (σ2091 9 0).toInt = (σ 9 0).toInt := (congrArg Int32.toInt (show σ2091 9 0 = (σ 9 0) from ((f2094 0 (by decide)).trans ((f1978 0 (by decide)).trans ((f32 0 (by decide)).trans (f11 0 (by decide)))))))
              obtain ⟨k2105, h2091⟩ := h2091
              have h2106 := h2091
              obtain ⟨q2108, k2107⟩ := h2106
              refine lv_istore_n (lv' := [(3, .int r2092), (5, .int (σ1975 9 1)), (4, .int 0), (2, .int x24), (0, .ref (ad 9)), (1, .ref (ad 16))]) hx hb dX7_readOrder_99 rfl hl (by decide) rfl (fun ls hl => ?_)
              refine lv_iload_n hx hb dX7_readOrder_100 rfl (lv_at hl 0 rfl) ?_
              refine lv_iconst (v := 1) hx hb dX7_readOrder_101 (by decide) ?_
              refine lv_icmp_lt (tgt := 111) hx hb dX7_readOrder_102 (by decide) (fun c2109 => ?_) (fun c2109 => ?_)
              · have kc2109 := jlt c2109 rfl jz_1
                refine lv_aload_n hx hb dX7_readOrder_111 rfl (lv_at hl 4 rfl) ?_
                refine lv_iload hx hb dX7_readOrder_112 (lv_at hl 1 rfl) ?_
                refine jcallVv (As := [.int (σ1975 9 1)]) (rest := []) ⟨hx, hb, hml, hown, hts⟩ hK hP hA hS hZ (c_X7_fail_9 l D cI cL ad zz hJ σ2091 τ (σ1975 9 1) ((σ1975 9 1).toInt) rfl I2097 (by omega)) cw_RX7_43 (jc_9 cI cL ad σ2091 τ) rfl ⟨Nat.le_of_ble_eq_true rfl, Nat.le_of_ble_eq_true rfl⟩ rfl rfl rfl hl.1 rfl (Nat.le_of_ble_eq_true rfl) dX7_readOrder_114 ⟨Nat.zero_le _, Nat.zero_le _⟩ (fun σ2110 τ2110 H locs h2110 hP hS => ?_)
                obtain ⟨rfl, f2112, f2113, h2110⟩ := h2110
                obtain ⟨k2114, h2110⟩ := h2110
                refine lv_aload_n hx hb dX7_readOrder_117 rfl (lv_at hl 4 rfl) ?_
                refine lv_bipush (v := 114) hx hb dX7_readOrder_118 (by decide) ?_
                have I2115 : jI9 σ2110 := jI9_fr (f2113 0 (by decide)) (f2112 10 (by decide)) (f2112 11 (by decide)) I2095
                have I2116 : jI91 σ2110 := jI91_fr (f2113 0 (by decide)) (f2113 1 (by decide)) I2096
                have I2117 : jI92 σ2110 := (show (-1) ≤ (σ2110 9 2).toInt by omega)
                refine jcallV (As := [.int 114]) (rest := []) ⟨hx, hb, hml, hown, hts⟩ hK hP hA hS hZ (c_X7_skip_9 l D cI cL ad zz hJ σ2110 τ 114 (114) jz_114 I2115 I2116 I2117 (by omega)) cw_RX7_50 (jc_9 cI cL ad σ2110 τ) rfl ⟨Nat.le_of_ble_eq_true rfl, Nat.le_of_ble_eq_true rfl⟩ rfl rfl rfl hl.1 rfl (Nat.le_of_ble_eq_true rfl) dX7_readOrder_120 ⟨Nat.zero_le _, Nat.zero_le _⟩ (fun r2119 σ2118 τ2118 H locs h2118 hP hS => ?_)
                obtain ⟨rfl, f2120, f2121, I2122, I2123, I2124, h2118⟩ := h2118
                obtain ⟨i2125, w2126, w2127⟩ : (0 ≤ (σ2118 9 0).toInt ∧ (σ2118 9 0).toInt ≤ 80) ∧ (∀ k : Nat, k < 80 → 0 ≤ (σ2118 10 k).toInt ∧ (σ2118 10 k).toInt ≤ 255) ∧ (∀ k : Nat, k < 8 → 0 ≤ (σ2118 11 k).toInt ∧ (σ2118 11 k).toInt ≤ 3) := id I2122
                obtain ⟨i2128, i2129⟩ : (0 ≤ (σ2118 9 1).toInt) ∧ ((σ2118 9 1).toInt ≤ (σ2118 9 0).toInt) := id I2123
                have i2130 : (-1) ≤ (σ2118 9 2).toInt := I2124
                have z2131 : (σ2118 9 0).toInt = (σ 9 0).toInt := (congrArg Int32.toInt (show σ2118 9 0 = (σ 9 0) from ((f2121 0 (by decide)).trans ((f2113 0 (by decide)).trans ((f2094 0 (by decide)).trans ((f1978 0 (by decide)).trans ((f32 0 (by decide)).trans (f11 0 (by decide)))))))))
                have z2132 : (σ2118 9 2).toInt = (σ2110 9 2).toInt := (congrArg Int32.toInt (show σ2118 9 2 = (σ2110 9 2) from (f2121 2 (by decide))))
                refine lv_if_eq (tgt := 133) hx hb dX7_readOrder_123 (by decide) (fun c2133 => ?_) (fun c2133 => ?_)
                · have kc2133 := jeq c2133 rfl jz_0
                  refine lv_aload_n hx hb dX7_readOrder_133 rfl (lv_at hl 4 rfl) ?_
                  refine jcallV (As := []) (rest := []) ⟨hx, hb, hml, hown, hts⟩ hK hP hA hS hZ (c_X7_end_9 l D cI cL ad zz hJ σ2118 τ I2122 I2123 I2124) cw_RX7_57 (jc_9 cI cL ad σ2118 τ) rfl ⟨Nat.le_of_ble_eq_true rfl, Nat.le_of_ble_eq_true rfl⟩ rfl rfl rfl hl.1 rfl (Nat.le_of_ble_eq_true rfl) dX7_readOrder_134 ⟨Nat.zero_le _, Nat.zero_le _⟩ (fun r2135 σ2134 τ2134 H locs h2134 hP hS => ?_)
                  obtain ⟨rfl, f2136, f2137, I2138, I2139, h2134⟩ := h2134
                  obtain ⟨i2140, w2141, w2142⟩ : (0 ≤ (σ2134 9 0).toInt ∧ (σ2134 9 0).toInt ≤ 80) ∧ (∀ k : Nat, k < 80 → 0 ≤ (σ2134 10 k).toInt ∧ (σ2134 10 k).toInt ≤ 255) ∧ (∀ k : Nat, k < 8 → 0 ≤ (σ2134 11 k).toInt ∧ (σ2134 11 k).toInt ≤ 3) := id I2138
                  have i2143 : (-1) ≤ (σ2134 9 2).toInt := I2139
                  obtain ⟨k2144, h2134⟩ := h2134
                  rcases h2134 with h2145 | h2146
                  · obtain ⟨q2148, k2147⟩ := h2145
                    exact absurd (by omega : False) id
                  · obtain ⟨q2150, k2149⟩ := h2146
                    refine lv_istore (lv' := [(5, .int r2135), (3, .int r2092), (4, .int 0), (2, .int x24), (0, .ref (ad 9)), (1, .ref (ad 16))]) hx hb dX7_readOrder_137 hl (by decide) rfl (fun ls hl => ?_)
                    refine lv_iload hx hb dX7_readOrder_139 (lv_at hl 0 rfl) ?_
                    refine lv_iconst (v := (-1)) hx hb dX7_readOrder_141 (by decide) ?_
                    refine lv_icmp_eq (tgt := 148) hx hb dX7_readOrder_142 (by decide) (fun c => absurd (jeq c rfl jz_m1) (by omega)) (fun c2151 => ?_)
                    have kc2151 := jne c2151 rfl jz_m1
                    refine lv_iload hx hb dX7_readOrder_145 (lv_at hl 0 rfl) ?_
                    have I2152 : jI16 σ2134 := jI16_fr ((congrFun (f2136 16 (by decide)) 0).trans ((congrFun (f2120 16 (by decide)) 0).trans ((congrFun (f2112 16 (by decide)) 0).trans ((congrFun (f2093 16 (by decide)) 0).trans ((congrFun (f1977 16 (by decide)) 0).trans ((congrFun (f31 16 (by decide)) 0).trans (congrFun (f10 16 (by decide)) 0))))))) ((congrFun (f2136 16 (by decide)) 1).trans ((congrFun (f2120 16 (by decide)) 1).trans ((congrFun (f2112 16 (by decide)) 1).trans ((congrFun (f2093 16 (by decide)) 1).trans ((congrFun (f1977 16 (by decide)) 1).trans ((congrFun (f31 16 (by decide)) 1).trans (congrFun (f10 16 (by decide)) 1))))))) ((congrFun (f2136 16 (by decide)) 2).trans ((congrFun (f2120 16 (by decide)) 2).trans ((congrFun (f2112 16 (by decide)) 2).trans ((congrFun (f2093 16 (by decide)) 2).trans ((congrFun (f1977 16 (by decide)) 2).trans ((congrFun (f31 16 (by decide)) 2).trans (congrFun (f10 16 (by decide)) 2))))))) ((f2136 17 (by decide)).trans ((f2120 17 (by decide)).trans ((f2112 17 (by decide)).trans ((f2093 17 (by decide)).trans ((f1977 17 (by decide)).trans ((f31 17 (by decide)).trans (f10 17 (by decide)))))))) hI16
                    exact hret r2135 σ2134 τ _ _ _ _ rfl ⟨rfl, (fun i hi => ((f2136 i (imp_46 i hi)).trans ((f2120 i (imp_46 i hi)).trans ((f2112 i (imp_46 i hi)).trans ((f2093 i (imp_46 i hi)).trans ((f1977 i (imp_46 i hi)).trans ((f31 i (imp_47 i hi)).trans (f10 i (imp_46 i hi))))))))), (fun i hi => ((f2137 i (imp_48 i hi)).trans ((f2121 i (imp_49 i hi)).trans ((f2113 i (imp_54 i hi)).trans ((f2094 i (imp_50 i hi)).trans ((f1978 i (imp_49 i hi)).trans ((f32 i (imp_49 i hi)).trans (f11 i (imp_50 i hi))))))))), (fun i hi => ((congrFun (f2136 16 (by decide)) i).trans ((congrFun (f2120 16 (by decide)) i).trans ((congrFun (f2112 16 (by decide)) i).trans ((congrFun (f2093 16 (by decide)) i).trans ((congrFun (f1977 16 (by decide)) i).trans ((congrFun (f31 16 (by decide)) i).trans (congrFun (f10 16 (by decide)) i)))))))), I2138, I2152, (by omega), trivial⟩ hP hS dX7_readOrder_147
                · have kc2133 := jne c2133 rfl jz_0
                  refine lv_aload_n hx hb dX7_readOrder_126 rfl (lv_at hl 4 rfl) ?_
                  refine lv_iconst (v := 3) hx hb dX7_readOrder_127 (by decide) ?_
                  refine jcallV (As := [.int 3]) (rest := []) ⟨hx, hb, hml, hown, hts⟩ hK hP hA hS hZ (c_X7_number_3 l D cI cL ad zz hJ σ2118 τ I2122 I2123 I2124) cw_RX7_53 (jc_9 cI cL ad σ2118 τ) rfl ⟨Nat.le_of_ble_eq_true rfl, Nat.le_of_ble_eq_true rfl⟩ rfl rfl rfl hl.1 rfl (Nat.le_of_ble_eq_true rfl) dX7_readOrder_128 ⟨Nat.zero_le _, Nat.zero_le _⟩ (fun r2154 σ2153 τ2153 H locs h2153 hP hS => ?_)
                  obtain ⟨rfl, f2155, f2156, I2157, I2158, I2159, h2153⟩ := h2153
                  obtain ⟨i2160, w2161, w2162⟩ : (0 ≤ (σ2153 9 0).toInt ∧ (σ2153 9 0).toInt ≤ 80) ∧ (∀ k : Nat, k < 80 → 0 ≤ (σ2153 10 k).toInt ∧ (σ2153 10 k).toInt ≤ 255) ∧ (∀ k : Nat, k < 8 → 0 ≤ (σ2153 11 k).toInt ∧ (σ2153 11 k).toInt ≤ 3) := id I2157
                  obtain ⟨i2163, i2164⟩ : (0 ≤ (σ2153 9 1).toInt) ∧ ((σ2153 9 1).toInt ≤ (σ2153 9 0).toInt) := id I2158
                  have i2165 : (-1) ≤ (σ2153 9 2).toInt := I2159
                  have z2166 : (σ2153 9 0).toInt = (σ 9 0).toInt := (congrArg Int32.toInt (show σ2153 9 0 = (σ 9 0) from ((f2156 0 (by decide)).trans ((f2121 0 (by decide)).trans ((f2113 0 (by decide)).trans ((f2094 0 (by decide)).trans ((f1978 0 (by decide)).trans ((f32 0 (by decide)).trans (f11 0 (by decide))))))))))
                  obtain ⟨k2167, h2153⟩ := h2153
                  have h2168 := h2153
                  obtain ⟨q2170, k2169⟩ := h2168
                  refine lv_istore (lv' := [(4, .int r2154), (3, .int r2092), (5, .int (σ1975 9 1)), (2, .int x24), (0, .ref (ad 9)), (1, .ref (ad 16))]) hx hb dX7_readOrder_131 hl (by decide) rfl (fun ls hl => ?_)
                  refine lv_aload_n hx hb dX7_readOrder_133 rfl (lv_at hl 4 rfl) ?_
                  refine jcallV (As := []) (rest := []) ⟨hx, hb, hml, hown, hts⟩ hK hP hA hS hZ (c_X7_end_9 l D cI cL ad zz hJ σ2153 τ I2157 I2158 I2159) cw_RX7_57 (jc_9 cI cL ad σ2153 τ) rfl ⟨Nat.le_of_ble_eq_true rfl, Nat.le_of_ble_eq_true rfl⟩ rfl rfl rfl hl.1 rfl (Nat.le_of_ble_eq_true rfl) dX7_readOrder_134 ⟨Nat.zero_le _, Nat.zero_le _⟩ (fun r2172 σ2171 τ2171 H locs h2171 hP hS => ?_)
                  obtain ⟨rfl, f2173, f2174, I2175, I2176, h2171⟩ := h2171
                  obtain ⟨i2177, w2178, w2179⟩ : (0 ≤ (σ2171 9 0).toInt ∧ (σ2171 9 0).toInt ≤ 80) ∧ (∀ k : Nat, k < 80 → 0 ≤ (σ2171 10 k).toInt ∧ (σ2171 10 k).toInt ≤ 255) ∧ (∀ k : Nat, k < 8 → 0 ≤ (σ2171 11 k).toInt ∧ (σ2171 11 k).toInt ≤ 3) := id I2175
                  have i2180 : (-1) ≤ (σ2171 9 2).toInt := I2176
                  obtain ⟨k2181, h2171⟩ := h2171
                  rcases h2171 with h2182 | h2183
                  · obtain ⟨q2185, k2184⟩ := h2182
                    exact absurd (by omega : False) id
                  · obtain ⟨q2187, k2186⟩ := h2183
                    refine lv_istore (lv' := [(5, .int r2172), (4, .int r2154), (3, .int r2092), (2, .int x24), (0, .ref (ad 9)), (1, .ref (ad 16))]) hx hb dX7_readOrder_137 hl (by decide) rfl (fun ls hl => ?_)
                    refine lv_iload hx hb dX7_readOrder_139 (lv_at hl 0 rfl) ?_
                    refine lv_iconst (v := (-1)) hx hb dX7_readOrder_141 (by decide) ?_
                    refine lv_icmp_eq (tgt := 148) hx hb dX7_readOrder_142 (by decide) (fun c => absurd (jeq c rfl jz_m1) (by omega)) (fun c2188 => ?_)
                    have kc2188 := jne c2188 rfl jz_m1
                    refine lv_iload hx hb dX7_readOrder_145 (lv_at hl 0 rfl) ?_
                    have I2189 : jI16 σ2171 := jI16_fr ((congrFun (f2173 16 (by decide)) 0).trans ((congrFun (f2155 16 (by decide)) 0).trans ((congrFun (f2120 16 (by decide)) 0).trans ((congrFun (f2112 16 (by decide)) 0).trans ((congrFun (f2093 16 (by decide)) 0).trans ((congrFun (f1977 16 (by decide)) 0).trans ((congrFun (f31 16 (by decide)) 0).trans (congrFun (f10 16 (by decide)) 0)))))))) ((congrFun (f2173 16 (by decide)) 1).trans ((congrFun (f2155 16 (by decide)) 1).trans ((congrFun (f2120 16 (by decide)) 1).trans ((congrFun (f2112 16 (by decide)) 1).trans ((congrFun (f2093 16 (by decide)) 1).trans ((congrFun (f1977 16 (by decide)) 1).trans ((congrFun (f31 16 (by decide)) 1).trans (congrFun (f10 16 (by decide)) 1)))))))) ((congrFun (f2173 16 (by decide)) 2).trans ((congrFun (f2155 16 (by decide)) 2).trans ((congrFun (f2120 16 (by decide)) 2).trans ((congrFun (f2112 16 (by decide)) 2).trans ((congrFun (f2093 16 (by decide)) 2).trans ((congrFun (f1977 16 (by decide)) 2).trans ((congrFun (f31 16 (by decide)) 2).trans (congrFun (f10 16 (by decide)) 2)))))))) ((f2173 17 (by decide)).trans ((f2155 17 (by decide)).trans ((f2120 17 (by decide)).trans ((f2112 17 (by decide)).trans ((f2093 17 (by decide)).trans ((f1977 17 (by decide)).trans ((f31 17 (by decide)).trans (f10 17 (by decide))))))))) hI16
                    exact hret r2172 σ2171 τ _ _ _ _ rfl ⟨rfl, (fun i hi => ((f2173 i (imp_46 i hi)).trans ((f2155 i (imp_46 i hi)).trans ((f2120 i (imp_46 i hi)).trans ((f2112 i (imp_46 i hi)).trans ((f2093 i (imp_46 i hi)).trans ((f1977 i (imp_46 i hi)).trans ((f31 i (imp_47 i hi)).trans (f10 i (imp_46 i hi)))))))))), (fun i hi => ((f2174 i (imp_48 i hi)).trans ((f2156 i (imp_50 i hi)).trans ((f2121 i (imp_49 i hi)).trans ((f2113 i (imp_54 i hi)).trans ((f2094 i (imp_50 i hi)).trans ((f1978 i (imp_49 i hi)).trans ((f32 i (imp_49 i hi)).trans (f11 i (imp_50 i hi)))))))))), (fun i hi => ((congrFun (f2173 16 (by decide)) i).trans ((congrFun (f2155 16 (by decide)) i).trans ((congrFun (f2120 16 (by decide)) i).trans ((congrFun (f2112 16 (by decide)) i).trans ((congrFun (f2093 16 (by decide)) i).trans ((congrFun (f1977 16 (by decide)) i).trans ((congrFun (f31 16 (by decide)) i).trans (congrFun (f10 16 (by decide)) i))))))))), I2175, I2189, (by omega), trivial⟩ hP hS dX7_readOrder_147
              · have kc2109 := jnlt c2109 rfl jz_1
                refine lv_iload_n hx hb dX7_readOrder_105 rfl (lv_at hl 0 rfl) ?_
                refine lv_bipush (v := 12) hx hb dX7_readOrder_106 (by decide) ?_
                refine lv_icmp_le (tgt := 117) hx hb dX7_readOrder_108 (by decide) (fun c2190 => ?_) (fun c2190 => ?_)
                · have kc2190 := jle c2190 rfl jz_12
                  refine lv_aload_n hx hb dX7_readOrder_117 rfl (lv_at hl 4 rfl) ?_
                  refine lv_bipush (v := 114) hx hb dX7_readOrder_118 (by decide) ?_
                  refine jcallV (As := [.int 114]) (rest := []) ⟨hx, hb, hml, hown, hts⟩ hK hP hA hS hZ (c_X7_skip_9 l D cI cL ad zz hJ σ2091 τ 114 (114) jz_114 I2095 I2096 I2097 (by omega)) cw_RX7_50 (jc_9 cI cL ad σ2091 τ) rfl ⟨Nat.le_of_ble_eq_true rfl, Nat.le_of_ble_eq_true rfl⟩ rfl rfl rfl hl.1 rfl (Nat.le_of_ble_eq_true rfl) dX7_readOrder_120 ⟨Nat.zero_le _, Nat.zero_le _⟩ (fun r2192 σ2191 τ2191 H locs h2191 hP hS => ?_)
                  obtain ⟨rfl, f2193, f2194, I2195, I2196, I2197, h2191⟩ := h2191
                  obtain ⟨i2198, w2199, w2200⟩ : (0 ≤ (σ2191 9 0).toInt ∧ (σ2191 9 0).toInt ≤ 80) ∧ (∀ k : Nat, k < 80 → 0 ≤ (σ2191 10 k).toInt ∧ (σ2191 10 k).toInt ≤ 255) ∧ (∀ k : Nat, k < 8 → 0 ≤ (σ2191 11 k).toInt ∧ (σ2191 11 k).toInt ≤ 3) := id I2195
                  obtain ⟨i2201, i2202⟩ : (0 ≤ (σ2191 9 1).toInt) ∧ ((σ2191 9 1).toInt ≤ (σ2191 9 0).toInt) := id I2196
                  have i2203 : (-1) ≤ (σ2191 9 2).toInt := I2197
                  have z2204 : (σ2191 9 0).toInt = (σ 9 0).toInt := (congrArg Int32.toInt (show σ2191 9 0 = (σ 9 0) from ((f2194 0 (by decide)).trans ((f2094 0 (by decide)).trans ((f1978 0 (by decide)).trans ((f32 0 (by decide)).trans (f11 0 (by decide))))))))
                  have z2205 : (σ2191 9 2).toInt = (σ2091 9 2).toInt := (congrArg Int32.toInt (show σ2191 9 2 = (σ2091 9 2) from (f2194 2 (by decide))))
                  refine lv_if_eq (tgt := 133) hx hb dX7_readOrder_123 (by decide) (fun c2206 => ?_) (fun c2206 => ?_)
                  · have kc2206 := jeq c2206 rfl jz_0
                    refine lv_aload_n hx hb dX7_readOrder_133 rfl (lv_at hl 4 rfl) ?_
                    refine jcallV (As := []) (rest := []) ⟨hx, hb, hml, hown, hts⟩ hK hP hA hS hZ (c_X7_end_9 l D cI cL ad zz hJ σ2191 τ I2195 I2196 I2197) cw_RX7_57 (jc_9 cI cL ad σ2191 τ) rfl ⟨Nat.le_of_ble_eq_true rfl, Nat.le_of_ble_eq_true rfl⟩ rfl rfl rfl hl.1 rfl (Nat.le_of_ble_eq_true rfl) dX7_readOrder_134 ⟨Nat.zero_le _, Nat.zero_le _⟩ (fun r2208 σ2207 τ2207 H locs h2207 hP hS => ?_)
                    obtain ⟨rfl, f2209, f2210, I2211, I2212, h2207⟩ := h2207
                    obtain ⟨i2213, w2214, w2215⟩ : (0 ≤ (σ2207 9 0).toInt ∧ (σ2207 9 0).toInt ≤ 80) ∧ (∀ k : Nat, k < 80 → 0 ≤ (σ2207 10 k).toInt ∧ (σ2207 10 k).toInt ≤ 255) ∧ (∀ k : Nat, k < 8 → 0 ≤ (σ2207 11 k).toInt ∧ (σ2207 11 k).toInt ≤ 3) := id I2211
                    have i2216 : (-1) ≤ (σ2207 9 2).toInt := I2212
                    obtain ⟨k2217, h2207⟩ := h2207
                    rcases h2207 with h2218 | h2219
                    · obtain ⟨q2221, k2220⟩ := h2218
                      have q2221 := q2221.symm
                      subst q2221
                      refine lv_istore (lv' := [(5, .int (-1)), (3, .int r2092), (4, .int 0), (2, .int x24), (0, .ref (ad 9)), (1, .ref (ad 16))]) hx hb dX7_readOrder_137 hl (by decide) rfl (fun ls hl => ?_)
                      refine lv_iload hx hb dX7_readOrder_139 (lv_at hl 0 rfl) ?_
                      refine lv_iconst (v := (-1)) hx hb dX7_readOrder_141 (by decide) ?_
                      refine lv_icmp_eq (tgt := 148) hx hb dX7_readOrder_142 (by decide) (fun _ => ?_) (fun c => absurd (by decide) c)
                      refine lv_aload_n hx hb dX7_readOrder_148 rfl (lv_at hl 5 rfl) ?_
                      refine lv_iload_n hx hb dX7_readOrder_149 rfl (lv_at hl 3 rfl) ?_
                      refine jput (ty := .int) hx hb hts inlX6 tyX6 tyX6_ok nmX6 hown hK hP hJ hA hS (jc_16 cI cL ad σ2207 τ) rfl (k := 0) (by decide) (Nat.le_of_ble_eq_true rfl) (jp_16_0 cI cL ad σ2207 τ x24) (hts _ kw_13_18) (fun _ h9 => h9) rfl (by decide +kernel) rfl rfl dX7_readOrder_150 (fun σ2222 H locs eσ2222 hP hS => ?_)
                      refine lv_aload_n hx hb dX7_readOrder_153 rfl (lv_at hl 5 rfl) ?_
                      refine lv_iload_n hx hb dX7_readOrder_154 rfl (lv_at hl 1 rfl) ?_
                      refine jput (ty := .int) hx hb hts inlX6 tyX6 tyX6_ok nmX6 hown hK hP hJ hA hS (jc_16 cI cL ad σ2222 τ) rfl (k := 1) (by decide) (Nat.le_of_ble_eq_true rfl) (jp_16_1 cI cL ad σ2222 τ r2092) (hts _ kw_13_19) (fun _ h9 => h9) rfl (by decide +kernel) rfl rfl dX7_readOrder_155 (fun σ2223 H locs eσ2223 hP hS => ?_)
                      refine lv_aload_n hx hb dX7_readOrder_158 rfl (lv_at hl 5 rfl) ?_
                      refine lv_iload hx hb dX7_readOrder_159 (lv_at hl 2 rfl) ?_
                      refine jput (ty := .int) hx hb hts inlX6 tyX6 tyX6_ok nmX6 hown hK hP hJ hA hS (jc_16 cI cL ad σ2223 τ) rfl (k := 2) (by decide) (Nat.le_of_ble_eq_true rfl) (jp_16_2 cI cL ad σ2223 τ 0) (hts _ kw_13_20) (fun _ h9 => h9) rfl (by decide +kernel) rfl rfl dX7_readOrder_161 (fun σ2224 H locs eσ2224 hP hS => ?_)
                      refine lv_aload_n hx hb dX7_readOrder_164 rfl (lv_at hl 4 rfl) ?_
                      refine va_get (D := D) hx hb hts inlX7 hown hK hP 9 (jc_9 cI cL ad σ2224 τ) rfl 4 (by decide) (hts _ kw_3_21) (fun _ h9 => h9) rfl dX7_readOrder_165 ?_
                      refine lv_iconst (v := 0) hx hb dX7_readOrder_168 (by decide) ?_
                      refine lv_aload_n hx hb dX7_readOrder_169 rfl (lv_at hl 5 rfl) ?_
                      refine va_get (D := D) hx hb hts inlX6 hown hK hP 16 (jc_16 cI cL ad σ2224 τ) rfl 3 (by decide) (hts _ kw_13_21) (fun _ h9 => h9) rfl dX7_readOrder_170 ?_
                      refine lv_iconst (v := 0) hx hb dX7_readOrder_173 (by decide) ?_
                      refine lv_iload_n hx hb dX7_readOrder_174 rfl (lv_at hl 3 rfl) ?_
                      refine jcpyI (q0 := 11) (q1 := 17) hx hb (hml.trans hl.1.symm) hown (hts _ kw_13_22) (hts _ kw_13_23) (hts _ kw_14_0) (hts _ kw_14_1) hK hP hJ hA hS (jc_11 cI cL ad σ2224 τ) (jc_17 cI cL ad σ2224 τ) (fun _ => rfl) jz_0 jz_0 rfl (by omega) (by omega) (by omega) (by omega) (by omega) (Nat.le_of_ble_eq_true rfl) (Nat.le_of_ble_eq_true rfl) dX7_readOrder_175 (fun σ2225 H locs eσ2225 hP hS => ?_)
                      have w2226 : ∀ k : Nat, k < 8 → 0 ≤ (σ2224 11 k).toInt ∧ (σ2224 11 k).toInt ≤ 3 := (jrr_fr (jnp 11 eσ2224 (by decide)) (jrr_fr (jnp 11 eσ2223 (by decide)) (jrr_fr (jnp 11 eσ2222 (by decide)) w2215)))
                      have w2227 : ∀ k : Nat, k < 8 → 0 ≤ (σ2224 17 k).toInt ∧ (σ2224 17 k).toInt ≤ 3 := (jrr_fr (jnp 17 eσ2224 (by decide)) (jrr_fr (jnp 17 eσ2223 (by decide)) (jrr_fr (jnp 17 eσ2222 (by decide)) (jrr_fr (f2209 17 (by decide)) (jrr_fr (f2193 17 (by decide)) (jrr_fr (f2093 17 (by decide)) (jrr_fr (f1977 17 (by decide)) (jrr_fr (f31 17 (by decide)) (jrr_fr (f10 17 (by decide)) w7)))))))))
                      have f2228 : (∀ i : Nat, (i < 17 ∨ 17 < i) → σ2225 i = σ2224 i) := by rw [eσ2225]; exact jrow_n
                      have w2229 : ∀ k : Nat, k < 8 → 0 ≤ (σ2225 17 k).toInt ∧ (σ2225 17 k).toInt ≤ 3 := by rw [eσ2225]; exact jrow_rr w2226 w2227 jz_0 rfl (n0 := 8) (by omega) (by omega) (by omega)
                      refine lv_iconst (v := (-1)) hx hb dX7_readOrder_178 (by decide) ?_
                      have I2230 : jI9 σ2225 := jI9_fr ((congrFun (f2228 9 (by decide)) 0).trans ((congrFun (jnp 9 eσ2224 (by decide)) 0).trans ((congrFun (jnp 9 eσ2223 (by decide)) 0).trans (congrFun (jnp 9 eσ2222 (by decide)) 0)))) ((f2228 10 (by decide)).trans ((jnp 10 eσ2224 (by decide)).trans ((jnp 10 eσ2223 (by decide)).trans (jnp 10 eσ2222 (by decide))))) ((f2228 11 (by decide)).trans ((jnp 11 eσ2224 (by decide)).trans ((jnp 11 eσ2223 (by decide)).trans (jnp 11 eσ2222 (by decide))))) I2211
                      have z2231 : (σ2225 16 0).toInt = x24.toInt := (congrArg Int32.toInt (show σ2225 16 0 = x24 from ((congrFun (f2228 16 (by decide)) 0).trans ((jkp 0 eσ2224 (by decide)).trans ((jkp 0 eσ2223 (by decide)).trans (jsp eσ2222))))))
                      have z2232 : (σ2225 16 1).toInt = r2092.toInt := (congrArg Int32.toInt (show σ2225 16 1 = r2092 from ((congrFun (f2228 16 (by decide)) 1).trans ((jkp 1 eσ2224 (by decide)).trans (jsp eσ2223)))))
                      have z2233 : (σ2225 16 2).toInt = 0 := ((congrArg Int32.toInt (show σ2225 16 2 = 0 from ((congrFun (f2228 16 (by decide)) 2).trans (jsp eσ2224)))).trans jz_0)
                      have I2234 : jI16 σ2225 := ⟨(by omega), (by omega), (by omega), w2229⟩
                      have z2235 : (σ2225 9 0).toInt = (σ2207 9 0).toInt := (congrArg Int32.toInt (show σ2225 9 0 = (σ2207 9 0) from ((congrFun (f2228 9 (by decide)) 0).trans ((congrFun (jnp 9 eσ2224 (by decide)) 0).trans ((congrFun (jnp 9 eσ2223 (by decide)) 0).trans (congrFun (jnp 9 eσ2222 (by decide)) 0))))))
                      exact hret (-1) σ2225 τ _ _ _ _ rfl ⟨rfl, (fun i hi => ((f2228 i (imp_44 i hi)).trans ((jnp i eσ2224 (imp_45 i hi)).trans ((jnp i eσ2223 (imp_45 i hi)).trans ((jnp i eσ2222 (imp_45 i hi)).trans ((f2209 i (imp_46 i hi)).trans ((f2193 i (imp_46 i hi)).trans ((f2093 i (imp_46 i hi)).trans ((f1977 i (imp_46 i hi)).trans ((f31 i (imp_47 i hi)).trans (f10 i (imp_46 i hi)))))))))))), (fun i hi => ((congrFun (f2228 9 (by decide)) i).trans ((congrFun (jnp 9 eσ2224 (by decide)) i).trans ((congrFun (jnp 9 eσ2223 (by decide)) i).trans ((congrFun (jnp 9 eσ2222 (by decide)) i).trans ((f2210 i (imp_48 i hi)).trans ((f2194 i (imp_49 i hi)).trans ((f2094 i (imp_50 i hi)).trans ((f1978 i (imp_49 i hi)).trans ((f32 i (imp_49 i hi)).trans (f11 i (imp_50 i hi)))))))))))), (fun i hi => ((congrFun (f2228 16 (by decide)) i).trans ((jkp i eσ2224 (imp_51 i hi)).trans ((jkp i eσ2223 (imp_52 i hi)).trans ((jkp i eσ2222 (imp_53 i hi)).trans ((congrFun (f2209 16 (by decide)) i).trans ((congrFun (f2193 16 (by decide)) i).trans ((congrFun (f2093 16 (by decide)) i).trans ((congrFun (f1977 16 (by decide)) i).trans ((congrFun (f31 16 (by decide)) i).trans (congrFun (f10 16 (by decide)) i))))))))))), I2230, I2234, (by omega), trivial⟩ hP hS dX7_readOrder_179
                    · obtain ⟨q2237, k2236⟩ := h2219
                      refine lv_istore (lv' := [(5, .int r2208), (3, .int r2092), (4, .int 0), (2, .int x24), (0, .ref (ad 9)), (1, .ref (ad 16))]) hx hb dX7_readOrder_137 hl (by decide) rfl (fun ls hl => ?_)
                      refine lv_iload hx hb dX7_readOrder_139 (lv_at hl 0 rfl) ?_
                      refine lv_iconst (v := (-1)) hx hb dX7_readOrder_141 (by decide) ?_
                      refine lv_icmp_eq (tgt := 148) hx hb dX7_readOrder_142 (by decide) (fun c => absurd (jeq c rfl jz_m1) (by omega)) (fun c2238 => ?_)
                      have kc2238 := jne c2238 rfl jz_m1
                      refine lv_iload hx hb dX7_readOrder_145 (lv_at hl 0 rfl) ?_
                      have I2239 : jI16 σ2207 := jI16_fr ((congrFun (f2209 16 (by decide)) 0).trans ((congrFun (f2193 16 (by decide)) 0).trans ((congrFun (f2093 16 (by decide)) 0).trans ((congrFun (f1977 16 (by decide)) 0).trans ((congrFun (f31 16 (by decide)) 0).trans (congrFun (f10 16 (by decide)) 0)))))) ((congrFun (f2209 16 (by decide)) 1).trans ((congrFun (f2193 16 (by decide)) 1).trans ((congrFun (f2093 16 (by decide)) 1).trans ((congrFun (f1977 16 (by decide)) 1).trans ((congrFun (f31 16 (by decide)) 1).trans (congrFun (f10 16 (by decide)) 1)))))) ((congrFun (f2209 16 (by decide)) 2).trans ((congrFun (f2193 16 (by decide)) 2).trans ((congrFun (f2093 16 (by decide)) 2).trans ((congrFun (f1977 16 (by decide)) 2).trans ((congrFun (f31 16 (by decide)) 2).trans (congrFun (f10 16 (by decide)) 2)))))) ((f2209 17 (by decide)).trans ((f2193 17 (by decide)).trans ((f2093 17 (by decide)).trans ((f1977 17 (by decide)).trans ((f31 17 (by decide)).trans (f10 17 (by decide))))))) hI16
                      exact hret r2208 σ2207 τ _ _ _ _ rfl ⟨rfl, (fun i hi => ((f2209 i (imp_46 i hi)).trans ((f2193 i (imp_46 i hi)).trans ((f2093 i (imp_46 i hi)).trans ((f1977 i (imp_46 i hi)).trans ((f31 i (imp_47 i hi)).trans (f10 i (imp_46 i hi)))))))), (fun i hi => ((f2210 i (imp_48 i hi)).trans ((f2194 i (imp_49 i hi)).trans ((f2094 i (imp_50 i hi)).trans ((f1978 i (imp_49 i hi)).trans ((f32 i (imp_49 i hi)).trans (f11 i (imp_50 i hi)))))))), (fun i hi => ((congrFun (f2209 16 (by decide)) i).trans ((congrFun (f2193 16 (by decide)) i).trans ((congrFun (f2093 16 (by decide)) i).trans ((congrFun (f1977 16 (by decide)) i).trans ((congrFun (f31 16 (by decide)) i).trans (congrFun (f10 16 (by decide)) i))))))), I2211, I2239, (by omega), trivial⟩ hP hS dX7_readOrder_147
                  · have kc2206 := jne c2206 rfl jz_0
                    refine lv_aload_n hx hb dX7_readOrder_126 rfl (lv_at hl 4 rfl) ?_
                    refine lv_iconst (v := 3) hx hb dX7_readOrder_127 (by decide) ?_
                    refine jcallV (As := [.int 3]) (rest := []) ⟨hx, hb, hml, hown, hts⟩ hK hP hA hS hZ (c_X7_number_3 l D cI cL ad zz hJ σ2191 τ I2195 I2196 I2197) cw_RX7_53 (jc_9 cI cL ad σ2191 τ) rfl ⟨Nat.le_of_ble_eq_true rfl, Nat.le_of_ble_eq_true rfl⟩ rfl rfl rfl hl.1 rfl (Nat.le_of_ble_eq_true rfl) dX7_readOrder_128 ⟨Nat.zero_le _, Nat.zero_le _⟩ (fun r2241 σ2240 τ2240 H locs h2240 hP hS => ?_)
                    obtain ⟨rfl, f2242, f2243, I2244, I2245, I2246, h2240⟩ := h2240
                    obtain ⟨i2247, w2248, w2249⟩ : (0 ≤ (σ2240 9 0).toInt ∧ (σ2240 9 0).toInt ≤ 80) ∧ (∀ k : Nat, k < 80 → 0 ≤ (σ2240 10 k).toInt ∧ (σ2240 10 k).toInt ≤ 255) ∧ (∀ k : Nat, k < 8 → 0 ≤ (σ2240 11 k).toInt ∧ (σ2240 11 k).toInt ≤ 3) := id I2244
                    obtain ⟨i2250, i2251⟩ : (0 ≤ (σ2240 9 1).toInt) ∧ ((σ2240 9 1).toInt ≤ (σ2240 9 0).toInt) := id I2245
                    have i2252 : (-1) ≤ (σ2240 9 2).toInt := I2246
                    have z2253 : (σ2240 9 0).toInt = (σ 9 0).toInt := (congrArg Int32.toInt (show σ2240 9 0 = (σ 9 0) from ((f2243 0 (by decide)).trans ((f2194 0 (by decide)).trans ((f2094 0 (by decide)).trans ((f1978 0 (by decide)).trans ((f32 0 (by decide)).trans (f11 0 (by decide)))))))))
                    obtain ⟨k2254, h2240⟩ := h2240
                    have h2255 := h2240
                    obtain ⟨q2257, k2256⟩ := h2255
                    refine lv_istore (lv' := [(4, .int r2241), (3, .int r2092), (5, .int (σ1975 9 1)), (2, .int x24), (0, .ref (ad 9)), (1, .ref (ad 16))]) hx hb dX7_readOrder_131 hl (by decide) rfl (fun ls hl => ?_)
                    refine lv_aload_n hx hb dX7_readOrder_133 rfl (lv_at hl 4 rfl) ?_
                    refine jcallV (As := []) (rest := []) ⟨hx, hb, hml, hown, hts⟩ hK hP hA hS hZ (c_X7_end_9 l D cI cL ad zz hJ σ2240 τ I2244 I2245 I2246) cw_RX7_57 (jc_9 cI cL ad σ2240 τ) rfl ⟨Nat.le_of_ble_eq_true rfl, Nat.le_of_ble_eq_true rfl⟩ rfl rfl rfl hl.1 rfl (Nat.le_of_ble_eq_true rfl) dX7_readOrder_134 ⟨Nat.zero_le _, Nat.zero_le _⟩ (fun r2259 σ2258 τ2258 H locs h2258 hP hS => ?_)
                    obtain ⟨rfl, f2260, f2261, I2262, I2263, h2258⟩ := h2258
                    obtain ⟨i2264, w2265, w2266⟩ : (0 ≤ (σ2258 9 0).toInt ∧ (σ2258 9 0).toInt ≤ 80) ∧ (∀ k : Nat, k < 80 → 0 ≤ (σ2258 10 k).toInt ∧ (σ2258 10 k).toInt ≤ 255) ∧ (∀ k : Nat, k < 8 → 0 ≤ (σ2258 11 k).toInt ∧ (σ2258 11 k).toInt ≤ 3) := id I2262
                    have i2267 : (-1) ≤ (σ2258 9 2).toInt := I2263
                    obtain ⟨k2268, h2258⟩ := h2258
                    rcases h2258 with h2269 | h2270
                    · obtain ⟨q2272, k2271⟩ := h2269
                      have q2272 := q2272.symm
                      subst q2272
                      refine lv_istore (lv' := [(5, .int (-1)), (4, .int r2241), (3, .int r2092), (2, .int x24), (0, .ref (ad 9)), (1, .ref (ad 16))]) hx hb dX7_readOrder_137 hl (by decide) rfl (fun ls hl => ?_)
                      refine lv_iload hx hb dX7_readOrder_139 (lv_at hl 0 rfl) ?_
                      refine lv_iconst (v := (-1)) hx hb dX7_readOrder_141 (by decide) ?_
                      refine lv_icmp_eq (tgt := 148) hx hb dX7_readOrder_142 (by decide) (fun _ => ?_) (fun c => absurd (by decide) c)
                      refine lv_aload_n hx hb dX7_readOrder_148 rfl (lv_at hl 5 rfl) ?_
                      refine lv_iload_n hx hb dX7_readOrder_149 rfl (lv_at hl 3 rfl) ?_
                      refine jput (ty := .int) hx hb hts inlX6 tyX6 tyX6_ok nmX6 hown hK hP hJ hA hS (jc_16 cI cL ad σ2258 τ) rfl (k := 0) (by decide) (Nat.le_of_ble_eq_true rfl) (jp_16_0 cI cL ad σ2258 τ x24) (hts _ kw_13_18) (fun _ h9 => h9) rfl (by decide +kernel) rfl rfl dX7_readOrder_150 (fun σ2273 H locs eσ2273 hP hS => ?_)
                      refine lv_aload_n hx hb dX7_readOrder_153 rfl (lv_at hl 5 rfl) ?_
                      refine lv_iload_n hx hb dX7_readOrder_154 rfl (lv_at hl 2 rfl) ?_
                      refine jput (ty := .int) hx hb hts inlX6 tyX6 tyX6_ok nmX6 hown hK hP hJ hA hS (jc_16 cI cL ad σ2273 τ) rfl (k := 1) (by decide) (Nat.le_of_ble_eq_true rfl) (jp_16_1 cI cL ad σ2273 τ r2092) (hts _ kw_13_19) (fun _ h9 => h9) rfl (by decide +kernel) rfl rfl dX7_readOrder_155 (fun σ2274 H locs eσ2274 hP hS => ?_)
                      refine lv_aload_n hx hb dX7_readOrder_158 rfl (lv_at hl 5 rfl) ?_
                      refine lv_iload hx hb dX7_readOrder_159 (lv_at hl 1 rfl) ?_
                      refine jput (ty := .int) hx hb hts inlX6 tyX6 tyX6_ok nmX6 hown hK hP hJ hA hS (jc_16 cI cL ad σ2274 τ) rfl (k := 2) (by decide) (Nat.le_of_ble_eq_true rfl) (jp_16_2 cI cL ad σ2274 τ r2241) (hts _ kw_13_20) (fun _ h9 => h9) rfl (by decide +kernel) rfl rfl dX7_readOrder_161 (fun σ2275 H locs eσ2275 hP hS => ?_)
                      refine lv_aload_n hx hb dX7_readOrder_164 rfl (lv_at hl 4 rfl) ?_
                      refine va_get (D := D) hx hb hts inlX7 hown hK hP 9 (jc_9 cI cL ad σ2275 τ) rfl 4 (by decide) (hts _ kw_3_21) (fun _ h9 => h9) rfl dX7_readOrder_165 ?_
                      refine lv_iconst (v := 0) hx hb dX7_readOrder_168 (by decide) ?_
                      refine lv_aload_n hx hb dX7_readOrder_169 rfl (lv_at hl 5 rfl) ?_
                      refine va_get (D := D) hx hb hts inlX6 hown hK hP 16 (jc_16 cI cL ad σ2275 τ) rfl 3 (by decide) (hts _ kw_13_21) (fun _ h9 => h9) rfl dX7_readOrder_170 ?_
                      refine lv_iconst (v := 0) hx hb dX7_readOrder_173 (by decide) ?_
                      refine lv_iload_n hx hb dX7_readOrder_174 rfl (lv_at hl 3 rfl) ?_
                      refine jcpyI (q0 := 11) (q1 := 17) hx hb (hml.trans hl.1.symm) hown (hts _ kw_13_22) (hts _ kw_13_23) (hts _ kw_14_0) (hts _ kw_14_1) hK hP hJ hA hS (jc_11 cI cL ad σ2275 τ) (jc_17 cI cL ad σ2275 τ) (fun _ => rfl) jz_0 jz_0 rfl (by omega) (by omega) (by omega) (by omega) (by omega) (Nat.le_of_ble_eq_true rfl) (Nat.le_of_ble_eq_true rfl) dX7_readOrder_175 (fun σ2276 H locs eσ2276 hP hS => ?_)
                      have w2277 : ∀ k : Nat, k < 8 → 0 ≤ (σ2275 11 k).toInt ∧ (σ2275 11 k).toInt ≤ 3 := (jrr_fr (jnp 11 eσ2275 (by decide)) (jrr_fr (jnp 11 eσ2274 (by decide)) (jrr_fr (jnp 11 eσ2273 (by decide)) w2266)))
                      have w2278 : ∀ k : Nat, k < 8 → 0 ≤ (σ2275 17 k).toInt ∧ (σ2275 17 k).toInt ≤ 3 := (jrr_fr (jnp 17 eσ2275 (by decide)) (jrr_fr (jnp 17 eσ2274 (by decide)) (jrr_fr (jnp 17 eσ2273 (by decide)) (jrr_fr (f2260 17 (by decide)) (jrr_fr (f2242 17 (by decide)) (jrr_fr (f2193 17 (by decide)) (jrr_fr (f2093 17 (by decide)) (jrr_fr (f1977 17 (by decide)) (jrr_fr (f31 17 (by decide)) (jrr_fr (f10 17 (by decide)) w7))))))))))
                      have f2279 : (∀ i : Nat, (i < 17 ∨ 17 < i) → σ2276 i = σ2275 i) := by rw [eσ2276]; exact jrow_n
                      have w2280 : ∀ k : Nat, k < 8 → 0 ≤ (σ2276 17 k).toInt ∧ (σ2276 17 k).toInt ≤ 3 := by rw [eσ2276]; exact jrow_rr w2277 w2278 jz_0 rfl (n0 := 8) (by omega) (by omega) (by omega)
                      refine lv_iconst (v := (-1)) hx hb dX7_readOrder_178 (by decide) ?_
                      have I2281 : jI9 σ2276 := jI9_fr ((congrFun (f2279 9 (by decide)) 0).trans ((congrFun (jnp 9 eσ2275 (by decide)) 0).trans ((congrFun (jnp 9 eσ2274 (by decide)) 0).trans (congrFun (jnp 9 eσ2273 (by decide)) 0)))) ((f2279 10 (by decide)).trans ((jnp 10 eσ2275 (by decide)).trans ((jnp 10 eσ2274 (by decide)).trans (jnp 10 eσ2273 (by decide))))) ((f2279 11 (by decide)).trans ((jnp 11 eσ2275 (by decide)).trans ((jnp 11 eσ2274 (by decide)).trans (jnp 11 eσ2273 (by decide))))) I2262
                      have z2282 : (σ2276 16 0).toInt = x24.toInt := (congrArg Int32.toInt (show σ2276 16 0 = x24 from ((congrFun (f2279 16 (by decide)) 0).trans ((jkp 0 eσ2275 (by decide)).trans ((jkp 0 eσ2274 (by decide)).trans (jsp eσ2273))))))
                      have z2283 : (σ2276 16 1).toInt = r2092.toInt := (congrArg Int32.toInt (show σ2276 16 1 = r2092 from ((congrFun (f2279 16 (by decide)) 1).trans ((jkp 1 eσ2275 (by decide)).trans (jsp eσ2274)))))
                      have z2284 : (σ2276 16 2).toInt = r2241.toInt := (congrArg Int32.toInt (show σ2276 16 2 = r2241 from ((congrFun (f2279 16 (by decide)) 2).trans (jsp eσ2275))))
                      have I2285 : jI16 σ2276 := ⟨(by omega), (by omega), (by omega), w2280⟩
                      have z2286 : (σ2276 9 0).toInt = (σ2258 9 0).toInt := (congrArg Int32.toInt (show σ2276 9 0 = (σ2258 9 0) from ((congrFun (f2279 9 (by decide)) 0).trans ((congrFun (jnp 9 eσ2275 (by decide)) 0).trans ((congrFun (jnp 9 eσ2274 (by decide)) 0).trans (congrFun (jnp 9 eσ2273 (by decide)) 0))))))
                      exact hret (-1) σ2276 τ _ _ _ _ rfl ⟨rfl, (fun i hi => ((f2279 i (imp_44 i hi)).trans ((jnp i eσ2275 (imp_45 i hi)).trans ((jnp i eσ2274 (imp_45 i hi)).trans ((jnp i eσ2273 (imp_45 i hi)).trans ((f2260 i (imp_46 i hi)).trans ((f2242 i (imp_46 i hi)).trans ((f2193 i (imp_46 i hi)).trans ((f2093 i (imp_46 i hi)).trans ((f1977 i (imp_46 i hi)).trans ((f31 i (imp_47 i hi)).trans (f10 i (imp_46 i hi))))))))))))), (fun i hi => ((congrFun (f2279 9 (by decide)) i).trans ((congrFun (jnp 9 eσ2275 (by decide)) i).trans ((congrFun (jnp 9 eσ2274 (by decide)) i).trans ((congrFun (jnp 9 eσ2273 (by decide)) i).trans ((f2261 i (imp_48 i hi)).trans ((f2243 i (imp_50 i hi)).trans ((f2194 i (imp_49 i hi)).trans ((f2094 i (imp_50 i hi)).trans ((f1978 i (imp_49 i hi)).trans ((f32 i (imp_49 i hi)).trans (f11 i (imp_50 i hi))))))))))))), (fun i hi => ((congrFun (f2279 16 (by decide)) i).trans ((jkp i eσ2275 (imp_51 i hi)).trans ((jkp i eσ2274 (imp_52 i hi)).trans ((jkp i eσ2273 (imp_53 i hi)).trans ((congrFun (f2260 16 (by decide)) i).trans ((congrFun (f2242 16 (by decide)) i).trans ((congrFun (f2193 16 (by decide)) i).trans ((congrFun (f2093 16 (by decide)) i).trans ((congrFun (f1977 16 (by decide)) i).trans ((congrFun (f31 16 (by decide)) i).trans (congrFun (f10 16 (by decide)) i)))))))))))), I2281, I2285, (by omega), trivial⟩ hP hS dX7_readOrder_179
                    · obtain ⟨q2288, k2287⟩ := h2270
                      refine lv_istore (lv' := [(5, .int r2259), (4, .int r2241), (3, .int r2092), (2, .int x24), (0, .ref (ad 9)), (1, .ref (ad 16))]) hx hb dX7_readOrder_137 hl (by decide) rfl (fun ls hl => ?_)
                      refine lv_iload hx hb dX7_readOrder_139 (lv_at hl 0 rfl) ?_
                      refine lv_iconst (v := (-1)) hx hb dX7_readOrder_141 (by decide) ?_
                      refine lv_icmp_eq (tgt := 148) hx hb dX7_readOrder_142 (by decide) (fun c => absurd (jeq c rfl jz_m1) (by omega)) (fun c2289 => ?_)
                      have kc2289 := jne c2289 rfl jz_m1
                      refine lv_iload hx hb dX7_readOrder_145 (lv_at hl 0 rfl) ?_
                      have I2290 : jI16 σ2258 := jI16_fr ((congrFun (f2260 16 (by decide)) 0).trans ((congrFun (f2242 16 (by decide)) 0).trans ((congrFun (f2193 16 (by decide)) 0).trans ((congrFun (f2093 16 (by decide)) 0).trans ((congrFun (f1977 16 (by decide)) 0).trans ((congrFun (f31 16 (by decide)) 0).trans (congrFun (f10 16 (by decide)) 0))))))) ((congrFun (f2260 16 (by decide)) 1).trans ((congrFun (f2242 16 (by decide)) 1).trans ((congrFun (f2193 16 (by decide)) 1).trans ((congrFun (f2093 16 (by decide)) 1).trans ((congrFun (f1977 16 (by decide)) 1).trans ((congrFun (f31 16 (by decide)) 1).trans (congrFun (f10 16 (by decide)) 1))))))) ((congrFun (f2260 16 (by decide)) 2).trans ((congrFun (f2242 16 (by decide)) 2).trans ((congrFun (f2193 16 (by decide)) 2).trans ((congrFun (f2093 16 (by decide)) 2).trans ((congrFun (f1977 16 (by decide)) 2).trans ((congrFun (f31 16 (by decide)) 2).trans (congrFun (f10 16 (by decide)) 2))))))) ((f2260 17 (by decide)).trans ((f2242 17 (by decide)).trans ((f2193 17 (by decide)).trans ((f2093 17 (by decide)).trans ((f1977 17 (by decide)).trans ((f31 17 (by decide)).trans (f10 17 (by decide)))))))) hI16
                      exact hret r2259 σ2258 τ _ _ _ _ rfl ⟨rfl, (fun i hi => ((f2260 i (imp_46 i hi)).trans ((f2242 i (imp_46 i hi)).trans ((f2193 i (imp_46 i hi)).trans ((f2093 i (imp_46 i hi)).trans ((f1977 i (imp_46 i hi)).trans ((f31 i (imp_47 i hi)).trans (f10 i (imp_46 i hi))))))))), (fun i hi => ((f2261 i (imp_48 i hi)).trans ((f2243 i (imp_50 i hi)).trans ((f2194 i (imp_49 i hi)).trans ((f2094 i (imp_50 i hi)).trans ((f1978 i (imp_49 i hi)).trans ((f32 i (imp_49 i hi)).trans (f11 i (imp_50 i hi))))))))), (fun i hi => ((congrFun (f2260 16 (by decide)) i).trans ((congrFun (f2242 16 (by decide)) i).trans ((congrFun (f2193 16 (by decide)) i).trans ((congrFun (f2093 16 (by decide)) i).trans ((congrFun (f1977 16 (by decide)) i).trans ((congrFun (f31 16 (by decide)) i).trans (congrFun (f10 16 (by decide)) i)))))))), I2262, I2290, (by omega), trivial⟩ hP hS dX7_readOrder_147
                · have kc2190 := jnle c2190 rfl jz_12
                  refine lv_aload_n hx hb dX7_readOrder_111 rfl (lv_at hl 4 rfl) ?_
                  refine lv_iload hx hb dX7_readOrder_112 (lv_at hl 1 rfl) ?_
                  refine jcallVv (As := [.int (σ1975 9 1)]) (rest := []) ⟨hx, hb, hml, hown, hts⟩ hK hP hA hS hZ (c_X7_fail_9 l D cI cL ad zz hJ σ2091 τ (σ1975 9 1) ((σ1975 9 1).toInt) rfl I2097 (by omega)) cw_RX7_43 (jc_9 cI cL ad σ2091 τ) rfl ⟨Nat.le_of_ble_eq_true rfl, Nat.le_of_ble_eq_true rfl⟩ rfl rfl rfl hl.1 rfl (Nat.le_of_ble_eq_true rfl) dX7_readOrder_114 ⟨Nat.zero_le _, Nat.zero_le _⟩ (fun σ2291 τ2291 H locs h2291 hP hS => ?_)
                  obtain ⟨rfl, f2293, f2294, h2291⟩ := h2291
                  obtain ⟨k2295, h2291⟩ := h2291
                  refine lv_aload_n hx hb dX7_readOrder_117 rfl (lv_at hl 4 rfl) ?_
                  refine lv_bipush (v := 114) hx hb dX7_readOrder_118 (by decide) ?_
                  have I2296 : jI9 σ2291 := jI9_fr (f2294 0 (by decide)) (f2293 10 (by decide)) (f2293 11 (by decide)) I2095
                  have I2297 : jI91 σ2291 := jI91_fr (f2294 0 (by decide)) (f2294 1 (by decide)) I2096
                  have I2298 : jI92 σ2291 := (show (-1) ≤ (σ2291 9 2).toInt by omega)
                  refine jcallV (As := [.int 114]) (rest := []) ⟨hx, hb, hml, hown, hts⟩ hK hP hA hS hZ (c_X7_skip_9 l D cI cL ad zz hJ σ2291 τ 114 (114) jz_114 I2296 I2297 I2298 (by omega)) cw_RX7_50 (jc_9 cI cL ad σ2291 τ) rfl ⟨Nat.le_of_ble_eq_true rfl, Nat.le_of_ble_eq_true rfl⟩ rfl rfl rfl hl.1 rfl (Nat.le_of_ble_eq_true rfl) dX7_readOrder_120 ⟨Nat.zero_le _, Nat.zero_le _⟩ (fun r2300 σ2299 τ2299 H locs h2299 hP hS => ?_)
                  obtain ⟨rfl, f2301, f2302, I2303, I2304, I2305, h2299⟩ := h2299
                  obtain ⟨i2306, w2307, w2308⟩ : (0 ≤ (σ2299 9 0).toInt ∧ (σ2299 9 0).toInt ≤ 80) ∧ (∀ k : Nat, k < 80 → 0 ≤ (σ2299 10 k).toInt ∧ (σ2299 10 k).toInt ≤ 255) ∧ (∀ k : Nat, k < 8 → 0 ≤ (σ2299 11 k).toInt ∧ (σ2299 11 k).toInt ≤ 3) := id I2303
                  obtain ⟨i2309, i2310⟩ : (0 ≤ (σ2299 9 1).toInt) ∧ ((σ2299 9 1).toInt ≤ (σ2299 9 0).toInt) := id I2304
                  have i2311 : (-1) ≤ (σ2299 9 2).toInt := I2305
                  have z2312 : (σ2299 9 0).toInt = (σ 9 0).toInt := (congrArg Int32.toInt (show σ2299 9 0 = (σ 9 0) from ((f2302 0 (by decide)).trans ((f2294 0 (by decide)).trans ((f2094 0 (by decide)).trans ((f1978 0 (by decide)).trans ((f32 0 (by decide)).trans (f11 0 (by decide)))))))))
                  have z2313 : (σ2299 9 2).toInt = (σ2291 9 2).toInt := (congrArg Int32.toInt (show σ2299 9 2 = (σ2291 9 2) from (f2302 2 (by decide))))
                  refine lv_if_eq (tgt := 133) hx hb dX7_readOrder_123 (by decide) (fun c2314 => ?_) (fun c2314 => ?_)
                  · have kc2314 := jeq c2314 rfl jz_0
                    refine lv_aload_n hx hb dX7_readOrder_133 rfl (lv_at hl 4 rfl) ?_
                    refine jcallV (As := []) (rest := []) ⟨hx, hb, hml, hown, hts⟩ hK hP hA hS hZ (c_X7_end_9 l D cI cL ad zz hJ σ2299 τ I2303 I2304 I2305) cw_RX7_57 (jc_9 cI cL ad σ2299 τ) rfl ⟨Nat.le_of_ble_eq_true rfl, Nat.le_of_ble_eq_true rfl⟩ rfl rfl rfl hl.1 rfl (Nat.le_of_ble_eq_true rfl) dX7_readOrder_134 ⟨Nat.zero_le _, Nat.zero_le _⟩ (fun r2316 σ2315 τ2315 H locs h2315 hP hS => ?_)
                    obtain ⟨rfl, f2317, f2318, I2319, I2320, h2315⟩ := h2315
                    obtain ⟨i2321, w2322, w2323⟩ : (0 ≤ (σ2315 9 0).toInt ∧ (σ2315 9 0).toInt ≤ 80) ∧ (∀ k : Nat, k < 80 → 0 ≤ (σ2315 10 k).toInt ∧ (σ2315 10 k).toInt ≤ 255) ∧ (∀ k : Nat, k < 8 → 0 ≤ (σ2315 11 k).toInt ∧ (σ2315 11 k).toInt ≤ 3) := id I2319
                    have i2324 : (-1) ≤ (σ2315 9 2).toInt := I2320
                    obtain ⟨k2325, h2315⟩ := h2315
                    rcases h2315 with h2326 | h2327
                    · obtain ⟨q2329, k2328⟩ := h2326
                      exact absurd (by omega : False) id
                    · obtain ⟨q2331, k2330⟩ := h2327
                      refine lv_istore (lv' := [(5, .int r2316), (3, .int r2092), (4, .int 0), (2, .int x24), (0, .ref (ad 9)), (1, .ref (ad 16))]) hx hb dX7_readOrder_137 hl (by decide) rfl (fun ls hl => ?_)
                      refine lv_iload hx hb dX7_readOrder_139 (lv_at hl 0 rfl) ?_
                      refine lv_iconst (v := (-1)) hx hb dX7_readOrder_141 (by decide) ?_
                      refine lv_icmp_eq (tgt := 148) hx hb dX7_readOrder_142 (by decide) (fun c => absurd (jeq c rfl jz_m1) (by omega)) (fun c2332 => ?_)
                      have kc2332 := jne c2332 rfl jz_m1
                      refine lv_iload hx hb dX7_readOrder_145 (lv_at hl 0 rfl) ?_
                      have I2333 : jI16 σ2315 := jI16_fr ((congrFun (f2317 16 (by decide)) 0).trans ((congrFun (f2301 16 (by decide)) 0).trans ((congrFun (f2293 16 (by decide)) 0).trans ((congrFun (f2093 16 (by decide)) 0).trans ((congrFun (f1977 16 (by decide)) 0).trans ((congrFun (f31 16 (by decide)) 0).trans (congrFun (f10 16 (by decide)) 0))))))) ((congrFun (f2317 16 (by decide)) 1).trans ((congrFun (f2301 16 (by decide)) 1).trans ((congrFun (f2293 16 (by decide)) 1).trans ((congrFun (f2093 16 (by decide)) 1).trans ((congrFun (f1977 16 (by decide)) 1).trans ((congrFun (f31 16 (by decide)) 1).trans (congrFun (f10 16 (by decide)) 1))))))) ((congrFun (f2317 16 (by decide)) 2).trans ((congrFun (f2301 16 (by decide)) 2).trans ((congrFun (f2293 16 (by decide)) 2).trans ((congrFun (f2093 16 (by decide)) 2).trans ((congrFun (f1977 16 (by decide)) 2).trans ((congrFun (f31 16 (by decide)) 2).trans (congrFun (f10 16 (by decide)) 2))))))) ((f2317 17 (by decide)).trans ((f2301 17 (by decide)).trans ((f2293 17 (by decide)).trans ((f2093 17 (by decide)).trans ((f1977 17 (by decide)).trans ((f31 17 (by decide)).trans (f10 17 (by decide)))))))) hI16
                      exact hret r2316 σ2315 τ _ _ _ _ rfl ⟨rfl, (fun i hi => ((f2317 i (imp_46 i hi)).trans ((f2301 i (imp_46 i hi)).trans ((f2293 i (imp_46 i hi)).trans ((f2093 i (imp_46 i hi)).trans ((f1977 i (imp_46 i hi)).trans ((f31 i (imp_47 i hi)).trans (f10 i (imp_46 i hi))))))))), (fun i hi => ((f2318 i (imp_48 i hi)).trans ((f2302 i (imp_49 i hi)).trans ((f2294 i (imp_54 i hi)).trans ((f2094 i (imp_50 i hi)).trans ((f1978 i (imp_49 i hi)).trans ((f32 i (imp_49 i hi)).trans (f11 i (imp_50 i hi))))))))), (fun i hi => ((congrFun (f2317 16 (by decide)) i).trans ((congrFun (f2301 16 (by decide)) i).trans ((congrFun (f2293 16 (by decide)) i).trans ((congrFun (f2093 16 (by decide)) i).trans ((congrFun (f1977 16 (by decide)) i).trans ((congrFun (f31 16 (by decide)) i).trans (congrFun (f10 16 (by decide)) i)))))))), I2319, I2333, (by omega), trivial⟩ hP hS dX7_readOrder_147
                  · have kc2314 := jne c2314 rfl jz_0
                    refine lv_aload_n hx hb dX7_readOrder_126 rfl (lv_at hl 4 rfl) ?_
                    refine lv_iconst (v := 3) hx hb dX7_readOrder_127 (by decide) ?_
                    refine jcallV (As := [.int 3]) (rest := []) ⟨hx, hb, hml, hown, hts⟩ hK hP hA hS hZ (c_X7_number_3 l D cI cL ad zz hJ σ2299 τ I2303 I2304 I2305) cw_RX7_53 (jc_9 cI cL ad σ2299 τ) rfl ⟨Nat.le_of_ble_eq_true rfl, Nat.le_of_ble_eq_true rfl⟩ rfl rfl rfl hl.1 rfl (Nat.le_of_ble_eq_true rfl) dX7_readOrder_128 ⟨Nat.zero_le _, Nat.zero_le _⟩ (fun r2335 σ2334 τ2334 H locs h2334 hP hS => ?_)
                    obtain ⟨rfl, f2336, f2337, I2338, I2339, I2340, h2334⟩ := h2334
                    obtain ⟨i2341, w2342, w2343⟩ : (0 ≤ (σ2334 9 0).toInt ∧ (σ2334 9 0).toInt ≤ 80) ∧ (∀ k : Nat, k < 80 → 0 ≤ (σ2334 10 k).toInt ∧ (σ2334 10 k).toInt ≤ 255) ∧ (∀ k : Nat, k < 8 → 0 ≤ (σ2334 11 k).toInt ∧ (σ2334 11 k).toInt ≤ 3) := id I2338
                    obtain ⟨i2344, i2345⟩ : (0 ≤ (σ2334 9 1).toInt) ∧ ((σ2334 9 1).toInt ≤ (σ2334 9 0).toInt) := id I2339
                    have i2346 : (-1) ≤ (σ2334 9 2).toInt := I2340
                    have z2347 : (σ2334 9 0).toInt = (σ 9 0).toInt := (congrArg Int32.toInt (show σ2334 9 0 = (σ 9 0) from ((f2337 0 (by decide)).trans ((f2302 0 (by decide)).trans ((f2294 0 (by decide)).trans ((f2094 0 (by decide)).trans ((f1978 0 (by decide)).trans ((f32 0 (by decide)).trans (f11 0 (by decide))))))))))
                    obtain ⟨k2348, h2334⟩ := h2334
                    have h2349 := h2334
                    obtain ⟨q2351, k2350⟩ := h2349
                    refine lv_istore (lv' := [(4, .int r2335), (3, .int r2092), (5, .int (σ1975 9 1)), (2, .int x24), (0, .ref (ad 9)), (1, .ref (ad 16))]) hx hb dX7_readOrder_131 hl (by decide) rfl (fun ls hl => ?_)
                    refine lv_aload_n hx hb dX7_readOrder_133 rfl (lv_at hl 4 rfl) ?_
                    refine jcallV (As := []) (rest := []) ⟨hx, hb, hml, hown, hts⟩ hK hP hA hS hZ (c_X7_end_9 l D cI cL ad zz hJ σ2334 τ I2338 I2339 I2340) cw_RX7_57 (jc_9 cI cL ad σ2334 τ) rfl ⟨Nat.le_of_ble_eq_true rfl, Nat.le_of_ble_eq_true rfl⟩ rfl rfl rfl hl.1 rfl (Nat.le_of_ble_eq_true rfl) dX7_readOrder_134 ⟨Nat.zero_le _, Nat.zero_le _⟩ (fun r2353 σ2352 τ2352 H locs h2352 hP hS => ?_)
                    obtain ⟨rfl, f2354, f2355, I2356, I2357, h2352⟩ := h2352
                    obtain ⟨i2358, w2359, w2360⟩ : (0 ≤ (σ2352 9 0).toInt ∧ (σ2352 9 0).toInt ≤ 80) ∧ (∀ k : Nat, k < 80 → 0 ≤ (σ2352 10 k).toInt ∧ (σ2352 10 k).toInt ≤ 255) ∧ (∀ k : Nat, k < 8 → 0 ≤ (σ2352 11 k).toInt ∧ (σ2352 11 k).toInt ≤ 3) := id I2356
                    have i2361 : (-1) ≤ (σ2352 9 2).toInt := I2357
                    obtain ⟨k2362, h2352⟩ := h2352
                    rcases h2352 with h2363 | h2364
                    · obtain ⟨q2366, k2365⟩ := h2363
                      exact absurd (by omega : False) id
                    · obtain ⟨q2368, k2367⟩ := h2364
                      refine lv_istore (lv' := [(5, .int r2353), (4, .int r2335), (3, .int r2092), (2, .int x24), (0, .ref (ad 9)), (1, .ref (ad 16))]) hx hb dX7_readOrder_137 hl (by decide) rfl (fun ls hl => ?_)
                      refine lv_iload hx hb dX7_readOrder_139 (lv_at hl 0 rfl) ?_
                      refine lv_iconst (v := (-1)) hx hb dX7_readOrder_141 (by decide) ?_
                      refine lv_icmp_eq (tgt := 148) hx hb dX7_readOrder_142 (by decide) (fun c => absurd (jeq c rfl jz_m1) (by omega)) (fun c2369 => ?_)
                      have kc2369 := jne c2369 rfl jz_m1
                      refine lv_iload hx hb dX7_readOrder_145 (lv_at hl 0 rfl) ?_
                      have I2370 : jI16 σ2352 := jI16_fr ((congrFun (f2354 16 (by decide)) 0).trans ((congrFun (f2336 16 (by decide)) 0).trans ((congrFun (f2301 16 (by decide)) 0).trans ((congrFun (f2293 16 (by decide)) 0).trans ((congrFun (f2093 16 (by decide)) 0).trans ((congrFun (f1977 16 (by decide)) 0).trans ((congrFun (f31 16 (by decide)) 0).trans (congrFun (f10 16 (by decide)) 0)))))))) ((congrFun (f2354 16 (by decide)) 1).trans ((congrFun (f2336 16 (by decide)) 1).trans ((congrFun (f2301 16 (by decide)) 1).trans ((congrFun (f2293 16 (by decide)) 1).trans ((congrFun (f2093 16 (by decide)) 1).trans ((congrFun (f1977 16 (by decide)) 1).trans ((congrFun (f31 16 (by decide)) 1).trans (congrFun (f10 16 (by decide)) 1)))))))) ((congrFun (f2354 16 (by decide)) 2).trans ((congrFun (f2336 16 (by decide)) 2).trans ((congrFun (f2301 16 (by decide)) 2).trans ((congrFun (f2293 16 (by decide)) 2).trans ((congrFun (f2093 16 (by decide)) 2).trans ((congrFun (f1977 16 (by decide)) 2).trans ((congrFun (f31 16 (by decide)) 2).trans (congrFun (f10 16 (by decide)) 2)))))))) ((f2354 17 (by decide)).trans ((f2336 17 (by decide)).trans ((f2301 17 (by decide)).trans ((f2293 17 (by decide)).trans ((f2093 17 (by decide)).trans ((f1977 17 (by decide)).trans ((f31 17 (by decide)).trans (f10 17 (by decide))))))))) hI16
                      exact hret r2353 σ2352 τ _ _ _ _ rfl ⟨rfl, (fun i hi => ((f2354 i (imp_46 i hi)).trans ((f2336 i (imp_46 i hi)).trans ((f2301 i (imp_46 i hi)).trans ((f2293 i (imp_46 i hi)).trans ((f2093 i (imp_46 i hi)).trans ((f1977 i (imp_46 i hi)).trans ((f31 i (imp_47 i hi)).trans (f10 i (imp_46 i hi)))))))))), (fun i hi => ((f2355 i (imp_48 i hi)).trans ((f2337 i (imp_50 i hi)).trans ((f2302 i (imp_49 i hi)).trans ((f2294 i (imp_54 i hi)).trans ((f2094 i (imp_50 i hi)).trans ((f1978 i (imp_49 i hi)).trans ((f32 i (imp_49 i hi)).trans (f11 i (imp_50 i hi)))))))))), (fun i hi => ((congrFun (f2354 16 (by decide)) i).trans ((congrFun (f2336 16 (by decide)) i).trans ((congrFun (f2301 16 (by decide)) i).trans ((congrFun (f2293 16 (by decide)) i).trans ((congrFun (f2093 16 (by decide)) i).trans ((congrFun (f1977 16 (by decide)) i).trans ((congrFun (f31 16 (by decide)) i).trans (congrFun (f10 16 (by decide)) i))))))))), I2356, I2370, (by omega), trivial⟩ hP hS dX7_readOrder_147
          · have kc1972 := jeq c1972 rfl jz_0
            refine lv_aload_n hx hb dX7_readOrder_71 rfl (lv_at hl 3 rfl) ?_
            refine lv_aload_n hx hb dX7_readOrder_72 rfl (lv_at hl 3 rfl) ?_
            refine va_get (D := D) hx hb hts inlX7 hown hK hP 9 (jc_9 cI cL ad σ25 τ) rfl 1 (by decide) (hts _ kw_13_17) (fun _ h9 => h9) rfl dX7_readOrder_73 ?_
            have I2371 : jI92 σ25 := jI92_fr (f32 2 (by decide)) I14
            refine jcallVv (As := [.int (σ25 9 1)]) (rest := []) ⟨hx, hb, hml, hown, hts⟩ hK hP hA hS hZ (c_X7_fail_9 l D cI cL ad zz hJ σ25 τ (σ25 9 1) ((σ25 9 1).toInt) rfl I2371 (by omega)) cw_RX7_43 (jc_9 cI cL ad σ25 τ) rfl ⟨Nat.le_of_ble_eq_true rfl, Nat.le_of_ble_eq_true rfl⟩ rfl rfl rfl hl.1 rfl (Nat.le_of_ble_eq_true rfl) dX7_readOrder_76 ⟨Nat.zero_le _, Nat.zero_le _⟩ (fun σ2372 τ2372 H locs h2372 hP hS => ?_)
            obtain ⟨rfl, f2374, f2375, h2372⟩ := h2372
            obtain ⟨k2376, h2372⟩ := h2372
            refine lv_aload_n hx hb dX7_readOrder_79 rfl (lv_at hl 3 rfl) ?_
            refine lv_bipush (v := 58) hx hb dX7_readOrder_80 (by decide) ?_
            have I2377 : jI9 σ2372 := jI9_fr (f2375 0 (by decide)) (f2374 10 (by decide)) (f2374 11 (by decide)) p33
            have z2378 : (σ2372 9 1).toInt = (σ25 9 1).toInt := (congrArg Int32.toInt (show σ2372 9 1 = (σ25 9 1) from (f2375 1 (by decide))))
            have z2379 : (σ2372 9 0).toInt = (σ 9 0).toInt := (congrArg Int32.toInt (show σ2372 9 0 = (σ 9 0) from ((f2375 0 (by decide)).trans ((f32 0 (by decide)).trans (f11 0 (by decide))))))
            have I2380 : jI91 σ2372 := ⟨(by omega), (by omega)⟩
            have I2381 : jI92 σ2372 := (show (-1) ≤ (σ2372 9 2).toInt by omega)
            refine jcallV (As := [.int 58]) (rest := []) ⟨hx, hb, hml, hown, hts⟩ hK hP hA hS hZ (c_X7_skip_9 l D cI cL ad zz hJ σ2372 τ 58 (58) jz_58 I2377 I2380 I2381 (by omega)) cw_RX7_50 (jc_9 cI cL ad σ2372 τ) rfl ⟨Nat.le_of_ble_eq_true rfl, Nat.le_of_ble_eq_true rfl⟩ rfl rfl rfl hl.1 rfl (Nat.le_of_ble_eq_true rfl) dX7_readOrder_82 ⟨Nat.zero_le _, Nat.zero_le _⟩ (fun r2383 σ2382 τ2382 H locs h2382 hP hS => ?_)
            obtain ⟨rfl, f2384, f2385, I2386, I2387, I2388, h2382⟩ := h2382
            obtain ⟨i2389, w2390, w2391⟩ : (0 ≤ (σ2382 9 0).toInt ∧ (σ2382 9 0).toInt ≤ 80) ∧ (∀ k : Nat, k < 80 → 0 ≤ (σ2382 10 k).toInt ∧ (σ2382 10 k).toInt ≤ 255) ∧ (∀ k : Nat, k < 8 → 0 ≤ (σ2382 11 k).toInt ∧ (σ2382 11 k).toInt ≤ 3) := id I2386
            obtain ⟨i2392, i2393⟩ : (0 ≤ (σ2382 9 1).toInt) ∧ ((σ2382 9 1).toInt ≤ (σ2382 9 0).toInt) := id I2387
            have i2394 : (-1) ≤ (σ2382 9 2).toInt := I2388
            have z2395 : (σ2382 9 0).toInt = (σ 9 0).toInt := (congrArg Int32.toInt (show σ2382 9 0 = (σ 9 0) from ((f2385 0 (by decide)).trans ((f2375 0 (by decide)).trans ((f32 0 (by decide)).trans (f11 0 (by decide)))))))
            have z2396 : (σ2382 9 2).toInt = (σ2372 9 2).toInt := (congrArg Int32.toInt (show σ2382 9 2 = (σ2372 9 2) from (f2385 2 (by decide))))
            refine lv_if_eq (tgt := 117) hx hb dX7_readOrder_85 (by decide) (fun c2397 => ?_) (fun c2397 => ?_)
            · have kc2397 := jeq c2397 rfl jz_0
              refine lv_aload_n hx hb dX7_readOrder_117 rfl (lv_at hl 3 rfl) ?_
              refine lv_bipush (v := 114) hx hb dX7_readOrder_118 (by decide) ?_
              refine jcallV (As := [.int 114]) (rest := []) ⟨hx, hb, hml, hown, hts⟩ hK hP hA hS hZ (c_X7_skip_9 l D cI cL ad zz hJ σ2382 τ 114 (114) jz_114 I2386 I2387 I2388 (by omega)) cw_RX7_50 (jc_9 cI cL ad σ2382 τ) rfl ⟨Nat.le_of_ble_eq_true rfl, Nat.le_of_ble_eq_true rfl⟩ rfl rfl rfl hl.1 rfl (Nat.le_of_ble_eq_true rfl) dX7_readOrder_120 ⟨Nat.zero_le _, Nat.zero_le _⟩ (fun r2399 σ2398 τ2398 H locs h2398 hP hS => ?_)
              obtain ⟨rfl, f2400, f2401, I2402, I2403, I2404, h2398⟩ := h2398
              obtain ⟨i2405, w2406, w2407⟩ : (0 ≤ (σ2398 9 0).toInt ∧ (σ2398 9 0).toInt ≤ 80) ∧ (∀ k : Nat, k < 80 → 0 ≤ (σ2398 10 k).toInt ∧ (σ2398 10 k).toInt ≤ 255) ∧ (∀ k : Nat, k < 8 → 0 ≤ (σ2398 11 k).toInt ∧ (σ2398 11 k).toInt ≤ 3) := id I2402
              obtain ⟨i2408, i2409⟩ : (0 ≤ (σ2398 9 1).toInt) ∧ ((σ2398 9 1).toInt ≤ (σ2398 9 0).toInt) := id I2403
              have i2410 : (-1) ≤ (σ2398 9 2).toInt := I2404
              have z2411 : (σ2398 9 0).toInt = (σ 9 0).toInt := (congrArg Int32.toInt (show σ2398 9 0 = (σ 9 0) from ((f2401 0 (by decide)).trans ((f2385 0 (by decide)).trans ((f2375 0 (by decide)).trans ((f32 0 (by decide)).trans (f11 0 (by decide))))))))
              have z2412 : (σ2398 9 2).toInt = (σ2372 9 2).toInt := (congrArg Int32.toInt (show σ2398 9 2 = (σ2372 9 2) from ((f2401 2 (by decide)).trans (f2385 2 (by decide)))))
              refine lv_if_eq (tgt := 133) hx hb dX7_readOrder_123 (by decide) (fun c2413 => ?_) (fun c2413 => ?_)
              · have kc2413 := jeq c2413 rfl jz_0
                refine lv_aload_n hx hb dX7_readOrder_133 rfl (lv_at hl 3 rfl) ?_
                refine jcallV (As := []) (rest := []) ⟨hx, hb, hml, hown, hts⟩ hK hP hA hS hZ (c_X7_end_9 l D cI cL ad zz hJ σ2398 τ I2402 I2403 I2404) cw_RX7_57 (jc_9 cI cL ad σ2398 τ) rfl ⟨Nat.le_of_ble_eq_true rfl, Nat.le_of_ble_eq_true rfl⟩ rfl rfl rfl hl.1 rfl (Nat.le_of_ble_eq_true rfl) dX7_readOrder_134 ⟨Nat.zero_le _, Nat.zero_le _⟩ (fun r2415 σ2414 τ2414 H locs h2414 hP hS => ?_)
                obtain ⟨rfl, f2416, f2417, I2418, I2419, h2414⟩ := h2414
                obtain ⟨i2420, w2421, w2422⟩ : (0 ≤ (σ2414 9 0).toInt ∧ (σ2414 9 0).toInt ≤ 80) ∧ (∀ k : Nat, k < 80 → 0 ≤ (σ2414 10 k).toInt ∧ (σ2414 10 k).toInt ≤ 255) ∧ (∀ k : Nat, k < 8 → 0 ≤ (σ2414 11 k).toInt ∧ (σ2414 11 k).toInt ≤ 3) := id I2418
                have i2423 : (-1) ≤ (σ2414 9 2).toInt := I2419
                obtain ⟨k2424, h2414⟩ := h2414
                rcases h2414 with h2425 | h2426
                · obtain ⟨q2428, k2427⟩ := h2425
                  exact absurd (by omega : False) id
                · obtain ⟨q2430, k2429⟩ := h2426
                  refine lv_istore (lv' := [(5, .int r2415), (4, .int 0), (3, .int 8), (2, .int x24), (0, .ref (ad 9)), (1, .ref (ad 16))]) hx hb dX7_readOrder_137 hl (by decide) rfl (fun ls hl => ?_)
                  refine lv_iload hx hb dX7_readOrder_139 (lv_at hl 0 rfl) ?_
                  refine lv_iconst (v := (-1)) hx hb dX7_readOrder_141 (by decide) ?_
                  refine lv_icmp_eq (tgt := 148) hx hb dX7_readOrder_142 (by decide) (fun c => absurd (jeq c rfl jz_m1) (by omega)) (fun c2431 => ?_)
                  have kc2431 := jne c2431 rfl jz_m1
                  refine lv_iload hx hb dX7_readOrder_145 (lv_at hl 0 rfl) ?_
                  have I2432 : jI16 σ2414 := jI16_fr ((congrFun (f2416 16 (by decide)) 0).trans ((congrFun (f2400 16 (by decide)) 0).trans ((congrFun (f2384 16 (by decide)) 0).trans ((congrFun (f2374 16 (by decide)) 0).trans ((congrFun (f31 16 (by decide)) 0).trans (congrFun (f10 16 (by decide)) 0)))))) ((congrFun (f2416 16 (by decide)) 1).trans ((congrFun (f2400 16 (by decide)) 1).trans ((congrFun (f2384 16 (by decide)) 1).trans ((congrFun (f2374 16 (by decide)) 1).trans ((congrFun (f31 16 (by decide)) 1).trans (congrFun (f10 16 (by decide)) 1)))))) ((congrFun (f2416 16 (by decide)) 2).trans ((congrFun (f2400 16 (by decide)) 2).trans ((congrFun (f2384 16 (by decide)) 2).trans ((congrFun (f2374 16 (by decide)) 2).trans ((congrFun (f31 16 (by decide)) 2).trans (congrFun (f10 16 (by decide)) 2)))))) ((f2416 17 (by decide)).trans ((f2400 17 (by decide)).trans ((f2384 17 (by decide)).trans ((f2374 17 (by decide)).trans ((f31 17 (by decide)).trans (f10 17 (by decide))))))) hI16
                  exact hret r2415 σ2414 τ _ _ _ _ rfl ⟨rfl, (fun i hi => ((f2416 i (imp_46 i hi)).trans ((f2400 i (imp_46 i hi)).trans ((f2384 i (imp_46 i hi)).trans ((f2374 i (imp_46 i hi)).trans ((f31 i (imp_47 i hi)).trans (f10 i (imp_46 i hi)))))))), (fun i hi => ((f2417 i (imp_48 i hi)).trans ((f2401 i (imp_49 i hi)).trans ((f2385 i (imp_49 i hi)).trans ((f2375 i (imp_54 i hi)).trans ((f32 i (imp_49 i hi)).trans (f11 i (imp_50 i hi)))))))), (fun i hi => ((congrFun (f2416 16 (by decide)) i).trans ((congrFun (f2400 16 (by decide)) i).trans ((congrFun (f2384 16 (by decide)) i).trans ((congrFun (f2374 16 (by decide)) i).trans ((congrFun (f31 16 (by decide)) i).trans (congrFun (f10 16 (by decide)) i))))))), I2418, I2432, (by omega), trivial⟩ hP hS dX7_readOrder_147
              · have kc2413 := jne c2413 rfl jz_0
                refine lv_aload_n hx hb dX7_readOrder_126 rfl (lv_at hl 3 rfl) ?_
                refine lv_iconst (v := 3) hx hb dX7_readOrder_127 (by decide) ?_
                refine jcallV (As := [.int 3]) (rest := []) ⟨hx, hb, hml, hown, hts⟩ hK hP hA hS hZ (c_X7_number_3 l D cI cL ad zz hJ σ2398 τ I2402 I2403 I2404) cw_RX7_53 (jc_9 cI cL ad σ2398 τ) rfl ⟨Nat.le_of_ble_eq_true rfl, Nat.le_of_ble_eq_true rfl⟩ rfl rfl rfl hl.1 rfl (Nat.le_of_ble_eq_true rfl) dX7_readOrder_128 ⟨Nat.zero_le _, Nat.zero_le _⟩ (fun r2434 σ2433 τ2433 H locs h2433 hP hS => ?_)
                obtain ⟨rfl, f2435, f2436, I2437, I2438, I2439, h2433⟩ := h2433
                obtain ⟨i2440, w2441, w2442⟩ : (0 ≤ (σ2433 9 0).toInt ∧ (σ2433 9 0).toInt ≤ 80) ∧ (∀ k : Nat, k < 80 → 0 ≤ (σ2433 10 k).toInt ∧ (σ2433 10 k).toInt ≤ 255) ∧ (∀ k : Nat, k < 8 → 0 ≤ (σ2433 11 k).toInt ∧ (σ2433 11 k).toInt ≤ 3) := id I2437
                obtain ⟨i2443, i2444⟩ : (0 ≤ (σ2433 9 1).toInt) ∧ ((σ2433 9 1).toInt ≤ (σ2433 9 0).toInt) := id I2438
                have i2445 : (-1) ≤ (σ2433 9 2).toInt := I2439
                have z2446 : (σ2433 9 0).toInt = (σ 9 0).toInt := (congrArg Int32.toInt (show σ2433 9 0 = (σ 9 0) from ((f2436 0 (by decide)).trans ((f2401 0 (by decide)).trans ((f2385 0 (by decide)).trans ((f2375 0 (by decide)).trans ((f32 0 (by decide)).trans (f11 0 (by decide)))))))))
                obtain ⟨k2447, h2433⟩ := h2433
                have h2448 := h2433
                obtain ⟨q2450, k2449⟩ := h2448
                refine lv_istore (lv' := [(4, .int r2434), (3, .int 8), (2, .int x24), (0, .ref (ad 9)), (1, .ref (ad 16))]) hx hb dX7_readOrder_131 hl (by decide) rfl (fun ls hl => ?_)
                refine lv_aload_n hx hb dX7_readOrder_133 rfl (lv_at hl 3 rfl) ?_
                refine jcallV (As := []) (rest := []) ⟨hx, hb, hml, hown, hts⟩ hK hP hA hS hZ (c_X7_end_9 l D cI cL ad zz hJ σ2433 τ I2437 I2438 I2439) cw_RX7_57 (jc_9 cI cL ad σ2433 τ) rfl ⟨Nat.le_of_ble_eq_true rfl, Nat.le_of_ble_eq_true rfl⟩ rfl rfl rfl hl.1 rfl (Nat.le_of_ble_eq_true rfl) dX7_readOrder_134 ⟨Nat.zero_le _, Nat.zero_le _⟩ (fun r2452 σ2451 τ2451 H locs h2451 hP hS => ?_)
                obtain ⟨rfl, f2453, f2454, I2455, I2456, h2451⟩ := h2451
                obtain ⟨i2457, w2458, w2459⟩ : (0 ≤ (σ2451 9 0).toInt ∧ (σ2451 9 0).toInt ≤ 80) ∧ (∀ k : Nat, k < 80 → 0 ≤ (σ2451 10 k).toInt ∧ (σ2451 10 k).toInt ≤ 255) ∧ (∀ k : Nat, k < 8 → 0 ≤ (σ2451 11 k).toInt ∧ (σ2451 11 k).toInt ≤ 3) := id I2455
                have i2460 : (-1) ≤ (σ2451 9 2).toInt := I2456
                obtain ⟨k2461, h2451⟩ := h2451
                rcases h2451 with h2462 | h2463
                · obtain ⟨q2465, k2464⟩ := h2462
                  exact absurd (by omega : False) id
                · obtain ⟨q2467, k2466⟩ := h2463
                  refine lv_istore (lv' := [(5, .int r2452), (4, .int r2434), (3, .int 8), (2, .int x24), (0, .ref (ad 9)), (1, .ref (ad 16))]) hx hb dX7_readOrder_137 hl (by decide) rfl (fun ls hl => ?_)
                  refine lv_iload hx hb dX7_readOrder_139 (lv_at hl 0 rfl) ?_
                  refine lv_iconst (v := (-1)) hx hb dX7_readOrder_141 (by decide) ?_
                  refine lv_icmp_eq (tgt := 148) hx hb dX7_readOrder_142 (by decide) (fun c => absurd (jeq c rfl jz_m1) (by omega)) (fun c2468 => ?_)
                  have kc2468 := jne c2468 rfl jz_m1
                  refine lv_iload hx hb dX7_readOrder_145 (lv_at hl 0 rfl) ?_
                  have I2469 : jI16 σ2451 := jI16_fr ((congrFun (f2453 16 (by decide)) 0).trans ((congrFun (f2435 16 (by decide)) 0).trans ((congrFun (f2400 16 (by decide)) 0).trans ((congrFun (f2384 16 (by decide)) 0).trans ((congrFun (f2374 16 (by decide)) 0).trans ((congrFun (f31 16 (by decide)) 0).trans (congrFun (f10 16 (by decide)) 0))))))) ((congrFun (f2453 16 (by decide)) 1).trans ((congrFun (f2435 16 (by decide)) 1).trans ((congrFun (f2400 16 (by decide)) 1).trans ((congrFun (f2384 16 (by decide)) 1).trans ((congrFun (f2374 16 (by decide)) 1).trans ((congrFun (f31 16 (by decide)) 1).trans (congrFun (f10 16 (by decide)) 1))))))) ((congrFun (f2453 16 (by decide)) 2).trans ((congrFun (f2435 16 (by decide)) 2).trans ((congrFun (f2400 16 (by decide)) 2).trans ((congrFun (f2384 16 (by decide)) 2).trans ((congrFun (f2374 16 (by decide)) 2).trans ((congrFun (f31 16 (by decide)) 2).trans (congrFun (f10 16 (by decide)) 2))))))) ((f2453 17 (by decide)).trans ((f2435 17 (by decide)).trans ((f2400 17 (by decide)).trans ((f2384 17 (by decide)).trans ((f2374 17 (by decide)).trans ((f31 17 (by decide)).trans (f10 17 (by decide)))))))) hI16
                  exact hret r2452 σ2451 τ _ _ _ _ rfl ⟨rfl, (fun i hi => ((f2453 i (imp_46 i hi)).trans ((f2435 i (imp_46 i hi)).trans ((f2400 i (imp_46 i hi)).trans ((f2384 i (imp_46 i hi)).trans ((f2374 i (imp_46 i hi)).trans ((f31 i (imp_47 i hi)).trans (f10 i (imp_46 i hi))))))))), (fun i hi => ((f2454 i (imp_48 i hi)).trans ((f2436 i (imp_50 i hi)).trans ((f2401 i (imp_49 i hi)).trans ((f2385 i (imp_49 i hi)).trans ((f2375 i (imp_54 i hi)).trans ((f32 i (imp_49 i hi)).trans (f11 i (imp_50 i hi))))))))), (fun i hi => ((congrFun (f2453 16 (by decide)) i).trans ((congrFun (f2435 16 (by decide)) i).trans ((congrFun (f2400 16 (by decide)) i).trans ((congrFun (f2384 16 (by decide)) i).trans ((congrFun (f2374 16 (by decide)) i).trans ((congrFun (f31 16 (by decide)) i).trans (congrFun (f10 16 (by decide)) i)))))))), I2455, I2469, (by omega), trivial⟩ hP hS dX7_readOrder_147
            · have kc2397 := jne c2397 rfl jz_0
              refine lv_aload_n hx hb dX7_readOrder_88 rfl (lv_at hl 3 rfl) ?_
              refine va_get (D := D) hx hb hts inlX7 hown hK hP 9 (jc_9 cI cL ad σ2382 τ) rfl 1 (by decide) (hts _ kw_13_17) (fun _ h9 => h9) rfl dX7_readOrder_89 ?_
              refine lv_istore (lv' := [(5, .int (σ2382 9 1)), (4, .int 0), (3, .int 8), (2, .int x24), (0, .ref (ad 9)), (1, .ref (ad 16))]) hx hb dX7_readOrder_92 hl (by decide) rfl (fun ls hl => ?_)
              refine lv_aload_n hx hb dX7_readOrder_94 rfl (lv_at hl 4 rfl) ?_
              refine lv_iconst (v := 2) hx hb dX7_readOrder_95 (by decide) ?_
              refine jcallV (As := [.int 2]) (rest := []) ⟨hx, hb, hml, hown, hts⟩ hK hP hA hS hZ (c_X7_number_2 l D cI cL ad zz hJ σ2382 τ I2386 I2387 I2388) cw_RX7_53 (jc_9 cI cL ad σ2382 τ) rfl ⟨Nat.le_of_ble_eq_true rfl, Nat.le_of_ble_eq_true rfl⟩ rfl rfl rfl hl.1 rfl (Nat.le_of_ble_eq_true rfl) dX7_readOrder_96 ⟨Nat.zero_le _, Nat.zero_le _⟩ (fun r2471 σ2470 τ2470 H locs h2470 hP hS => ?_)
              obtain ⟨rfl, f2472, f2473, I2474, I2475, I2476, h2470⟩ := h2470
              obtain ⟨i2477, w2478, w2479⟩ : (0 ≤ (σ2470 9 0).toInt ∧ (σ2470 9 0).toInt ≤ 80) ∧ (∀ k : Nat, k < 80 → 0 ≤ (σ2470 10 k).toInt ∧ (σ2470 10 k).toInt ≤ 255) ∧ (∀ k : Nat, k < 8 → 0 ≤ (σ2470 11 k).toInt ∧ (σ2470 11 k).toInt ≤ 3) := id I2474
              obtain ⟨i2480, i2481⟩ : (0 ≤ (σ2470 9 1).toInt) ∧ ((σ2470 9 1).toInt ≤ (σ2470 9 0).toInt) := id I2475
              have i2482 : (-1) ≤ (σ2470 9 2).toInt := I2476
              have z2483 : (σ2470 9 0).toInt = (σ 9 0).toInt := (congrArg Int32.toInt (show σ2470 9 0 = (σ 9 0) from ((f2473 0 (by decide)).trans ((f2385 0 (by decide)).trans ((f2375 0 (by decide)).trans ((f32 0 (by decide)).trans (f11 0 (by decide))))))))
              obtain ⟨k2484, h2470⟩ := h2470
              have h2485 := h2470
              obtain ⟨q2487, k2486⟩ := h2485
              refine lv_istore_n (lv' := [(3, .int r2471), (5, .int (σ2382 9 1)), (4, .int 0), (2, .int x24), (0, .ref (ad 9)), (1, .ref (ad 16))]) hx hb dX7_readOrder_99 rfl hl (by decide) rfl (fun ls hl => ?_)
              refine lv_iload_n hx hb dX7_readOrder_100 rfl (lv_at hl 0 rfl) ?_
              refine lv_iconst (v := 1) hx hb dX7_readOrder_101 (by decide) ?_
              refine lv_icmp_lt (tgt := 111) hx hb dX7_readOrder_102 (by decide) (fun c2488 => ?_) (fun c2488 => ?_)
              · have kc2488 := jlt c2488 rfl jz_1
                refine lv_aload_n hx hb dX7_readOrder_111 rfl (lv_at hl 4 rfl) ?_
                refine lv_iload hx hb dX7_readOrder_112 (lv_at hl 1 rfl) ?_
                refine jcallVv (As := [.int (σ2382 9 1)]) (rest := []) ⟨hx, hb, hml, hown, hts⟩ hK hP hA hS hZ (c_X7_fail_9 l D cI cL ad zz hJ σ2470 τ (σ2382 9 1) ((σ2382 9 1).toInt) rfl I2476 (by omega)) cw_RX7_43 (jc_9 cI cL ad σ2470 τ) rfl ⟨Nat.le_of_ble_eq_true rfl, Nat.le_of_ble_eq_true rfl⟩ rfl rfl rfl hl.1 rfl (Nat.le_of_ble_eq_true rfl) dX7_readOrder_114 ⟨Nat.zero_le _, Nat.zero_le _⟩ (fun σ2489 τ2489 H locs h2489 hP hS => ?_)
                obtain ⟨rfl, f2491, f2492, h2489⟩ := h2489
                obtain ⟨k2493, h2489⟩ := h2489
                refine lv_aload_n hx hb dX7_readOrder_117 rfl (lv_at hl 4 rfl) ?_
                refine lv_bipush (v := 114) hx hb dX7_readOrder_118 (by decide) ?_
                have I2494 : jI9 σ2489 := jI9_fr (f2492 0 (by decide)) (f2491 10 (by decide)) (f2491 11 (by decide)) I2474
                have I2495 : jI91 σ2489 := jI91_fr (f2492 0 (by decide)) (f2492 1 (by decide)) I2475
                have I2496 : jI92 σ2489 := (show (-1) ≤ (σ2489 9 2).toInt by omega)
                refine jcallV (As := [.int 114]) (rest := []) ⟨hx, hb, hml, hown, hts⟩ hK hP hA hS hZ (c_X7_skip_9 l D cI cL ad zz hJ σ2489 τ 114 (114) jz_114 I2494 I2495 I2496 (by omega)) cw_RX7_50 (jc_9 cI cL ad σ2489 τ) rfl ⟨Nat.le_of_ble_eq_true rfl, Nat.le_of_ble_eq_true rfl⟩ rfl rfl rfl hl.1 rfl (Nat.le_of_ble_eq_true rfl) dX7_readOrder_120 ⟨Nat.zero_le _, Nat.zero_le _⟩ (fun r2498 σ2497 τ2497 H locs h2497 hP hS => ?_)
                obtain ⟨rfl, f2499, f2500, I2501, I2502, I2503, h2497⟩ := h2497
                obtain ⟨i2504, w2505, w2506⟩ : (0 ≤ (σ2497 9 0).toInt ∧ (σ2497 9 0).toInt ≤ 80) ∧ (∀ k : Nat, k < 80 → 0 ≤ (σ2497 10 k).toInt ∧ (σ2497 10 k).toInt ≤ 255) ∧ (∀ k : Nat, k < 8 → 0 ≤ (σ2497 11 k).toInt ∧ (σ2497 11 k).toInt ≤ 3) := id I2501
                obtain ⟨i2507, i2508⟩ : (0 ≤ (σ2497 9 1).toInt) ∧ ((σ2497 9 1).toInt ≤ (σ2497 9 0).toInt) := id I2502
                have i2509 : (-1) ≤ (σ2497 9 2).toInt := I2503
                have z2510 : (σ2497 9 0).toInt = (σ 9 0).toInt := (congrArg Int32.toInt (show σ2497 9 0 = (σ 9 0) from ((f2500 0 (by decide)).trans ((f2492 0 (by decide)).trans ((f2473 0 (by decide)).trans ((f2385 0 (by decide)).trans ((f2375 0 (by decide)).trans ((f32 0 (by decide)).trans (f11 0 (by decide))))))))))
                have z2511 : (σ2497 9 2).toInt = (σ2489 9 2).toInt := (congrArg Int32.toInt (show σ2497 9 2 = (σ2489 9 2) from (f2500 2 (by decide))))
                refine lv_if_eq (tgt := 133) hx hb dX7_readOrder_123 (by decide) (fun c2512 => ?_) (fun c2512 => ?_)
                · have kc2512 := jeq c2512 rfl jz_0
                  refine lv_aload_n hx hb dX7_readOrder_133 rfl (lv_at hl 4 rfl) ?_
                  refine jcallV (As := []) (rest := []) ⟨hx, hb, hml, hown, hts⟩ hK hP hA hS hZ (c_X7_end_9 l D cI cL ad zz hJ σ2497 τ I2501 I2502 I2503) cw_RX7_57 (jc_9 cI cL ad σ2497 τ) rfl ⟨Nat.le_of_ble_eq_true rfl, Nat.le_of_ble_eq_true rfl⟩ rfl rfl rfl hl.1 rfl (Nat.le_of_ble_eq_true rfl) dX7_readOrder_134 ⟨Nat.zero_le _, Nat.zero_le _⟩ (fun r2514 σ2513 τ2513 H locs h2513 hP hS => ?_)
                  obtain ⟨rfl, f2515, f2516, I2517, I2518, h2513⟩ := h2513
                  obtain ⟨i2519, w2520, w2521⟩ : (0 ≤ (σ2513 9 0).toInt ∧ (σ2513 9 0).toInt ≤ 80) ∧ (∀ k : Nat, k < 80 → 0 ≤ (σ2513 10 k).toInt ∧ (σ2513 10 k).toInt ≤ 255) ∧ (∀ k : Nat, k < 8 → 0 ≤ (σ2513 11 k).toInt ∧ (σ2513 11 k).toInt ≤ 3) := id I2517
                  have i2522 : (-1) ≤ (σ2513 9 2).toInt := I2518
                  obtain ⟨k2523, h2513⟩ := h2513
                  rcases h2513 with h2524 | h2525
                  · obtain ⟨q2527, k2526⟩ := h2524
                    exact absurd (by omega : False) id
                  · obtain ⟨q2529, k2528⟩ := h2525
                    refine lv_istore (lv' := [(5, .int r2514), (3, .int r2471), (4, .int 0), (2, .int x24), (0, .ref (ad 9)), (1, .ref (ad 16))]) hx hb dX7_readOrder_137 hl (by decide) rfl (fun ls hl => ?_)
                    refine lv_iload hx hb dX7_readOrder_139 (lv_at hl 0 rfl) ?_
                    refine lv_iconst (v := (-1)) hx hb dX7_readOrder_141 (by decide) ?_
                    refine lv_icmp_eq (tgt := 148) hx hb dX7_readOrder_142 (by decide) (fun c => absurd (jeq c rfl jz_m1) (by omega)) (fun c2530 => ?_)
                    have kc2530 := jne c2530 rfl jz_m1
                    refine lv_iload hx hb dX7_readOrder_145 (lv_at hl 0 rfl) ?_
                    have I2531 : jI16 σ2513 := jI16_fr ((congrFun (f2515 16 (by decide)) 0).trans ((congrFun (f2499 16 (by decide)) 0).trans ((congrFun (f2491 16 (by decide)) 0).trans ((congrFun (f2472 16 (by decide)) 0).trans ((congrFun (f2384 16 (by decide)) 0).trans ((congrFun (f2374 16 (by decide)) 0).trans ((congrFun (f31 16 (by decide)) 0).trans (congrFun (f10 16 (by decide)) 0)))))))) ((congrFun (f2515 16 (by decide)) 1).trans ((congrFun (f2499 16 (by decide)) 1).trans ((congrFun (f2491 16 (by decide)) 1).trans ((congrFun (f2472 16 (by decide)) 1).trans ((congrFun (f2384 16 (by decide)) 1).trans ((congrFun (f2374 16 (by decide)) 1).trans ((congrFun (f31 16 (by decide)) 1).trans (congrFun (f10 16 (by decide)) 1)))))))) ((congrFun (f2515 16 (by decide)) 2).trans ((congrFun (f2499 16 (by decide)) 2).trans ((congrFun (f2491 16 (by decide)) 2).trans ((congrFun (f2472 16 (by decide)) 2).trans ((congrFun (f2384 16 (by decide)) 2).trans ((congrFun (f2374 16 (by decide)) 2).trans ((congrFun (f31 16 (by decide)) 2).trans (congrFun (f10 16 (by decide)) 2)))))))) ((f2515 17 (by decide)).trans ((f2499 17 (by decide)).trans ((f2491 17 (by decide)).trans ((f2472 17 (by decide)).trans ((f2384 17 (by decide)).trans ((f2374 17 (by decide)).trans ((f31 17 (by decide)).trans (f10 17 (by decide))))))))) hI16
                    exact hret r2514 σ2513 τ _ _ _ _ rfl ⟨rfl, (fun i hi => ((f2515 i (imp_46 i hi)).trans ((f2499 i (imp_46 i hi)).trans ((f2491 i (imp_46 i hi)).trans ((f2472 i (imp_46 i hi)).trans ((f2384 i (imp_46 i hi)).trans ((f2374 i (imp_46 i hi)).trans ((f31 i (imp_47 i hi)).trans (f10 i (imp_46 i hi)))))))))), (fun i hi => ((f2516 i (imp_48 i hi)).trans ((f2500 i (imp_49 i hi)).trans ((f2492 i (imp_54 i hi)).trans ((f2473 i (imp_50 i hi)).trans ((f2385 i (imp_49 i hi)).trans ((f2375 i (imp_54 i hi)).trans ((f32 i (imp_49 i hi)).trans (f11 i (imp_50 i hi)))))))))), (fun i hi => ((congrFun (f2515 16 (by decide)) i).trans ((congrFun (f2499 16 (by decide)) i).trans ((congrFun (f2491 16 (by decide)) i).trans ((congrFun (f2472 16 (by decide)) i).trans ((congrFun (f2384 16 (by decide)) i).trans ((congrFun (f2374 16 (by decide)) i).trans ((congrFun (f31 16 (by decide)) i).trans (congrFun (f10 16 (by decide)) i))))))))), I2517, I2531, (by omega), trivial⟩ hP hS dX7_readOrder_147
                · have kc2512 := jne c2512 rfl jz_0
                  refine lv_aload_n hx hb dX7_readOrder_126 rfl (lv_at hl 4 rfl) ?_
                  refine lv_iconst (v := 3) hx hb dX7_readOrder_127 (by decide) ?_
                  refine jcallV (As := [.int 3]) (rest := []) ⟨hx, hb, hml, hown, hts⟩ hK hP hA hS hZ (c_X7_number_3 l D cI cL ad zz hJ σ2497 τ I2501 I2502 I2503) cw_RX7_53 (jc_9 cI cL ad σ2497 τ) rfl ⟨Nat.le_of_ble_eq_true rfl, Nat.le_of_ble_eq_true rfl⟩ rfl rfl rfl hl.1 rfl (Nat.le_of_ble_eq_true rfl) dX7_readOrder_128 ⟨Nat.zero_le _, Nat.zero_le _⟩ (fun r2533 σ2532 τ2532 H locs h2532 hP hS => ?_)
                  obtain ⟨rfl, f2534, f2535, I2536, I2537, I2538, h2532⟩ := h2532
                  obtain ⟨i2539, w2540, w2541⟩ : (0 ≤ (σ2532 9 0).toInt ∧ (σ2532 9 0).toInt ≤ 80) ∧ (∀ k : Nat, k < 80 → 0 ≤ (σ2532 10 k).toInt ∧ (σ2532 10 k).toInt ≤ 255) ∧ (∀ k : Nat, k < 8 → 0 ≤ (σ2532 11 k).toInt ∧ (σ2532 11 k).toInt ≤ 3) := id I2536
                  obtain ⟨i2542, i2543⟩ : (0 ≤ (σ2532 9 1).toInt) ∧ ((σ2532 9 1).toInt ≤ (σ2532 9 0).toInt) := id I2537
                  have i2544 : (-1) ≤ (σ2532 9 2).toInt := I2538
                  have z2545 : (σ2532 9 0).toInt = (σ 9 0).toInt := (congrArg Int32.toInt (show σ2532 9 0 = (σ 9 0) from ((f2535 0 (by decide)).trans ((f2500 0 (by decide)).trans ((f2492 0 (by decide)).trans ((f2473 0 (by decide)).trans ((f2385 0 (by decide)).trans ((f2375 0 (by decide)).trans ((f32 0 (by decide)).trans (f11 0 (by decide)))))))))))
                  obtain ⟨k2546, h2532⟩ := h2532
                  have h2547 := h2532
                  obtain ⟨q2549, k2548⟩ := h2547
                  refine lv_istore (lv' := [(4, .int r2533), (3, .int r2471), (5, .int (σ2382 9 1)), (2, .int x24), (0, .ref (ad 9)), (1, .ref (ad 16))]) hx hb dX7_readOrder_131 hl (by decide) rfl (fun ls hl => ?_)
                  refine lv_aload_n hx hb dX7_readOrder_133 rfl (lv_at hl 4 rfl) ?_
                  refine jcallV (As := []) (rest := []) ⟨hx, hb, hml, hown, hts⟩ hK hP hA hS hZ (c_X7_end_9 l D cI cL ad zz hJ σ2532 τ I2536 I2537 I2538) cw_RX7_57 (jc_9 cI cL ad σ2532 τ) rfl ⟨Nat.le_of_ble_eq_true rfl, Nat.le_of_ble_eq_true rfl⟩ rfl rfl rfl hl.1 rfl (Nat.le_of_ble_eq_true rfl) dX7_readOrder_134 ⟨Nat.zero_le _, Nat.zero_le _⟩ (fun r2551 σ2550 τ2550 H locs h2550 hP hS => ?_)
                  obtain ⟨rfl, f2552, f2553, I2554, I2555, h2550⟩ := h2550
                  obtain ⟨i2556, w2557, w2558⟩ : (0 ≤ (σ2550 9 0).toInt ∧ (σ2550 9 0).toInt ≤ 80) ∧ (∀ k : Nat, k < 80 → 0 ≤ (σ2550 10 k).toInt ∧ (σ2550 10 k).toInt ≤ 255) ∧ (∀ k : Nat, k < 8 → 0 ≤ (σ2550 11 k).toInt ∧ (σ2550 11 k).toInt ≤ 3) := id I2554
                  have i2559 : (-1) ≤ (σ2550 9 2).toInt := I2555
                  obtain ⟨k2560, h2550⟩ := h2550
                  rcases h2550 with h2561 | h2562
                  · obtain ⟨q2564, k2563⟩ := h2561
                    exact absurd (by omega : False) id
                  · obtain ⟨q2566, k2565⟩ := h2562
                    refine lv_istore (lv' := [(5, .int r2551), (4, .int r2533), (3, .int r2471), (2, .int x24), (0, .ref (ad 9)), (1, .ref (ad 16))]) hx hb dX7_readOrder_137 hl (by decide) rfl (fun ls hl => ?_)
                    refine lv_iload hx hb dX7_readOrder_139 (lv_at hl 0 rfl) ?_
                    refine lv_iconst (v := (-1)) hx hb dX7_readOrder_141 (by decide) ?_
                    refine lv_icmp_eq (tgt := 148) hx hb dX7_readOrder_142 (by decide) (fun c => absurd (jeq c rfl jz_m1) (by omega)) (fun c2567 => ?_)
                    have kc2567 := jne c2567 rfl jz_m1
                    refine lv_iload hx hb dX7_readOrder_145 (lv_at hl 0 rfl) ?_
                    have I2568 : jI16 σ2550 := jI16_fr ((congrFun (f2552 16 (by decide)) 0).trans ((congrFun (f2534 16 (by decide)) 0).trans ((congrFun (f2499 16 (by decide)) 0).trans ((congrFun (f2491 16 (by decide)) 0).trans ((congrFun (f2472 16 (by decide)) 0).trans ((congrFun (f2384 16 (by decide)) 0).trans ((congrFun (f2374 16 (by decide)) 0).trans ((congrFun (f31 16 (by decide)) 0).trans (congrFun (f10 16 (by decide)) 0))))))))) ((congrFun (f2552 16 (by decide)) 1).trans ((congrFun (f2534 16 (by decide)) 1).trans ((congrFun (f2499 16 (by decide)) 1).trans ((congrFun (f2491 16 (by decide)) 1).trans ((congrFun (f2472 16 (by decide)) 1).trans ((congrFun (f2384 16 (by decide)) 1).trans ((congrFun (f2374 16 (by decide)) 1).trans ((congrFun (f31 16 (by decide)) 1).trans (congrFun (f10 16 (by decide)) 1))))))))) ((congrFun (f2552 16 (by decide)) 2).trans ((congrFun (f2534 16 (by decide)) 2).trans ((congrFun (f2499 16 (by decide)) 2).trans ((congrFun (f2491 16 (by decide)) 2).trans ((congrFun (f2472 16 (by decide)) 2).trans ((congrFun (f2384 16 (by decide)) 2).trans ((congrFun (f2374 16 (by decide)) 2).trans ((congrFun (f31 16 (by decide)) 2).trans (congrFun (f10 16 (by decide)) 2))))))))) ((f2552 17 (by decide)).trans ((f2534 17 (by decide)).trans ((f2499 17 (by decide)).trans ((f2491 17 (by decide)).trans ((f2472 17 (by decide)).trans ((f2384 17 (by decide)).trans ((f2374 17 (by decide)).trans ((f31 17 (by decide)).trans (f10 17 (by decide)))))))))) hI16
                    exact hret r2551 σ2550 τ _ _ _ _ rfl ⟨rfl, (fun i hi => ((f2552 i (imp_46 i hi)).trans ((f2534 i (imp_46 i hi)).trans ((f2499 i (imp_46 i hi)).trans ((f2491 i (imp_46 i hi)).trans ((f2472 i (imp_46 i hi)).trans ((f2384 i (imp_46 i hi)).trans ((f2374 i (imp_46 i hi)).trans ((f31 i (imp_47 i hi)).trans (f10 i (imp_46 i hi))))))))))), (fun i hi => ((f2553 i (imp_48 i hi)).trans ((f2535 i (imp_50 i hi)).trans ((f2500 i (imp_49 i hi)).trans ((f2492 i (imp_54 i hi)).trans ((f2473 i (imp_50 i hi)).trans ((f2385 i (imp_49 i hi)).trans ((f2375 i (imp_54 i hi)).trans ((f32 i (imp_49 i hi)).trans (f11 i (imp_50 i hi))))))))))), (fun i hi => ((congrFun (f2552 16 (by decide)) i).trans ((congrFun (f2534 16 (by decide)) i).trans ((congrFun (f2499 16 (by decide)) i).trans ((congrFun (f2491 16 (by decide)) i).trans ((congrFun (f2472 16 (by decide)) i).trans ((congrFun (f2384 16 (by decide)) i).trans ((congrFun (f2374 16 (by decide)) i).trans ((congrFun (f31 16 (by decide)) i).trans (congrFun (f10 16 (by decide)) i)))))))))), I2554, I2568, (by omega), trivial⟩ hP hS dX7_readOrder_147
              · have kc2488 := jnlt c2488 rfl jz_1
                refine lv_iload_n hx hb dX7_readOrder_105 rfl (lv_at hl 0 rfl) ?_
                refine lv_bipush (v := 12) hx hb dX7_readOrder_106 (by decide) ?_
                refine lv_icmp_le (tgt := 117) hx hb dX7_readOrder_108 (by decide) (fun c2569 => ?_) (fun c2569 => ?_)
                · have kc2569 := jle c2569 rfl jz_12
                  refine lv_aload_n hx hb dX7_readOrder_117 rfl (lv_at hl 4 rfl) ?_
                  refine lv_bipush (v := 114) hx hb dX7_readOrder_118 (by decide) ?_
                  refine jcallV (As := [.int 114]) (rest := []) ⟨hx, hb, hml, hown, hts⟩ hK hP hA hS hZ (c_X7_skip_9 l D cI cL ad zz hJ σ2470 τ 114 (114) jz_114 I2474 I2475 I2476 (by omega)) cw_RX7_50 (jc_9 cI cL ad σ2470 τ) rfl ⟨Nat.le_of_ble_eq_true rfl, Nat.le_of_ble_eq_true rfl⟩ rfl rfl rfl hl.1 rfl (Nat.le_of_ble_eq_true rfl) dX7_readOrder_120 ⟨Nat.zero_le _, Nat.zero_le _⟩ (fun r2571 σ2570 τ2570 H locs h2570 hP hS => ?_)
                  obtain ⟨rfl, f2572, f2573, I2574, I2575, I2576, h2570⟩ := h2570
                  obtain ⟨i2577, w2578, w2579⟩ : (0 ≤ (σ2570 9 0).toInt ∧ (σ2570 9 0).toInt ≤ 80) ∧ (∀ k : Nat, k < 80 → 0 ≤ (σ2570 10 k).toInt ∧ (σ2570 10 k).toInt ≤ 255) ∧ (∀ k : Nat, k < 8 → 0 ≤ (σ2570 11 k).toInt ∧ (σ2570 11 k).toInt ≤ 3) := id I2574
                  obtain ⟨i2580, i2581⟩ : (0 ≤ (σ2570 9 1).toInt) ∧ ((σ2570 9 1).toInt ≤ (σ2570 9 0).toInt) := id I2575
                  have i2582 : (-1) ≤ (σ2570 9 2).toInt := I2576
                  have z2583 : (σ2570 9 0).toInt = (σ 9 0).toInt := (congrArg Int32.toInt (show σ2570 9 0 = (σ 9 0) from ((f2573 0 (by decide)).trans ((f2473 0 (by decide)).trans ((f2385 0 (by decide)).trans ((f2375 0 (by decide)).trans ((f32 0 (by decide)).trans (f11 0 (by decide)))))))))
                  have z2584 : (σ2570 9 2).toInt = (σ2470 9 2).toInt := (congrArg Int32.toInt (show σ2570 9 2 = (σ2470 9 2) from (f2573 2 (by decide))))
                  refine lv_if_eq (tgt := 133) hx hb dX7_readOrder_123 (by decide) (fun c2585 => ?_) (fun c2585 => ?_)
                  · have kc2585 := jeq c2585 rfl jz_0
                    refine lv_aload_n hx hb dX7_readOrder_133 rfl (lv_at hl 4 rfl) ?_
                    refine jcallV (As := []) (rest := []) ⟨hx, hb, hml, hown, hts⟩ hK hP hA hS hZ (c_X7_end_9 l D cI cL ad zz hJ σ2570 τ I2574 I2575 I2576) cw_RX7_57 (jc_9 cI cL ad σ2570 τ) rfl ⟨Nat.le_of_ble_eq_true rfl, Nat.le_of_ble_eq_true rfl⟩ rfl rfl rfl hl.1 rfl (Nat.le_of_ble_eq_true rfl) dX7_readOrder_134 ⟨Nat.zero_le _, Nat.zero_le _⟩ (fun r2587 σ2586 τ2586 H locs h2586 hP hS => ?_)
                    obtain ⟨rfl, f2588, f2589, I2590, I2591, h2586⟩ := h2586
                    obtain ⟨i2592, w2593, w2594⟩ : (0 ≤ (σ2586 9 0).toInt ∧ (σ2586 9 0).toInt ≤ 80) ∧ (∀ k : Nat, k < 80 → 0 ≤ (σ2586 10 k).toInt ∧ (σ2586 10 k).toInt ≤ 255) ∧ (∀ k : Nat, k < 8 → 0 ≤ (σ2586 11 k).toInt ∧ (σ2586 11 k).toInt ≤ 3) := id I2590
                    have i2595 : (-1) ≤ (σ2586 9 2).toInt := I2591
                    obtain ⟨k2596, h2586⟩ := h2586
                    rcases h2586 with h2597 | h2598
                    · obtain ⟨q2600, k2599⟩ := h2597
                      exact absurd (by omega : False) id
                    · obtain ⟨q2602, k2601⟩ := h2598
                      refine lv_istore (lv' := [(5, .int r2587), (3, .int r2471), (4, .int 0), (2, .int x24), (0, .ref (ad 9)), (1, .ref (ad 16))]) hx hb dX7_readOrder_137 hl (by decide) rfl (fun ls hl => ?_)
                      refine lv_iload hx hb dX7_readOrder_139 (lv_at hl 0 rfl) ?_
                      refine lv_iconst (v := (-1)) hx hb dX7_readOrder_141 (by decide) ?_
                      refine lv_icmp_eq (tgt := 148) hx hb dX7_readOrder_142 (by decide) (fun c => absurd (jeq c rfl jz_m1) (by omega)) (fun c2603 => ?_)
                      have kc2603 := jne c2603 rfl jz_m1
                      refine lv_iload hx hb dX7_readOrder_145 (lv_at hl 0 rfl) ?_
                      have I2604 : jI16 σ2586 := jI16_fr ((congrFun (f2588 16 (by decide)) 0).trans ((congrFun (f2572 16 (by decide)) 0).trans ((congrFun (f2472 16 (by decide)) 0).trans ((congrFun (f2384 16 (by decide)) 0).trans ((congrFun (f2374 16 (by decide)) 0).trans ((congrFun (f31 16 (by decide)) 0).trans (congrFun (f10 16 (by decide)) 0))))))) ((congrFun (f2588 16 (by decide)) 1).trans ((congrFun (f2572 16 (by decide)) 1).trans ((congrFun (f2472 16 (by decide)) 1).trans ((congrFun (f2384 16 (by decide)) 1).trans ((congrFun (f2374 16 (by decide)) 1).trans ((congrFun (f31 16 (by decide)) 1).trans (congrFun (f10 16 (by decide)) 1))))))) ((congrFun (f2588 16 (by decide)) 2).trans ((congrFun (f2572 16 (by decide)) 2).trans ((congrFun (f2472 16 (by decide)) 2).trans ((congrFun (f2384 16 (by decide)) 2).trans ((congrFun (f2374 16 (by decide)) 2).trans ((congrFun (f31 16 (by decide)) 2).trans (congrFun (f10 16 (by decide)) 2))))))) ((f2588 17 (by decide)).trans ((f2572 17 (by decide)).trans ((f2472 17 (by decide)).trans ((f2384 17 (by decide)).trans ((f2374 17 (by decide)).trans ((f31 17 (by decide)).trans (f10 17 (by decide)))))))) hI16
                      exact hret r2587 σ2586 τ _ _ _ _ rfl ⟨rfl, (fun i hi => ((f2588 i (imp_46 i hi)).trans ((f2572 i (imp_46 i hi)).trans ((f2472 i (imp_46 i hi)).trans ((f2384 i (imp_46 i hi)).trans ((f2374 i (imp_46 i hi)).trans ((f31 i (imp_47 i hi)).trans (f10 i (imp_46 i hi))))))))), (fun i hi => ((f2589 i (imp_48 i hi)).trans ((f2573 i (imp_49 i hi)).trans ((f2473 i (imp_50 i hi)).trans ((f2385 i (imp_49 i hi)).trans ((f2375 i (imp_54 i hi)).trans ((f32 i (imp_49 i hi)).trans (f11 i (imp_50 i hi))))))))), (fun i hi => ((congrFun (f2588 16 (by decide)) i).trans ((congrFun (f2572 16 (by decide)) i).trans ((congrFun (f2472 16 (by decide)) i).trans ((congrFun (f2384 16 (by decide)) i).trans ((congrFun (f2374 16 (by decide)) i).trans ((congrFun (f31 16 (by decide)) i).trans (congrFun (f10 16 (by decide)) i)))))))), I2590, I2604, (by omega), trivial⟩ hP hS dX7_readOrder_147
                  · have kc2585 := jne c2585 rfl jz_0
                    refine lv_aload_n hx hb dX7_readOrder_126 rfl (lv_at hl 4 rfl) ?_
                    refine lv_iconst (v := 3) hx hb dX7_readOrder_127 (by decide) ?_
                    refine jcallV (As := [.int 3]) (rest := []) ⟨hx, hb, hml, hown, hts⟩ hK hP hA hS hZ (c_X7_number_3 l D cI cL ad zz hJ σ2570 τ I2574 I2575 I2576) cw_RX7_53 (jc_9 cI cL ad σ2570 τ) rfl ⟨Nat.le_of_ble_eq_true rfl, Nat.le_of_ble_eq_true rfl⟩ rfl rfl rfl hl.1 rfl (Nat.le_of_ble_eq_true rfl) dX7_readOrder_128 ⟨Nat.zero_le _, Nat.zero_le _⟩ (fun r2606 σ2605 τ2605 H locs h2605 hP hS => ?_)
                    obtain ⟨rfl, f2607, f2608, I2609, I2610, I2611, h2605⟩ := h2605
                    obtain ⟨i2612, w2613, w2614⟩ : (0 ≤ (σ2605 9 0).toInt ∧ (σ2605 9 0).toInt ≤ 80) ∧ (∀ k : Nat, k < 80 → 0 ≤ (σ2605 10 k).toInt ∧ (σ2605 10 k).toInt ≤ 255) ∧ (∀ k : Nat, k < 8 → 0 ≤ (σ2605 11 k).toInt ∧ (σ2605 11 k).toInt ≤ 3) := id I2609
                    obtain ⟨i2615, i2616⟩ : (0 ≤ (σ2605 9 1).toInt) ∧ ((σ2605 9 1).toInt ≤ (σ2605 9 0).toInt) := id I2610
                    have i2617 : (-1) ≤ (σ2605 9 2).toInt := I2611
                    have z2618 : (σ2605 9 0).toInt = (σ 9 0).toInt := (congrArg Int32.toInt (show σ2605 9 0 = (σ 9 0) from ((f2608 0 (by decide)).trans ((f2573 0 (by decide)).trans ((f2473 0 (by decide)).trans ((f2385 0 (by decide)).trans ((f2375 0 (by decide)).trans ((f32 0 (by decide)).trans (f11 0 (by decide))))))))))
                    obtain ⟨k2619, h2605⟩ := h2605
                    have h2620 := h2605
                    obtain ⟨q2622, k2621⟩ := h2620
                    refine lv_istore (lv' := [(4, .int r2606), (3, .int r2471), (5, .int (σ2382 9 1)), (2, .int x24), (0, .ref (ad 9)), (1, .ref (ad 16))]) hx hb dX7_readOrder_131 hl (by decide) rfl (fun ls hl => ?_)
                    refine lv_aload_n hx hb dX7_readOrder_133 rfl (lv_at hl 4 rfl) ?_
                    refine jcallV (As := []) (rest := []) ⟨hx, hb, hml, hown, hts⟩ hK hP hA hS hZ (c_X7_end_9 l D cI cL ad zz hJ σ2605 τ I2609 I2610 I2611) cw_RX7_57 (jc_9 cI cL ad σ2605 τ) rfl ⟨Nat.le_of_ble_eq_true rfl, Nat.le_of_ble_eq_true rfl⟩ rfl rfl rfl hl.1 rfl (Nat.le_of_ble_eq_true rfl) dX7_readOrder_134 ⟨Nat.zero_le _, Nat.zero_le _⟩ (fun r2624 σ2623 τ2623 H locs h2623 hP hS => ?_)
                    obtain ⟨rfl, f2625, f2626, I2627, I2628, h2623⟩ := h2623
                    obtain ⟨i2629, w2630, w2631⟩ : (0 ≤ (σ2623 9 0).toInt ∧ (σ2623 9 0).toInt ≤ 80) ∧ (∀ k : Nat, k < 80 → 0 ≤ (σ2623 10 k).toInt ∧ (σ2623 10 k).toInt ≤ 255) ∧ (∀ k : Nat, k < 8 → 0 ≤ (σ2623 11 k).toInt ∧ (σ2623 11 k).toInt ≤ 3) := id I2627
                    have i2632 : (-1) ≤ (σ2623 9 2).toInt := I2628
                    obtain ⟨k2633, h2623⟩ := h2623
                    rcases h2623 with h2634 | h2635
                    · obtain ⟨q2637, k2636⟩ := h2634
                      exact absurd (by omega : False) id
                    · obtain ⟨q2639, k2638⟩ := h2635
                      refine lv_istore (lv' := [(5, .int r2624), (4, .int r2606), (3, .int r2471), (2, .int x24), (0, .ref (ad 9)), (1, .ref (ad 16))]) hx hb dX7_readOrder_137 hl (by decide) rfl (fun ls hl => ?_)
                      refine lv_iload hx hb dX7_readOrder_139 (lv_at hl 0 rfl) ?_
                      refine lv_iconst (v := (-1)) hx hb dX7_readOrder_141 (by decide) ?_
                      refine lv_icmp_eq (tgt := 148) hx hb dX7_readOrder_142 (by decide) (fun c => absurd (jeq c rfl jz_m1) (by omega)) (fun c2640 => ?_)
                      have kc2640 := jne c2640 rfl jz_m1
                      refine lv_iload hx hb dX7_readOrder_145 (lv_at hl 0 rfl) ?_
                      have I2641 : jI16 σ2623 := jI16_fr ((congrFun (f2625 16 (by decide)) 0).trans ((congrFun (f2607 16 (by decide)) 0).trans ((congrFun (f2572 16 (by decide)) 0).trans ((congrFun (f2472 16 (by decide)) 0).trans ((congrFun (f2384 16 (by decide)) 0).trans ((congrFun (f2374 16 (by decide)) 0).trans ((congrFun (f31 16 (by decide)) 0).trans (congrFun (f10 16 (by decide)) 0)))))))) ((congrFun (f2625 16 (by decide)) 1).trans ((congrFun (f2607 16 (by decide)) 1).trans ((congrFun (f2572 16 (by decide)) 1).trans ((congrFun (f2472 16 (by decide)) 1).trans ((congrFun (f2384 16 (by decide)) 1).trans ((congrFun (f2374 16 (by decide)) 1).trans ((congrFun (f31 16 (by decide)) 1).trans (congrFun (f10 16 (by decide)) 1)))))))) ((congrFun (f2625 16 (by decide)) 2).trans ((congrFun (f2607 16 (by decide)) 2).trans ((congrFun (f2572 16 (by decide)) 2).trans ((congrFun (f2472 16 (by decide)) 2).trans ((congrFun (f2384 16 (by decide)) 2).trans ((congrFun (f2374 16 (by decide)) 2).trans ((congrFun (f31 16 (by decide)) 2).trans (congrFun (f10 16 (by decide)) 2)))))))) ((f2625 17 (by decide)).trans ((f2607 17 (by decide)).trans ((f2572 17 (by decide)).trans ((f2472 17 (by decide)).trans ((f2384 17 (by decide)).trans ((f2374 17 (by decide)).trans ((f31 17 (by decide)).trans (f10 17 (by decide))))))))) hI16
                      exact hret r2624 σ2623 τ _ _ _ _ rfl ⟨rfl, (fun i hi => ((f2625 i (imp_46 i hi)).trans ((f2607 i (imp_46 i hi)).trans ((f2572 i (imp_46 i hi)).trans ((f2472 i (imp_46 i hi)).trans ((f2384 i (imp_46 i hi)).trans ((f2374 i (imp_46 i hi)).trans ((f31 i (imp_47 i hi)).trans (f10 i (imp_46 i hi)))))))))), (fun i hi => ((f2626 i (imp_48 i hi)).trans ((f2608 i (imp_50 i hi)).trans ((f2573 i (imp_49 i hi)).trans ((f2473 i (imp_50 i hi)).trans ((f2385 i (imp_49 i hi)).trans ((f2375 i (imp_54 i hi)).trans ((f32 i (imp_49 i hi)).trans (f11 i (imp_50 i hi)))))))))), (fun i hi => ((congrFun (f2625 16 (by decide)) i).trans ((congrFun (f2607 16 (by decide)) i).trans ((congrFun (f2572 16 (by decide)) i).trans ((congrFun (f2472 16 (by decide)) i).trans ((congrFun (f2384 16 (by decide)) i).trans ((congrFun (f2374 16 (by decide)) i).trans ((congrFun (f31 16 (by decide)) i).trans (congrFun (f10 16 (by decide)) i))))))))), I2627, I2641, (by omega), trivial⟩ hP hS dX7_readOrder_147
                · have kc2569 := jnle c2569 rfl jz_12
                  refine lv_aload_n hx hb dX7_readOrder_111 rfl (lv_at hl 4 rfl) ?_
                  refine lv_iload hx hb dX7_readOrder_112 (lv_at hl 1 rfl) ?_
                  refine jcallVv (As := [.int (σ2382 9 1)]) (rest := []) ⟨hx, hb, hml, hown, hts⟩ hK hP hA hS hZ (c_X7_fail_9 l D cI cL ad zz hJ σ2470 τ (σ2382 9 1) ((σ2382 9 1).toInt) rfl I2476 (by omega)) cw_RX7_43 (jc_9 cI cL ad σ2470 τ) rfl ⟨Nat.le_of_ble_eq_true rfl, Nat.le_of_ble_eq_true rfl⟩ rfl rfl rfl hl.1 rfl (Nat.le_of_ble_eq_true rfl) dX7_readOrder_114 ⟨Nat.zero_le _, Nat.zero_le _⟩ (fun σ2642 τ2642 H locs h2642 hP hS => ?_)
                  obtain ⟨rfl, f2644, f2645, h2642⟩ := h2642
                  obtain ⟨k2646, h2642⟩ := h2642
                  refine lv_aload_n hx hb dX7_readOrder_117 rfl (lv_at hl 4 rfl) ?_
                  refine lv_bipush (v := 114) hx hb dX7_readOrder_118 (by decide) ?_
                  have I2647 : jI9 σ2642 := jI9_fr (f2645 0 (by decide)) (f2644 10 (by decide)) (f2644 11 (by decide)) I2474
                  have I2648 : jI91 σ2642 := jI91_fr (f2645 0 (by decide)) (f2645 1 (by decide)) I2475
                  have I2649 : jI92 σ2642 := (show (-1) ≤ (σ2642 9 2).toInt by omega)
                  refine jcallV (As := [.int 114]) (rest := []) ⟨hx, hb, hml, hown, hts⟩ hK hP hA hS hZ (c_X7_skip_9 l D cI cL ad zz hJ σ2642 τ 114 (114) jz_114 I2647 I2648 I2649 (by omega)) cw_RX7_50 (jc_9 cI cL ad σ2642 τ) rfl ⟨Nat.le_of_ble_eq_true rfl, Nat.le_of_ble_eq_true rfl⟩ rfl rfl rfl hl.1 rfl (Nat.le_of_ble_eq_true rfl) dX7_readOrder_120 ⟨Nat.zero_le _, Nat.zero_le _⟩ (fun r2651 σ2650 τ2650 H locs h2650 hP hS => ?_)
                  obtain ⟨rfl, f2652, f2653, I2654, I2655, I2656, h2650⟩ := h2650
                  obtain ⟨i2657, w2658, w2659⟩ : (0 ≤ (σ2650 9 0).toInt ∧ (σ2650 9 0).toInt ≤ 80) ∧ (∀ k : Nat, k < 80 → 0 ≤ (σ2650 10 k).toInt ∧ (σ2650 10 k).toInt ≤ 255) ∧ (∀ k : Nat, k < 8 → 0 ≤ (σ2650 11 k).toInt ∧ (σ2650 11 k).toInt ≤ 3) := id I2654
                  obtain ⟨i2660, i2661⟩ : (0 ≤ (σ2650 9 1).toInt) ∧ ((σ2650 9 1).toInt ≤ (σ2650 9 0).toInt) := id I2655
                  have i2662 : (-1) ≤ (σ2650 9 2).toInt := I2656
                  have z2663 : (σ2650 9 0).toInt = (σ 9 0).toInt := (congrArg Int32.toInt (show σ2650 9 0 = (σ 9 0) from ((f2653 0 (by decide)).trans ((f2645 0 (by decide)).trans ((f2473 0 (by decide)).trans ((f2385 0 (by decide)).trans ((f2375 0 (by decide)).trans ((f32 0 (by decide)).trans (f11 0 (by decide))))))))))
                  have z2664 : (σ2650 9 2).toInt = (σ2642 9 2).toInt := (congrArg Int32.toInt (show σ2650 9 2 = (σ2642 9 2) from (f2653 2 (by decide))))
                  refine lv_if_eq (tgt := 133) hx hb dX7_readOrder_123 (by decide) (fun c2665 => ?_) (fun c2665 => ?_)
                  · have kc2665 := jeq c2665 rfl jz_0
                    refine lv_aload_n hx hb dX7_readOrder_133 rfl (lv_at hl 4 rfl) ?_
                    refine jcallV (As := []) (rest := []) ⟨hx, hb, hml, hown, hts⟩ hK hP hA hS hZ (c_X7_end_9 l D cI cL ad zz hJ σ2650 τ I2654 I2655 I2656) cw_RX7_57 (jc_9 cI cL ad σ2650 τ) rfl ⟨Nat.le_of_ble_eq_true rfl, Nat.le_of_ble_eq_true rfl⟩ rfl rfl rfl hl.1 rfl (Nat.le_of_ble_eq_true rfl) dX7_readOrder_134 ⟨Nat.zero_le _, Nat.zero_le _⟩ (fun r2667 σ2666 τ2666 H locs h2666 hP hS => ?_)
                    obtain ⟨rfl, f2668, f2669, I2670, I2671, h2666⟩ := h2666
                    obtain ⟨i2672, w2673, w2674⟩ : (0 ≤ (σ2666 9 0).toInt ∧ (σ2666 9 0).toInt ≤ 80) ∧ (∀ k : Nat, k < 80 → 0 ≤ (σ2666 10 k).toInt ∧ (σ2666 10 k).toInt ≤ 255) ∧ (∀ k : Nat, k < 8 → 0 ≤ (σ2666 11 k).toInt ∧ (σ2666 11 k).toInt ≤ 3) := id I2670
                    have i2675 : (-1) ≤ (σ2666 9 2).toInt := I2671
                    obtain ⟨k2676, h2666⟩ := h2666
                    rcases h2666 with h2677 | h2678
                    · obtain ⟨q2680, k2679⟩ := h2677
                      exact absurd (by omega : False) id
                    · obtain ⟨q2682, k2681⟩ := h2678
                      refine lv_istore (lv' := [(5, .int r2667), (3, .int r2471), (4, .int 0), (2, .int x24), (0, .ref (ad 9)), (1, .ref (ad 16))]) hx hb dX7_readOrder_137 hl (by decide) rfl (fun ls hl => ?_)
                      refine lv_iload hx hb dX7_readOrder_139 (lv_at hl 0 rfl) ?_
                      refine lv_iconst (v := (-1)) hx hb dX7_readOrder_141 (by decide) ?_
                      refine lv_icmp_eq (tgt := 148) hx hb dX7_readOrder_142 (by decide) (fun c => absurd (jeq c rfl jz_m1) (by omega)) (fun c2683 => ?_)
                      have kc2683 := jne c2683 rfl jz_m1
                      refine lv_iload hx hb dX7_readOrder_145 (lv_at hl 0 rfl) ?_
                      have I2684 : jI16 σ2666 := jI16_fr ((congrFun (f2668 16 (by decide)) 0).trans ((congrFun (f2652 16 (by decide)) 0).trans ((congrFun (f2644 16 (by decide)) 0).trans ((congrFun (f2472 16 (by decide)) 0).trans ((congrFun (f2384 16 (by decide)) 0).trans ((congrFun (f2374 16 (by decide)) 0).trans ((congrFun (f31 16 (by decide)) 0).trans (congrFun (f10 16 (by decide)) 0)))))))) ((congrFun (f2668 16 (by decide)) 1).trans ((congrFun (f2652 16 (by decide)) 1).trans ((congrFun (f2644 16 (by decide)) 1).trans ((congrFun (f2472 16 (by decide)) 1).trans ((congrFun (f2384 16 (by decide)) 1).trans ((congrFun (f2374 16 (by decide)) 1).trans ((congrFun (f31 16 (by decide)) 1).trans (congrFun (f10 16 (by decide)) 1)))))))) ((congrFun (f2668 16 (by decide)) 2).trans ((congrFun (f2652 16 (by decide)) 2).trans ((congrFun (f2644 16 (by decide)) 2).trans ((congrFun (f2472 16 (by decide)) 2).trans ((congrFun (f2384 16 (by decide)) 2).trans ((congrFun (f2374 16 (by decide)) 2).trans ((congrFun (f31 16 (by decide)) 2).trans (congrFun (f10 16 (by decide)) 2)))))))) ((f2668 17 (by decide)).trans ((f2652 17 (by decide)).trans ((f2644 17 (by decide)).trans ((f2472 17 (by decide)).trans ((f2384 17 (by decide)).trans ((f2374 17 (by decide)).trans ((f31 17 (by decide)).trans (f10 17 (by decide))))))))) hI16
                      exact hret r2667 σ2666 τ _ _ _ _ rfl ⟨rfl, (fun i hi => ((f2668 i (imp_46 i hi)).trans ((f2652 i (imp_46 i hi)).trans ((f2644 i (imp_46 i hi)).trans ((f2472 i (imp_46 i hi)).trans ((f2384 i (imp_46 i hi)).trans ((f2374 i (imp_46 i hi)).trans ((f31 i (imp_47 i hi)).trans (f10 i (imp_46 i hi)))))))))), (fun i hi => ((f2669 i (imp_48 i hi)).trans ((f2653 i (imp_49 i hi)).trans ((f2645 i (imp_54 i hi)).trans ((f2473 i (imp_50 i hi)).trans ((f2385 i (imp_49 i hi)).trans ((f2375 i (imp_54 i hi)).trans ((f32 i (imp_49 i hi)).trans (f11 i (imp_50 i hi)))))))))), (fun i hi => ((congrFun (f2668 16 (by decide)) i).trans ((congrFun (f2652 16 (by decide)) i).trans ((congrFun (f2644 16 (by decide)) i).trans ((congrFun (f2472 16 (by decide)) i).trans ((congrFun (f2384 16 (by decide)) i).trans ((congrFun (f2374 16 (by decide)) i).trans ((congrFun (f31 16 (by decide)) i).trans (congrFun (f10 16 (by decide)) i))))))))), I2670, I2684, (by omega), trivial⟩ hP hS dX7_readOrder_147
                  · have kc2665 := jne c2665 rfl jz_0
                    refine lv_aload_n hx hb dX7_readOrder_126 rfl (lv_at hl 4 rfl) ?_
                    refine lv_iconst (v := 3) hx hb dX7_readOrder_127 (by decide) ?_
                    refine jcallV (As := [.int 3]) (rest := []) ⟨hx, hb, hml, hown, hts⟩ hK hP hA hS hZ (c_X7_number_3 l D cI cL ad zz hJ σ2650 τ I2654 I2655 I2656) cw_RX7_53 (jc_9 cI cL ad σ2650 τ) rfl ⟨Nat.le_of_ble_eq_true rfl, Nat.le_of_ble_eq_true rfl⟩ rfl rfl rfl hl.1 rfl (Nat.le_of_ble_eq_true rfl) dX7_readOrder_128 ⟨Nat.zero_le _, Nat.zero_le _⟩ (fun r2686 σ2685 τ2685 H locs h2685 hP hS => ?_)
                    obtain ⟨rfl, f2687, f2688, I2689, I2690, I2691, h2685⟩ := h2685
                    obtain ⟨i2692, w2693, w2694⟩ : (0 ≤ (σ2685 9 0).toInt ∧ (σ2685 9 0).toInt ≤ 80) ∧ (∀ k : Nat, k < 80 → 0 ≤ (σ2685 10 k).toInt ∧ (σ2685 10 k).toInt ≤ 255) ∧ (∀ k : Nat, k < 8 → 0 ≤ (σ2685 11 k).toInt ∧ (σ2685 11 k).toInt ≤ 3) := id I2689
                    obtain ⟨i2695, i2696⟩ : (0 ≤ (σ2685 9 1).toInt) ∧ ((σ2685 9 1).toInt ≤ (σ2685 9 0).toInt) := id I2690
                    have i2697 : (-1) ≤ (σ2685 9 2).toInt := I2691
                    have z2698 : (σ2685 9 0).toInt = (σ 9 0).toInt := (congrArg Int32.toInt (show σ2685 9 0 = (σ 9 0) from ((f2688 0 (by decide)).trans ((f2653 0 (by decide)).trans ((f2645 0 (by decide)).trans ((f2473 0 (by decide)).trans ((f2385 0 (by decide)).trans ((f2375 0 (by decide)).trans ((f32 0 (by decide)).trans (f11 0 (by decide)))))))))))
                    obtain ⟨k2699, h2685⟩ := h2685
                    have h2700 := h2685
                    obtain ⟨q2702, k2701⟩ := h2700
                    refine lv_istore (lv' := [(4, .int r2686), (3, .int r2471), (5, .int (σ2382 9 1)), (2, .int x24), (0, .ref (ad 9)), (1, .ref (ad 16))]) hx hb dX7_readOrder_131 hl (by decide) rfl (fun ls hl => ?_)
                    refine lv_aload_n hx hb dX7_readOrder_133 rfl (lv_at hl 4 rfl) ?_
                    refine jcallV (As := []) (rest := []) ⟨hx, hb, hml, hown, hts⟩ hK hP hA hS hZ (c_X7_end_9 l D cI cL ad zz hJ σ2685 τ I2689 I2690 I2691) cw_RX7_57 (jc_9 cI cL ad σ2685 τ) rfl ⟨Nat.le_of_ble_eq_true rfl, Nat.le_of_ble_eq_true rfl⟩ rfl rfl rfl hl.1 rfl (Nat.le_of_ble_eq_true rfl) dX7_readOrder_134 ⟨Nat.zero_le _, Nat.zero_le _⟩ (fun r2704 σ2703 τ2703 H locs h2703 hP hS => ?_)
                    obtain ⟨rfl, f2705, f2706, I2707, I2708, h2703⟩ := h2703
                    obtain ⟨i2709, w2710, w2711⟩ : (0 ≤ (σ2703 9 0).toInt ∧ (σ2703 9 0).toInt ≤ 80) ∧ (∀ k : Nat, k < 80 → 0 ≤ (σ2703 10 k).toInt ∧ (σ2703 10 k).toInt ≤ 255) ∧ (∀ k : Nat, k < 8 → 0 ≤ (σ2703 11 k).toInt ∧ (σ2703 11 k).toInt ≤ 3) := id I2707
                    have i2712 : (-1) ≤ (σ2703 9 2).toInt := I2708
                    obtain ⟨k2713, h2703⟩ := h2703
                    rcases h2703 with h2714 | h2715
                    · obtain ⟨q2717, k2716⟩ := h2714
                      exact absurd (by omega : False) id
                    · obtain ⟨q2719, k2718⟩ := h2715
                      refine lv_istore (lv' := [(5, .int r2704), (4, .int r2686), (3, .int r2471), (2, .int x24), (0, .ref (ad 9)), (1, .ref (ad 16))]) hx hb dX7_readOrder_137 hl (by decide) rfl (fun ls hl => ?_)
                      refine lv_iload hx hb dX7_readOrder_139 (lv_at hl 0 rfl) ?_
                      refine lv_iconst (v := (-1)) hx hb dX7_readOrder_141 (by decide) ?_
                      refine lv_icmp_eq (tgt := 148) hx hb dX7_readOrder_142 (by decide) (fun c => absurd (jeq c rfl jz_m1) (by omega)) (fun c2720 => ?_)
                      have kc2720 := jne c2720 rfl jz_m1
                      refine lv_iload hx hb dX7_readOrder_145 (lv_at hl 0 rfl) ?_
                      have I2721 : jI16 σ2703 := jI16_fr ((congrFun (f2705 16 (by decide)) 0).trans ((congrFun (f2687 16 (by decide)) 0).trans ((congrFun (f2652 16 (by decide)) 0).trans ((congrFun (f2644 16 (by decide)) 0).trans ((congrFun (f2472 16 (by decide)) 0).trans ((congrFun (f2384 16 (by decide)) 0).trans ((congrFun (f2374 16 (by decide)) 0).trans ((congrFun (f31 16 (by decide)) 0).trans (congrFun (f10 16 (by decide)) 0))))))))) ((congrFun (f2705 16 (by decide)) 1).trans ((congrFun (f2687 16 (by decide)) 1).trans ((congrFun (f2652 16 (by decide)) 1).trans ((congrFun (f2644 16 (by decide)) 1).trans ((congrFun (f2472 16 (by decide)) 1).trans ((congrFun (f2384 16 (by decide)) 1).trans ((congrFun (f2374 16 (by decide)) 1).trans ((congrFun (f31 16 (by decide)) 1).trans (congrFun (f10 16 (by decide)) 1))))))))) ((congrFun (f2705 16 (by decide)) 2).trans ((congrFun (f2687 16 (by decide)) 2).trans ((congrFun (f2652 16 (by decide)) 2).trans ((congrFun (f2644 16 (by decide)) 2).trans ((congrFun (f2472 16 (by decide)) 2).trans ((congrFun (f2384 16 (by decide)) 2).trans ((congrFun (f2374 16 (by decide)) 2).trans ((congrFun (f31 16 (by decide)) 2).trans (congrFun (f10 16 (by decide)) 2))))))))) ((f2705 17 (by decide)).trans ((f2687 17 (by decide)).trans ((f2652 17 (by decide)).trans ((f2644 17 (by decide)).trans ((f2472 17 (by decide)).trans ((f2384 17 (by decide)).trans ((f2374 17 (by decide)).trans ((f31 17 (by decide)).trans (f10 17 (by decide)))))))))) hI16
                      exact hret r2704 σ2703 τ _ _ _ _ rfl ⟨rfl, (fun i hi => ((f2705 i (imp_46 i hi)).trans ((f2687 i (imp_46 i hi)).trans ((f2652 i (imp_46 i hi)).trans ((f2644 i (imp_46 i hi)).trans ((f2472 i (imp_46 i hi)).trans ((f2384 i (imp_46 i hi)).trans ((f2374 i (imp_46 i hi)).trans ((f31 i (imp_47 i hi)).trans (f10 i (imp_46 i hi))))))))))), (fun i hi => ((f2706 i (imp_48 i hi)).trans ((f2688 i (imp_50 i hi)).trans ((f2653 i (imp_49 i hi)).trans ((f2645 i (imp_54 i hi)).trans ((f2473 i (imp_50 i hi)).trans ((f2385 i (imp_49 i hi)).trans ((f2375 i (imp_54 i hi)).trans ((f32 i (imp_49 i hi)).trans (f11 i (imp_50 i hi))))))))))), (fun i hi => ((congrFun (f2705 16 (by decide)) i).trans ((congrFun (f2687 16 (by decide)) i).trans ((congrFun (f2652 16 (by decide)) i).trans ((congrFun (f2644 16 (by decide)) i).trans ((congrFun (f2472 16 (by decide)) i).trans ((congrFun (f2384 16 (by decide)) i).trans ((congrFun (f2374 16 (by decide)) i).trans ((congrFun (f31 16 (by decide)) i).trans (congrFun (f10 16 (by decide)) i)))))))))), I2707, I2721, (by omega), trivial⟩ hP hS dX7_readOrder_147
  exact lp22 1000000 0 σ8 _ _ ls (by have h90 := jz_0; omega) (by have h90 := jz_0; omega) (by have h90 := jz_0; omega) (by have h90 := jz_0; omega) (by have h90 := jz_0; omega) (fun _ _ => rfl) (fun _ _ => rfl)  I12 hP hS hl
