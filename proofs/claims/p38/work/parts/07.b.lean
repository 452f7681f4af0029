set_option maxHeartbeats 4000000 in
set_option maxRecDepth 100000 in
theorem c_X10_begin_12 (l : Launch) (D : va_G) (cI cL : ClassId) (ad zz : Nat → Nat) (hJ : jD ad) (σ : Nat → Nat → Int32) (τ : Nat → Nat → Int64) (hw13 : ∀ k : Nat, k < 160 → 0 ≤ (σ 13 k).toInt ∧ (σ 13 k).toInt ≤ 30000) : jMv l yX10_begin cX10_begin 1 none ({ frames := 0, cells := 0, slots := 0, locals := 0 }) D cI cL ad zz [.ref (ad 12)] σ τ (fun σ' τ' => τ = τ' ∧ (∀ i : Nat, (i < 12 ∨ 12 < i) → σ' i = σ i) ∧ (∀ k : Nat, (k < 0 ∨ 0 < k) ∧ (k < 1 ∨ 1 < k) → σ' 12 k = σ 12 k) ∧ (jI12 σ') ∧ True) := by
  refine jMv.of hJ (by decide +kernel) rfl (Nat.le_of_ble_eq_true rfl) ?_
  intro p e s m args below meth c Q ls hC hret hl hP
  obtain ⟨hx, hb, hr, hml, hown, hts, hK, -, hlocks, hZ⟩ := hC
  have hown : s.vm.findClass RX10 = some m.cls := hown
  have hS : va_S (jA ad) s.heap s.heap [] := va_S.rf
  have hA : ∀ q, jA ad q → jA ad q := fun _ h => h
  have hl : lv_has ls 1 [(0, .ref (ad 12))] := hl
  refine lv_aload_n hx hb dX10_begin_0 rfl (lv_at hl 0 rfl) ?_
  refine lv_iconst (v := 0) hx hb dX10_begin_1 (of_decide_eq_true rfl) ?_
  refine jput (ty := .int) hx hb hts inlX10 tyX10 tyX10_ok nmX10 hown hK hP hJ hA hS (jc_12 cI cL ad σ τ) rfl (k := 0) (of_decide_eq_true rfl) (Nat.le_of_ble_eq_true rfl) (jp_12_0 cI cL ad σ τ 0) (hts _ kw_16_20) (fun _ h9 => h9) rfl (by decide +kernel) rfl rfl dX10_begin_2 (fun σ1 H locs eσ1 hP hS => ?_)
  refine lv_aload_n hx hb dX10_begin_5 rfl (lv_at hl 0 rfl) ?_
  refine lv_iconst (v := 0) hx hb dX10_begin_6 (of_decide_eq_true rfl) ?_
  refine jput (ty := .int) hx hb hts inlX10 tyX10 tyX10_ok nmX10 hown hK hP hJ hA hS (jc_12 cI cL ad σ1 τ) rfl (k := 1) (of_decide_eq_true rfl) (Nat.le_of_ble_eq_true rfl) (jp_12_1 cI cL ad σ1 τ 0) (hts _ kw_16_21) (fun _ h9 => h9) rfl (by decide +kernel) rfl rfl dX10_begin_7 (fun σ2 H locs eσ2 hP hS => ?_)
  have z3 : (σ2 12 0).toInt = 0 := ((congrArg Int32.toInt (show σ2 12 0 = 0 from ((jkp 0 eσ2 (of_decide_eq_true rfl)).trans (jsp eσ1)))).trans jz_0)
  have w4 : ∀ k : Nat, k < 160 → 0 ≤ (σ2 13 k).toInt ∧ (σ2 13 k).toInt ≤ 30000 := (jrr_fr (jnp 13 eσ2 (of_decide_eq_true rfl)) (jrr_fr (jnp 13 eσ1 (of_decide_eq_true rfl)) hw13))
  exact by
   have I5 : jI12 σ2 := ⟨(by omega), w4⟩
   exact hret σ2 τ _ _ _ _ ⟨rfl, (fun i hi => ((jnp i eσ2 (imp_22 i hi)).trans (jnp i eσ1 (imp_22 i hi)))), (fun i hi => ((jkp i eσ2 (imp_23 i hi)).trans (jkp i eσ1 (imp_24 i hi)))), I5, trivial⟩ hP hS dX10_begin_10
set_option maxHeartbeats 4000000 in
set_option maxRecDepth 100000 in
theorem c_X10_add_12 (l : Launch) (D : va_G) (cI cL : ClassId) (ad zz : Nat → Nat) (hJ : jD ad) (σ : Nat → Nat → Int32) (τ : Nat → Nat → Int64) (a1 : Int32) (A1 : Int) (t1 : a1.toInt = A1) (hI12 : jI12 σ) (hp0 : 0 ≤ A1 ∧ A1 ≤ 30000) : jMv l yX10_add cX10_add 2 none ({ frames := 0, cells := 0, slots := 0, locals := 0 }) D cI cL ad zz [.ref (ad 12), .int a1] σ τ (fun σ' τ' => τ = τ' ∧ (∀ i : Nat, (i < 12 ∨ 13 < i) → σ' i = σ i) ∧ (∀ k : Nat, (k < 0 ∨ 0 < k) ∧ (k < 1 ∨ 1 < k) → σ' 12 k = σ 12 k) ∧ (jI12 σ') ∧ True) := by
  refine jMv.of hJ (by decide +kernel) rfl (Nat.le_of_ble_eq_true rfl) ?_
  intro p e s m args below meth c Q ls hC hret hl hP
  obtain ⟨hx, hb, hr, hml, hown, hts, hK, -, hlocks, hZ⟩ := hC
  have hown : s.vm.findClass RX10 = some m.cls := hown
  have hS : va_S (jA ad) s.heap s.heap [] := va_S.rf
  have hA : ∀ q, jA ad q → jA ad q := fun _ h => h
  have hl : lv_has ls 2 [(0, .ref (ad 12)), (1, .int a1)] := hl
  have g1 := jrg t1
  obtain ⟨i1, w2⟩ : (0 ≤ (σ 12 0).toInt ∧ (σ 12 0).toInt ≤ 160) ∧ (∀ k : Nat, k < 160 → 0 ≤ (σ 13 k).toInt ∧ (σ 13 k).toInt ≤ 30000) := id hI12
  refine lv_aload_n hx hb dX10_add_0 rfl (lv_at hl 0 rfl) ?_
  refine va_get (D := D) hx hb hts inlX10 hown hK hP 12 (jc_12 cI cL ad σ τ) rfl 0 (of_decide_eq_true rfl) (hts _ kw_16_20) (fun _ h9 => h9) rfl dX10_add_1 ?_
  refine lv_sipush (v := 160) hx hb dX10_add_4 (of_decide_eq_true rfl) ?_
  refine lv_icmp_lt (tgt := 11) hx hb dX10_add_7 (of_decide_eq_true rfl) (fun c3 => ?_) (fun c3 => ?_)
  · have kc3 := jlt c3 rfl jz_160
    refine lv_aload_n hx hb dX10_add_11 rfl (lv_at hl 0 rfl) ?_
    refine va_get (D := D) hx hb hts inlX10 hown hK hP 12 (jc_12 cI cL ad σ τ) rfl 2 (of_decide_eq_true rfl) (hts _ kw_4_3) (fun _ h9 => h9) rfl dX10_add_12 ?_
    refine lv_aload_n hx hb dX10_add_15 rfl (lv_at hl 0 rfl) ?_
    refine lv_dup hx hb dX10_add_16 rfl ?_
    refine va_get (D := D) hx hb hts inlX10 hown hK hP 12 (jc_12 cI cL ad σ τ) rfl 0 (of_decide_eq_true rfl) (hts _ kw_16_20) (fun _ h9 => h9) rfl dX10_add_17 ?_
    refine lv_dup_x1 hx hb dX10_add_20 rfl rfl ?_
    refine lv_iconst (v := 1) hx hb dX10_add_21 (of_decide_eq_true rfl) ?_
    have g4 := jrg (rfl : (σ 12 0).toInt = (σ 12 0).toInt)
    refine lv_iadd hx hb dX10_add_22 ?_
    refine lv_topi (fun x5 ex5 => ?_)
    exact by
     have tx5 : x5.toInt = (σ 12 0).toInt + 1 := (jadd ex5 rfl jz_1 (by omega) (by omega)).trans (by omega)
     refine jput (ty := .int) hx hb hts inlX10 tyX10 tyX10_ok nmX10 hown hK hP hJ hA hS (jc_12 cI cL ad σ τ) rfl (k := 0) (of_decide_eq_true rfl) (Nat.le_of_ble_eq_true rfl) (jp_12_0 cI cL ad σ τ x5) (hts _ kw_16_20) (fun _ h9 => h9) rfl (by decide +kernel) rfl rfl dX10_add_23 (fun σ6 H locs eσ6 hP hS => ?_)
     refine lv_iload_n hx hb dX10_add_26 rfl (lv_at hl 1 rfl) ?_
     refine jast hx hb hK hP hJ hA hS (jc_13 cI cL ad σ6 τ) (ja_13 cI cL ad σ6 τ _ _) (jin rfl (by omega) (by omega)) dX10_add_27 (fun σ7 H locs eσ7 hP hS => ?_)
     refine lv_iload_n hx hb dX10_add_28 rfl (lv_at hl 1 rfl) ?_
     refine lv_sipush (v := 10000) hx hb dX10_add_29 (of_decide_eq_true rfl) ?_
     refine lv_icmp_lt (tgt := 58) hx hb dX10_add_32 (of_decide_eq_true rfl) (fun c8 => ?_) (fun c8 => ?_)
     · have kc8 := jlt c8 t1 jz_10000
       have z9 : (σ7 12 0).toInt = (σ 12 0).toInt + 1 := ((congrArg Int32.toInt (show σ7 12 0 = x5 from ((congrFun (jnp 12 eσ7 (of_decide_eq_true rfl)) 0).trans (jsp eσ6)))).trans tx5)
       exact by
        have w10 : ∀ k : Nat, k < 160 → 0 ≤ (σ7 13 k).toInt ∧ (σ7 13 k).toInt ≤ 30000 := (by rw [eσ7]; exact jrr_up (jrr_fr (jnp 13 eσ6 (of_decide_eq_true rfl)) w2) (by have h9 := t1; omega) (by have h9 := t1; omega))
        have I11 : jI12 σ7 := ⟨(by omega), w10⟩
        exact hret σ7 τ _ _ _ _ ⟨rfl, (fun i hi => ((jnp i eσ7 (imp_25 i hi)).trans (jnp i eσ6 (imp_26 i hi)))), (fun i hi => ((congrFun (jnp 12 eσ7 (of_decide_eq_true rfl)) i).trans (jkp i eσ6 (imp_24 i hi)))), I11, trivial⟩ hP hS dX10_add_58
     · have kc8 := jnlt c8 t1 jz_10000
       refine lv_iload_n hx hb dX10_add_35 rfl (lv_at hl 1 rfl) ?_
       refine lv_sipush (v := 10008) hx hb dX10_add_36 (of_decide_eq_true rfl) ?_
       refine lv_icmp_ge (tgt := 58) hx hb dX10_add_39 (of_decide_eq_true rfl) (fun c12 => ?_) (fun c12 => ?_)
       · have kc12 := jle c12 jz_10008 t1
         have z13 : (σ7 12 0).toInt = (σ 12 0).toInt + 1 := ((congrArg Int32.toInt (show σ7 12 0 = x5 from ((congrFun (jnp 12 eσ7 (of_decide_eq_true rfl)) 0).trans (jsp eσ6)))).trans tx5)
         exact by
          have w14 : ∀ k : Nat, k < 160 → 0 ≤ (σ7 13 k).toInt ∧ (σ7 13 k).toInt ≤ 30000 := (by rw [eσ7]; exact jrr_up (jrr_fr (jnp 13 eσ6 (of_decide_eq_true rfl)) w2) (by have h9 := t1; omega) (by have h9 := t1; omega))
          have I15 : jI12 σ7 := ⟨(by omega), w14⟩
          exact hret σ7 τ _ _ _ _ ⟨rfl, (fun i hi => ((jnp i eσ7 (imp_25 i hi)).trans (jnp i eσ6 (imp_26 i hi)))), (fun i hi => ((congrFun (jnp 12 eσ7 (of_decide_eq_true rfl)) i).trans (jkp i eσ6 (imp_24 i hi)))), I15, trivial⟩ hP hS dX10_add_58
       · have kc12 := jnle c12 jz_10008 t1
         refine lv_aload_n hx hb dX10_add_42 rfl (lv_at hl 0 rfl) ?_
         refine lv_dup hx hb dX10_add_43 rfl ?_
         refine va_get (D := D) hx hb hts inlX10 hown hK hP 12 (jc_12 cI cL ad σ7 τ) rfl 1 (of_decide_eq_true rfl) (hts _ kw_16_21) (fun _ h9 => h9) rfl dX10_add_44 ?_
         have m16 : σ7 12 1 = (σ 12 1) := ((congrFun (jnp 12 eσ7 (of_decide_eq_true rfl)) 1).trans (jkp 1 eσ6 (of_decide_eq_true rfl)))
         refine jtopr m16 ?_
         exact by
          refine lv_iconst (v := 1) hx hb dX10_add_47 (of_decide_eq_true rfl) ?_
          refine lv_iload_n hx hb dX10_add_48 rfl (lv_at hl 1 rfl) ?_
          refine lv_sipush (v := 10000) hx hb dX10_add_49 (of_decide_eq_true rfl) ?_
          refine lv_isub hx hb dX10_add_52 ?_
          refine lv_topi (fun x17 ex17 => ?_)
          have tx17 : x17.toInt = A1 - 10000 := (jsub ex17 t1 jz_10000 (by omega) (by omega)).trans (by omega)
          refine lv_ishl hx hb dX10_add_53 ?_
          refine lv_topi (fun x18 ex18 => ?_)
          have gx18 := jrg (rfl : x18.toInt = x18.toInt)
          exact by
           refine lv_ior hx hb dX10_add_54 ?_
           refine lv_topi (fun x19 ex19 => ?_)
           have gx19 := jrg (rfl : x19.toInt = x19.toInt)
           refine jput (ty := .int) hx hb hts inlX10 tyX10 tyX10_ok nmX10 hown hK hP hJ hA hS (jc_12 cI cL ad σ7 τ) rfl (k := 1) (of_decide_eq_true rfl) (Nat.le_of_ble_eq_true rfl) (jp_12_1 cI cL ad σ7 τ x19) (hts _ kw_16_21) (fun _ h9 => h9) rfl (by decide +kernel) rfl rfl dX10_add_55 (fun σ20 H locs eσ20 hP hS => ?_)
           have z21 : (σ20 12 0).toInt = (σ 12 0).toInt + 1 := ((congrArg Int32.toInt (show σ20 12 0 = x5 from ((jkp 0 eσ20 (of_decide_eq_true rfl)).trans ((congrFun (jnp 12 eσ7 (of_decide_eq_true rfl)) 0).trans (jsp eσ6))))).trans tx5)
           have w22 : ∀ k : Nat, k < 160 → 0 ≤ (σ20 13 k).toInt ∧ (σ20 13 k).toInt ≤ 30000 := (jrr_fr (jnp 13 eσ20 (of_decide_eq_true rfl)) (by rw [eσ7]; exact jrr_up (jrr_fr (jnp 13 eσ6 (of_decide_eq_true rfl)) w2) (by have h9 := t1; omega) (by have h9 := t1; omega)))
           have I23 : jI12 σ20 := ⟨(by omega), w22⟩
           exact hret σ20 τ _ _ _ _ ⟨rfl, (fun i hi => ((jnp i eσ20 (imp_26 i hi)).trans ((jnp i eσ7 (imp_25 i hi)).trans (jnp i eσ6 (imp_26 i hi))))), (fun i hi => ((jkp i eσ20 (imp_23 i hi)).trans ((congrFun (jnp 12 eσ7 (of_decide_eq_true rfl)) i).trans (jkp i eσ6 (imp_24 i hi))))), I23, trivial⟩ hP hS dX10_add_58
  · have kc3 := jnlt c3 rfl jz_160
    exact hret σ τ _ _ _ _ ⟨rfl, (fun _ _ => rfl), (fun _ _ => rfl), hI12, trivial⟩ hP hS dX10_add_10
set_option maxHeartbeats 4000000 in
set_option maxRecDepth 100000 in
theorem c_X10_copyFrom_18 (l : Launch) (D : va_G) (cI cL : ClassId) (ad zz : Nat → Nat) (hJ : jD ad) (σ : Nat → Nat → Int32) (τ : Nat → Nat → Int64) (hI12 : jI12 σ) (hI18 : jI18 σ) : jMv l yX10_copyFrom cX10_copyFrom 2 none ({ frames := 1, cells := 0, slots := 0, locals := 40 }) D cI cL ad zz [.ref (ad 18), .ref (ad 12)] σ τ (fun σ' τ' => τ = τ' ∧ (∀ i : Nat, (i < 18 ∨ 19 < i) → σ' i = σ i) ∧ (∀ k : Nat, (k < 0 ∨ 0 < k) ∧ (k < 1 ∨ 1 < k) → σ' 18 k = σ 18 k) ∧ (jI18 σ') ∧ True) := by
  refine jMv.of hJ (by decide +kernel) rfl (Nat.le_of_ble_eq_true rfl) ?_
  intro p e s m args below meth c Q ls hC hret hl hP
  obtain ⟨hx, hb, hr, hml, hown, hts, hK, -, hlocks, hZ⟩ := hC
  have hown : s.vm.findClass RX10 = some m.cls := hown
  have hS : va_S (jA ad) s.heap s.heap [] := va_S.rf
  have hA : ∀ q, jA ad q → jA ad q := fun _ h => h
  have hl : lv_has ls 2 [(0, .ref (ad 18)), (1, .ref (ad 12))] := hl
  obtain ⟨i1, w2⟩ : (0 ≤ (σ 12 0).toInt ∧ (σ 12 0).toInt ≤ 160) ∧ (∀ k : Nat, k < 160 → 0 ≤ (σ 13 k).toInt ∧ (σ 13 k).toInt ≤ 30000) := id hI12
  obtain ⟨i3, w4⟩ : (0 ≤ (σ 18 0).toInt ∧ (σ 18 0).toInt ≤ 160) ∧ (∀ k : Nat, k < 160 → 0 ≤ (σ 19 k).toInt ∧ (σ 19 k).toInt ≤ 30000) := id hI18
  refine lv_aload_n hx hb dX10_copyFrom_0 rfl (lv_at hl 0 rfl) ?_
  refine lv_aload_n hx hb dX10_copyFrom_1 rfl (lv_at hl 1 rfl) ?_
  refine va_get (D := D) hx hb hts inlX10 hown hK hP 12 (jc_12 cI cL ad σ τ) rfl 0 (of_decide_eq_true rfl) (hts _ kw_16_20) (fun _ h9 => h9) rfl dX10_copyFrom_2 ?_
  refine jput (ty := .int) hx hb hts inlX10 tyX10 tyX10_ok nmX10 hown hK hP hJ hA hS (jc_18 cI cL ad σ τ) rfl (k := 0) (of_decide_eq_true rfl) (Nat.le_of_ble_eq_true rfl) (jp_18_0 cI cL ad σ τ (σ 12 0)) (hts _ kw_16_20) (fun _ h9 => h9) rfl (by decide +kernel) rfl rfl dX10_copyFrom_5 (fun σ5 H locs eσ5 hP hS => ?_)
  refine lv_aload_n hx hb dX10_copyFrom_8 rfl (lv_at hl 0 rfl) ?_
  refine lv_aload_n hx hb dX10_copyFrom_9 rfl (lv_at hl 1 rfl) ?_
  refine va_get (D := D) hx hb hts inlX10 hown hK hP 12 (jc_12 cI cL ad σ5 τ) rfl 1 (of_decide_eq_true rfl) (hts _ kw_16_21) (fun _ h9 => h9) rfl dX10_copyFrom_10 ?_
  have m6 : σ5 12 1 = (σ 12 1) := (congrFun (jnp 12 eσ5 (of_decide_eq_true rfl)) 1)
  refine jtopr m6 ?_
  refine jput (ty := .int) hx hb hts inlX10 tyX10 tyX10_ok nmX10 hown hK hP hJ hA hS (jc_18 cI cL ad σ5 τ) rfl (k := 1) (of_decide_eq_true rfl) (Nat.le_of_ble_eq_true rfl) (jp_18_1 cI cL ad σ5 τ (σ 12 1)) (hts _ kw_16_21) (fun _ h9 => h9) rfl (by decide +kernel) rfl rfl dX10_copyFrom_13 (fun σ7 H locs eσ7 hP hS => ?_)
  refine lv_aload_n hx hb dX10_copyFrom_16 rfl (lv_at hl 1 rfl) ?_
  refine va_get (D := D) hx hb hts inlX10 hown hK hP 12 (jc_12 cI cL ad σ7 τ) rfl 2 (of_decide_eq_true rfl) (hts _ kw_4_3) (fun _ h9 => h9) rfl dX10_copyFrom_17 ?_
  refine lv_iconst (v := 0) hx hb dX10_copyFrom_20 (of_decide_eq_true rfl) ?_
  refine lv_aload_n hx hb dX10_copyFrom_21 rfl (lv_at hl 0 rfl) ?_
  refine va_get (D := D) hx hb hts inlX10 hown hK hP 18 (jc_18 cI cL ad σ7 τ) rfl 2 (of_decide_eq_true rfl) (hts _ kw_4_3) (fun _ h9 => h9) rfl dX10_copyFrom_22 ?_
  refine lv_iconst (v := 0) hx hb dX10_copyFrom_25 (of_decide_eq_true rfl) ?_
  refine lv_aload_n hx hb dX10_copyFrom_26 rfl (lv_at hl 0 rfl) ?_
  refine va_get (D := D) hx hb hts inlX10 hown hK hP 18 (jc_18 cI cL ad σ7 τ) rfl 0 (of_decide_eq_true rfl) (hts _ kw_16_20) (fun _ h9 => h9) rfl dX10_copyFrom_27 ?_
  have m8 : σ7 18 0 = (σ 12 0) := ((jkp 0 eσ7 (of_decide_eq_true rfl)).trans (jsp eσ5))
  refine jtopr m8 ?_
  exact by
   refine jcpyI (q0 := 13) (q1 := 19) hx hb (hml.trans hl.1.symm) hown (hts _ kw_18_2) (hts _ kw_13_23) (hts _ kw_14_0) (hts _ kw_14_1) hK hP hJ hA hS (jc_13 cI cL ad σ7 τ) (jc_19 cI cL ad σ7 τ) (fun _ => rfl) jz_0 jz_0 rfl (by omega) (by omega) (by omega) (by omega) (by omega) (Nat.le_of_ble_eq_true rfl) (Nat.le_of_ble_eq_true rfl) dX10_copyFrom_30 (fun σ9 H locs eσ9 hP hS => ?_)
   have w10 : ∀ k : Nat, k < 160 → 0 ≤ (σ7 13 k).toInt ∧ (σ7 13 k).toInt ≤ 30000 := (jrr_fr (jnp 13 eσ7 (of_decide_eq_true rfl)) (jrr_fr (jnp 13 eσ5 (of_decide_eq_true rfl)) w2))
   have w11 : ∀ k : Nat, k < 160 → 0 ≤ (σ7 19 k).toInt ∧ (σ7 19 k).toInt ≤ 30000 := (jrr_fr (jnp 19 eσ7 (of_decide_eq_true rfl)) (jrr_fr (jnp 19 eσ5 (of_decide_eq_true rfl)) w4))
   have f12 : (∀ i : Nat, (i < 19 ∨ 19 < i) → σ9 i = σ7 i) := by rw [eσ9]; exact jrow_n
   have w13 : ∀ k : Nat, k < 160 → 0 ≤ (σ9 19 k).toInt ∧ (σ9 19 k).toInt ≤ 30000 := by rw [eσ9]; exact jrow_rr w10 w11 jz_0 rfl (n0 := 160) (by omega) (by omega) (by omega)
   have z14 : (σ9 18 0).toInt = (σ 12 0).toInt := (congrArg Int32.toInt (show σ9 18 0 = (σ 12 0) from ((congrFun (f12 18 (of_decide_eq_true rfl)) 0).trans m8)))
   have I15 : jI18 σ9 := ⟨(by omega), w13⟩
   exact hret σ9 τ _ _ _ _ ⟨rfl, (fun i hi => ((f12 i (imp_27 i hi)).trans ((jnp i eσ7 (imp_28 i hi)).trans (jnp i eσ5 (imp_28 i hi))))), (fun i hi => ((congrFun (f12 18 (of_decide_eq_true rfl)) i).trans ((jkp i eσ7 (imp_23 i hi)).trans (jkp i eσ5 (imp_24 i hi))))), I15, trivial⟩ hP hS dX10_copyFrom_33
set_option maxHeartbeats 4000000 in
set_option maxRecDepth 100000 in
theorem c_X10_say_18 (l : Launch) (D : va_G) (cI cL : ClassId) (ad zz : Nat → Nat) (hJ : jD ad) (σ : Nat → Nat → Int32) (τ : Nat → Nat → Int64) (a1 : Int32) (A1 : Int) (t1 : a1.toInt = A1) (a2 : Int32) (A2 : Int) (t2 : a2.toInt = A2) (a3 : Int32) (A3 : Int) (t3 : a3.toInt = A3) (a4 : Int32) (A4 : Int) (t4 : a4.toInt = A4) (a5 : Int32) (A5 : Int) (t5 : a5.toInt = A5) (a6 : Int32) (A6 : Int) (t6 : a6.toInt = A6) : jMv l yX10_say cX10_say 7 none ({ frames := 0, cells := 0, slots := 0, locals := 0 }) D cI cL ad zz [.ref (ad 18), .int a1, .int a2, .int a3, .int a4, .int a5, .int a6] σ τ (fun σ' τ' => τ = τ' ∧ (∀ i : Nat, (i < 20 ∨ 20 < i) → σ' i = σ i) ∧ True) := by
  refine jMv.of hJ (by decide +kernel) rfl (Nat.le_of_ble_eq_true rfl) ?_
  intro p e s m args below meth c Q ls hC hret hl hP
  obtain ⟨hx, hb, hr, hml, hown, hts, hK, -, hlocks, hZ⟩ := hC
  have hown : s.vm.findClass RX10 = some m.cls := hown
  have hS : va_S (jA ad) s.heap s.heap [] := va_S.rf
  have hA : ∀ q, jA ad q → jA ad q := fun _ h => h
  have hl : lv_has ls 7 [(0, .ref (ad 18)), (1, .int a1), (2, .int a2), (3, .int a3), (4, .int a4), (5, .int a5), (6, .int a6)] := hl
  have g1 := jrg t1
  have g2 := jrg t2
  have g3 := jrg t3
  have g4 := jrg t4
  have g5 := jrg t5
  have g6 := jrg t6
  refine lv_aload_n hx hb dX10_say_0 rfl (lv_at hl 0 rfl) ?_
  refine va_get (D := D) hx hb hts inlX10 hown hK hP 18 (jc_18 cI cL ad σ τ) rfl 3 (of_decide_eq_true rfl) (hts _ kw_4_4) (fun _ h9 => h9) rfl dX10_say_1 ?_
  refine lv_iconst (v := 0) hx hb dX10_say_4 (of_decide_eq_true rfl) ?_
  refine lv_iload_n hx hb dX10_say_5 rfl (lv_at hl 1 rfl) ?_
  exact by
   refine jast hx hb hK hP hJ hA hS (jc_20 cI cL ad σ τ) (ja_20 cI cL ad σ τ _ _) (jin jz_0 (by omega) (by omega)) dX10_say_6 (fun σ1 H locs eσ1 hP hS => ?_)
   have eσ1 : σ1 = jup σ 20 0 a1 := eσ1
   refine lv_aload_n hx hb dX10_say_7 rfl (lv_at hl 0 rfl) ?_
   refine va_get (D := D) hx hb hts inlX10 hown hK hP 18 (jc_18 cI cL ad σ1 τ) rfl 3 (of_decide_eq_true rfl) (hts _ kw_4_4) (fun _ h9 => h9) rfl dX10_say_8 ?_
   refine lv_iconst (v := 1) hx hb dX10_say_11 (of_decide_eq_true rfl) ?_
   refine lv_iload_n hx hb dX10_say_12 rfl (lv_at hl 2 rfl) ?_
   refine jast hx hb hK hP hJ hA hS (jc_20 cI cL ad σ1 τ) (ja_20 cI cL ad σ1 τ _ _) (jin jz_1 (by omega) (by omega)) dX10_say_13 (fun σ2 H locs eσ2 hP hS => ?_)
   have eσ2 : σ2 = jup σ1 20 1 a2 := eσ2
   refine lv_aload_n hx hb dX10_say_14 rfl (lv_at hl 0 rfl) ?_
   exact by
    refine va_get (D := D) hx hb hts inlX10 hown hK hP 18 (jc_18 cI cL ad σ2 τ) rfl 3 (of_decide_eq_true rfl) (hts _ kw_4_4) (fun _ h9 => h9) rfl dX10_say_15 ?_
    refine lv_iconst (v := 2) hx hb dX10_say_18 (of_decide_eq_true rfl) ?_
    refine lv_iload_n hx hb dX10_say_19 rfl (lv_at hl 3 rfl) ?_
    refine jast hx hb hK hP hJ hA hS (jc_20 cI cL ad σ2 τ) (ja_20 cI cL ad σ2 τ _ _) (jin jz_2 (by omega) (by omega)) dX10_say_20 (fun σ3 H locs eσ3 hP hS => ?_)
    have eσ3 : σ3 = jup σ2 20 2 a3 := eσ3
    refine lv_aload_n hx hb dX10_say_21 rfl (lv_at hl 0 rfl) ?_
    refine va_get (D := D) hx hb hts inlX10 hown hK hP 18 (jc_18 cI cL ad σ3 τ) rfl 3 (of_decide_eq_true rfl) (hts _ kw_4_4) (fun _ h9 => h9) rfl dX10_say_22 ?_
    refine lv_iconst (v := 3) hx hb dX10_say_25 (of_decide_eq_true rfl) ?_
    refine lv_iload hx hb dX10_say_26 (lv_at hl 4 rfl) ?_
    exact by
     refine jast hx hb hK hP hJ hA hS (jc_20 cI cL ad σ3 τ) (ja_20 cI cL ad σ3 τ _ _) (jin jz_3 (by omega) (by omega)) dX10_say_28 (fun σ4 H locs eσ4 hP hS => ?_)
     have eσ4 : σ4 = jup σ3 20 3 a4 := eσ4
     refine lv_aload_n hx hb dX10_say_29 rfl (lv_at hl 0 rfl) ?_
     refine va_get (D := D) hx hb hts inlX10 hown hK hP 18 (jc_18 cI cL ad σ4 τ) rfl 3 (of_decide_eq_true rfl) (hts _ kw_4_4) (fun _ h9 => h9) rfl dX10_say_30 ?_
     refine lv_iconst (v := 4) hx hb dX10_say_33 (of_decide_eq_true rfl) ?_
     refine lv_iload hx hb dX10_say_34 (lv_at hl 5 rfl) ?_
     refine jast hx hb hK hP hJ hA hS (jc_20 cI cL ad σ4 τ) (ja_20 cI cL ad σ4 τ _ _) (jin jz_4 (by omega) (by omega)) dX10_say_36 (fun σ5 H locs eσ5 hP hS => ?_)
     have eσ5 : σ5 = jup σ4 20 4 a5 := eσ5
     refine lv_aload_n hx hb dX10_say_37 rfl (lv_at hl 0 rfl) ?_
     exact by
      refine va_get (D := D) hx hb hts inlX10 hown hK hP 18 (jc_18 cI cL ad σ5 τ) rfl 3 (of_decide_eq_true rfl) (hts _ kw_4_4) (fun _ h9 => h9) rfl dX10_say_38 ?_
      refine lv_iconst (v := 5) hx hb dX10_say_41 (of_decide_eq_true rfl) ?_
      refine lv_iload hx hb dX10_say_42 (lv_at hl 6 rfl) ?_
      refine jast hx hb hK hP hJ hA hS (jc_20 cI cL ad σ5 τ) (ja_20 cI cL ad σ5 τ _ _) (jin jz_5 (by omega) (by omega)) dX10_say_44 (fun σ6 H locs eσ6 hP hS => ?_)
      have eσ6 : σ6 = jup σ5 20 5 a6 := eσ6
      exact hret σ6 τ _ _ _ _ ⟨rfl, (fun i hi => ((jnp i eσ6 (imp_29 i hi)).trans ((jnp i eσ5 (imp_29 i hi)).trans ((jnp i eσ4 (imp_29 i hi)).trans ((jnp i eσ3 (imp_29 i hi)).trans ((jnp i eσ2 (imp_29 i hi)).trans (jnp i eσ1 (imp_29 i hi)))))))), trivial⟩ hP hS dX10_say_45
set_option maxHeartbeats 4000000 in
set_option maxRecDepth 100000 in
theorem c_X10_sayChance_18 (l : Launch) (D : va_G) (cI cL : ClassId) (ad zz : Nat → Nat) (hJ : jD ad) (σ : Nat → Nat → Int32) (τ : Nat → Nat → Int64) (a1 : Int32) (A1 : Int) (t1 : a1.toInt = A1) (a2 : Int32) (A2 : Int) (t2 : a2.toInt = A2) : jMv l yX10_sayChance cX10_sayChance 3 none ({ frames := 0, cells := 0, slots := 0, locals := 0 }) D cI cL ad zz [.ref (ad 18), .int a1, .int a2] σ τ (fun σ' τ' => τ = τ' ∧ (∀ i : Nat, (i < 20 ∨ 20 < i) → σ' i = σ i) ∧ True) := by
  refine jMv.of hJ (by decide +kernel) rfl (Nat.le_of_ble_eq_true rfl) ?_
  intro p e s m args below meth c Q ls hC hret hl hP
  obtain ⟨hx, hb, hr, hml, hown, hts, hK, -, hlocks, hZ⟩ := hC
  have hown : s.vm.findClass RX10 = some m.cls := hown
  have hS : va_S (jA ad) s.heap s.heap [] := va_S.rf
  have hA : ∀ q, jA ad q → jA ad q := fun _ h => h
  have hl : lv_has ls 3 [(0, .ref (ad 18)), (1, .int a1), (2, .int a2)] := hl
  have g1 := jrg t1
  have g2 := jrg t2
  refine lv_aload_n hx hb dX10_sayChance_0 rfl (lv_at hl 0 rfl) ?_
  refine va_get (D := D) hx hb hts inlX10 hown hK hP 18 (jc_18 cI cL ad σ τ) rfl 3 (of_decide_eq_true rfl) (hts _ kw_4_4) (fun _ h9 => h9) rfl dX10_sayChance_1 ?_
  refine lv_bipush (v := 6) hx hb dX10_sayChance_4 (of_decide_eq_true rfl) ?_
  refine lv_iload_n hx hb dX10_sayChance_6 rfl (lv_at hl 1 rfl) ?_
  exact by
   refine jast hx hb hK hP hJ hA hS (jc_20 cI cL ad σ τ) (ja_20 cI cL ad σ τ _ _) (jin jz_6 (by omega) (by omega)) dX10_sayChance_7 (fun σ1 H locs eσ1 hP hS => ?_)
   have eσ1 : σ1 = jup σ 20 6 a1 := eσ1
   refine lv_aload_n hx hb dX10_sayChance_8 rfl (lv_at hl 0 rfl) ?_
   refine va_get (D := D) hx hb hts inlX10 hown hK hP 18 (jc_18 cI cL ad σ1 τ) rfl 3 (of_decide_eq_true rfl) (hts _ kw_4_4) (fun _ h9 => h9) rfl dX10_sayChance_9 ?_
   refine lv_bipush (v := 7) hx hb dX10_sayChance_12 (of_decide_eq_true rfl) ?_
   refine lv_iload_n hx hb dX10_sayChance_14 rfl (lv_at hl 2 rfl) ?_
   refine jast hx hb hK hP hJ hA hS (jc_20 cI cL ad σ1 τ) (ja_20 cI cL ad σ1 τ _ _) (jin jz_7 (by omega) (by omega)) dX10_sayChance_15 (fun σ2 H locs eσ2 hP hS => ?_)
   have eσ2 : σ2 = jup σ1 20 7 a2 := eσ2
   exact hret σ2 τ _ _ _ _ ⟨rfl, (fun i hi => ((jnp i eσ2 (imp_29 i hi)).trans (jnp i eσ1 (imp_29 i hi)))), trivial⟩ hP hS dX10_sayChance_16
set_option maxHeartbeats 4000000 in
set_option maxRecDepth 100000 in
theorem c_X10_copyFrom_22 (l : Launch) (D : va_G) (cI cL : ClassId) (ad zz : Nat → Nat) (hJ : jD ad) (σ : Nat → Nat → Int32) (τ : Nat → Nat → Int64) (hI12 : jI12 σ) (hI22 : jI22 σ) : jMv l yX10_copyFrom cX10_copyFrom 2 none ({ frames := 1, cells := 0, slots := 0, locals := 40 }) D cI cL ad zz [.ref (ad 22), .ref (ad 12)] σ τ (fun σ' τ' => τ = τ' ∧ (∀ i : Nat, (i < 22 ∨ 23 < i) → σ' i = σ i) ∧ (∀ k : Nat, (k < 0 ∨ 0 < k) ∧ (k < 1 ∨ 1 < k) → σ' 22 k = σ 22 k) ∧ (jI22 σ') ∧ True) := by
  refine jMv.of hJ (by decide +kernel) rfl (Nat.le_of_ble_eq_true rfl) ?_
  intro p e s m args below meth c Q ls hC hret hl hP
  obtain ⟨hx, hb, hr, hml, hown, hts, hK, -, hlocks, hZ⟩ := hC
  have hown : s.vm.findClass RX10 = some m.cls := hown
  have hS : va_S (jA ad) s.heap s.heap [] := va_S.rf
  have hA : ∀ q, jA ad q → jA ad q := fun _ h => h
  have hl : lv_has ls 2 [(0, .ref (ad 22)), (1, .ref (ad 12))] := hl
  obtain ⟨i1, w2⟩ : (0 ≤ (σ 12 0).toInt ∧ (σ 12 0).toInt ≤ 160) ∧ (∀ k : Nat, k < 160 → 0 ≤ (σ 13 k).toInt ∧ (σ 13 k).toInt ≤ 30000) := id hI12
  obtain ⟨i3, w4⟩ : (0 ≤ (σ 22 0).toInt ∧ (σ 22 0).toInt ≤ 160) ∧ (∀ k : Nat, k < 160 → 0 ≤ (σ 23 k).toInt ∧ (σ 23 k).toInt ≤ 30000) := id hI22
  refine lv_aload_n hx hb dX10_copyFrom_0 rfl (lv_at hl 0 rfl) ?_
  refine lv_aload_n hx hb dX10_copyFrom_1 rfl (lv_at hl 1 rfl) ?_
  refine va_get (D := D) hx hb hts inlX10 hown hK hP 12 (jc_12 cI cL ad σ τ) rfl 0 (of_decide_eq_true rfl) (hts _ kw_16_20) (fun _ h9 => h9) rfl dX10_copyFrom_2 ?_
  refine jput (ty := .int) hx hb hts inlX10 tyX10 tyX10_ok nmX10 hown hK hP hJ hA hS (jc_22 cI cL ad σ τ) rfl (k := 0) (of_decide_eq_true rfl) (Nat.le_of_ble_eq_true rfl) (jp_22_0 cI cL ad σ τ (σ 12 0)) (hts _ kw_16_20) (fun _ h9 => h9) rfl (by decide +kernel) rfl rfl dX10_copyFrom_5 (fun σ5 H locs eσ5 hP hS => ?_)
  refine lv_aload_n hx hb dX10_copyFrom_8 rfl (lv_at hl 0 rfl) ?_
  refine lv_aload_n hx hb dX10_copyFrom_9 rfl (lv_at hl 1 rfl) ?_
  refine va_get (D := D) hx hb hts inlX10 hown hK hP 12 (jc_12 cI cL ad σ5 τ) rfl 1 (of_decide_eq_true rfl) (hts _ kw_16_21) (fun _ h9 => h9) rfl dX10_copyFrom_10 ?_
  have m6 : σ5 12 1 = (σ 12 1) := (congrFun (jnp 12 eσ5 (of_decide_eq_true rfl)) 1)
  refine jtopr m6 ?_
  refine jput (ty := .int) hx hb hts inlX10 tyX10 tyX10_ok nmX10 hown hK hP hJ hA hS (jc_22 cI cL ad σ5 τ) rfl (k := 1) (of_decide_eq_true rfl) (Nat.le_of_ble_eq_true rfl) (jp_22_1 cI cL ad σ5 τ (σ 12 1)) (hts _ kw_16_21) (fun _ h9 => h9) rfl (by decide +kernel) rfl rfl dX10_copyFrom_13 (fun σ7 H locs eσ7 hP hS => ?_)
  refine lv_aload_n hx hb dX10_copyFrom_16 rfl (lv_at hl 1 rfl) ?_
  refine va_get (D := D) hx hb hts inlX10 hown hK hP 12 (jc_12 cI cL ad σ7 τ) rfl 2 (of_decide_eq_true rfl) (hts _ kw_4_3) (fun _ h9 => h9) rfl dX10_copyFrom_17 ?_
  refine lv_iconst (v := 0) hx hb dX10_copyFrom_20 (of_decide_eq_true rfl) ?_
  refine lv_aload_n hx hb dX10_copyFrom_21 rfl (lv_at hl 0 rfl) ?_
  refine va_get (D := D) hx hb hts inlX10 hown hK hP 22 (jc_22 cI cL ad σ7 τ) rfl 2 (of_decide_eq_true rfl) (hts _ kw_4_3) (fun _ h9 => h9) rfl dX10_copyFrom_22 ?_
  refine lv_iconst (v := 0) hx hb dX10_copyFrom_25 (of_decide_eq_true rfl) ?_
  refine lv_aload_n hx hb dX10_copyFrom_26 rfl (lv_at hl 0 rfl) ?_
  refine va_get (D := D) hx hb hts inlX10 hown hK hP 22 (jc_22 cI cL ad σ7 τ) rfl 0 (of_decide_eq_true rfl) (hts _ kw_16_20) (fun _ h9 => h9) rfl dX10_copyFrom_27 ?_
  have m8 : σ7 22 0 = (σ 12 0) := ((jkp 0 eσ7 (of_decide_eq_true rfl)).trans (jsp eσ5))
  refine jtopr m8 ?_
  exact by
   refine jcpyI (q0 := 13) (q1 := 23) hx hb (hml.trans hl.1.symm) hown (hts _ kw_18_2) (hts _ kw_13_23) (hts _ kw_14_0) (hts _ kw_14_1) hK hP hJ hA hS (jc_13 cI cL ad σ7 τ) (jc_23 cI cL ad σ7 τ) (fun _ => rfl) jz_0 jz_0 rfl (by omega) (by omega) (by omega) (by omega) (by omega) (Nat.le_of_ble_eq_true rfl) (Nat.le_of_ble_eq_true rfl) dX10_copyFrom_30 (fun σ9 H locs eσ9 hP hS => ?_)
   have w10 : ∀ k : Nat, k < 160 → 0 ≤ (σ7 13 k).toInt ∧ (σ7 13 k).toInt ≤ 30000 := (jrr_fr (jnp 13 eσ7 (of_decide_eq_true rfl)) (jrr_fr (jnp 13 eσ5 (of_decide_eq_true rfl)) w2))
   have w11 : ∀ k : Nat, k < 160 → 0 ≤ (σ7 23 k).toInt ∧ (σ7 23 k).toInt ≤ 30000 := (jrr_fr (jnp 23 eσ7 (of_decide_eq_true rfl)) (jrr_fr (jnp 23 eσ5 (of_decide_eq_true rfl)) w4))
   have f12 : (∀ i : Nat, (i < 23 ∨ 23 < i) → σ9 i = σ7 i) := by rw [eσ9]; exact jrow_n
   have w13 : ∀ k : Nat, k < 160 → 0 ≤ (σ9 23 k).toInt ∧ (σ9 23 k).toInt ≤ 30000 := by rw [eσ9]; exact jrow_rr w10 w11 jz_0 rfl (n0 := 160) (by omega) (by omega) (by omega)
   have z14 : (σ9 22 0).toInt = (σ 12 0).toInt := (congrArg Int32.toInt (show σ9 22 0 = (σ 12 0) from ((congrFun (f12 22 (of_decide_eq_true rfl)) 0).trans m8)))
   have I15 : jI22 σ9 := ⟨(by omega), w13⟩
   exact hret σ9 τ _ _ _ _ ⟨rfl, (fun i hi => ((f12 i (imp_30 i hi)).trans ((jnp i eσ7 (imp_31 i hi)).trans (jnp i eσ5 (imp_31 i hi))))), (fun i hi => ((congrFun (f12 22 (of_decide_eq_true rfl)) i).trans ((jkp i eσ7 (imp_23 i hi)).trans (jkp i eσ5 (imp_24 i hi))))), I15, trivial⟩ hP hS dX10_copyFrom_33
set_option maxHeartbeats 4000000 in
set_option maxRecDepth 100000 in
theorem c_X10_say_22 (l : Launch) (D : va_G) (cI cL : ClassId) (ad zz : Nat → Nat) (hJ : jD ad) (σ : Nat → Nat → Int32) (τ : Nat → Nat → Int64) (a1 : Int32) (A1 : Int) (t1 : a1.toInt = A1) (a2 : Int32) (A2 : Int) (t2 : a2.toInt = A2) (a3 : Int32) (A3 : Int) (t3 : a3.toInt = A3) (a4 : Int32) (A4 : Int) (t4 : a4.toInt = A4) (a5 : Int32) (A5 : Int) (t5 : a5.toInt = A5) (a6 : Int32) (A6 : Int) (t6 : a6.toInt = A6) : jMv l yX10_say cX10_say 7 none ({ frames := 0, cells := 0, slots := 0, locals := 0 }) D cI cL ad zz [.ref (ad 22), .int a1, .int a2, .int a3, .int a4, .int a5, .int a6] σ τ (fun σ' τ' => τ = τ' ∧ (∀ i : Nat, (i < 24 ∨ 24 < i) → σ' i = σ i) ∧ True) := by
  refine jMv.of hJ (by decide +kernel) rfl (Nat.le_of_ble_eq_true rfl) ?_
  intro p e s m args below meth c Q ls hC hret hl hP
  obtain ⟨hx, hb, hr, hml, hown, hts, hK, -, hlocks, hZ⟩ := hC
  have hown : s.vm.findClass RX10 = some m.cls := hown
  have hS : va_S (jA ad) s.heap s.heap [] := va_S.rf
  have hA : ∀ q, jA ad q → jA ad q := fun _ h => h
  have hl : lv_has ls 7 [(0, .ref (ad 22)), (1, .int a1), (2, .int a2), (3, .int a3), (4, .int a4), (5, .int a5), (6, .int a6)] := hl
  have g1 := jrg t1
  have g2 := jrg t2
  have g3 := jrg t3
  have g4 := jrg t4
  have g5 := jrg t5
  have g6 := jrg t6
  refine lv_aload_n hx hb dX10_say_0 rfl (lv_at hl 0 rfl) ?_
  refine va_get (D := D) hx hb hts inlX10 hown hK hP 22 (jc_22 cI cL ad σ τ) rfl 3 (of_decide_eq_true rfl) (hts _ kw_4_4) (fun _ h9 => h9) rfl dX10_say_1 ?_
  refine lv_iconst (v := 0) hx hb dX10_say_4 (of_decide_eq_true rfl) ?_
  refine lv_iload_n hx hb dX10_say_5 rfl (lv_at hl 1 rfl) ?_
  exact by
   refine jast hx hb hK hP hJ hA hS (jc_24 cI cL ad σ τ) (ja_24 cI cL ad σ τ _ _) (jin jz_0 (by omega) (by omega)) dX10_say_6 (fun σ1 H locs eσ1 hP hS => ?_)
   have eσ1 : σ1 = jup σ 24 0 a1 := eσ1
   refine lv_aload_n hx hb dX10_say_7 rfl (lv_at hl 0 rfl) ?_
   refine va_get (D := D) hx hb hts inlX10 hown hK hP 22 (jc_22 cI cL ad σ1 τ) rfl 3 (of_decide_eq_true rfl) (hts _ kw_4_4) (fun _ h9 => h9) rfl dX10_say_8 ?_
   refine lv_iconst (v := 1) hx hb dX10_say_11 (of_decide_eq_true rfl) ?_
   refine lv_iload_n hx hb dX10_say_12 rfl (lv_at hl 2 rfl) ?_
   refine jast hx hb hK hP hJ hA hS (jc_24 cI cL ad σ1 τ) (ja_24 cI cL ad σ1 τ _ _) (jin jz_1 (by omega) (by omega)) dX10_say_13 (fun σ2 H locs eσ2 hP hS => ?_)
   have eσ2 : σ2 = jup σ1 24 1 a2 := eσ2
   refine lv_aload_n hx hb dX10_say_14 rfl (lv_at hl 0 rfl) ?_
   exact by
    refine va_get (D := D) hx hb hts inlX10 hown hK hP 22 (jc_22 cI cL ad σ2 τ) rfl 3 (of_decide_eq_true rfl) (hts _ kw_4_4) (fun _ h9 => h9) rfl dX10_say_15 ?_
    refine lv_iconst (v := 2) hx hb dX10_say_18 (of_decide_eq_true rfl) ?_
    refine lv_iload_n hx hb dX10_say_19 rfl (lv_at hl 3 rfl) ?_
    refine jast hx hb hK hP hJ hA hS (jc_24 cI cL ad σ2 τ) (ja_24 cI cL ad σ2 τ _ _) (jin jz_2 (by omega) (by omega)) dX10_say_20 (fun σ3 H locs eσ3 hP hS => ?_)
    have eσ3 : σ3 = jup σ2 24 2 a3 := eσ3
    refine lv_aload_n hx hb dX10_say_21 rfl (lv_at hl 0 rfl) ?_
    refine va_get (D := D) hx hb hts inlX10 hown hK hP 22 (jc_22 cI cL ad σ3 τ) rfl 3 (of_decide_eq_true rfl) (hts _ kw_4_4) (fun _ h9 => h9) rfl dX10_say_22 ?_
    refine lv_iconst (v := 3) hx hb dX10_say_25 (of_decide_eq_true rfl) ?_
    refine lv_iload hx hb dX10_say_26 (lv_at hl 4 rfl) ?_
    exact by
     refine jast hx hb hK hP hJ hA hS (jc_24 cI cL ad σ3 τ) (ja_24 cI cL ad σ3 τ _ _) (jin jz_3 (by omega) (by omega)) dX10_say_28 (fun σ4 H locs eσ4 hP hS => ?_)
     have eσ4 : σ4 = jup σ3 24 3 a4 := eσ4
     refine lv_aload_n hx hb dX10_say_29 rfl (lv_at hl 0 rfl) ?_
     refine va_get (D := D) hx hb hts inlX10 hown hK hP 22 (jc_22 cI cL ad σ4 τ) rfl 3 (of_decide_eq_true rfl) (hts _ kw_4_4) (fun _ h9 => h9) rfl dX10_say_30 ?_
     refine lv_iconst (v := 4) hx hb dX10_say_33 (of_decide_eq_true rfl) ?_
     refine lv_iload hx hb dX10_say_34 (lv_at hl 5 rfl) ?_
     refine jast hx hb hK hP hJ hA hS (jc_24 cI cL ad σ4 τ) (ja_24 cI cL ad σ4 τ _ _) (jin jz_4 (by omega) (by omega)) dX10_say_36 (fun σ5 H locs eσ5 hP hS => ?_)
     have eσ5 : σ5 = jup σ4 24 4 a5 := eσ5
     refine lv_aload_n hx hb dX10_say_37 rfl (lv_at hl 0 rfl) ?_
     exact by
      refine va_get (D := D) hx hb hts inlX10 hown hK hP 22 (jc_22 cI cL ad σ5 τ) rfl 3 (of_decide_eq_true rfl) (hts _ kw_4_4) (fun _ h9 => h9) rfl dX10_say_38 ?_
      refine lv_iconst (v := 5) hx hb dX10_say_41 (of_decide_eq_true rfl) ?_
      refine lv_iload hx hb dX10_say_42 (lv_at hl 6 rfl) ?_
      refine jast hx hb hK hP hJ hA hS (jc_24 cI cL ad σ5 τ) (ja_24 cI cL ad σ5 τ _ _) (jin jz_5 (by omega) (by omega)) dX10_say_44 (fun σ6 H locs eσ6 hP hS => ?_)
      have eσ6 : σ6 = jup σ5 24 5 a6 := eσ6
      exact hret σ6 τ _ _ _ _ ⟨rfl, (fun i hi => ((jnp i eσ6 (imp_32 i hi)).trans ((jnp i eσ5 (imp_32 i hi)).trans ((jnp i eσ4 (imp_32 i hi)).trans ((jnp i eσ3 (imp_32 i hi)).trans ((jnp i eσ2 (imp_32 i hi)).trans (jnp i eσ1 (imp_32 i hi)))))))), trivial⟩ hP hS dX10_say_45
set_option maxHeartbeats 4000000 in
set_option maxRecDepth 100000 in
theorem c_X10_joined (l : Launch) (D : va_G) (cI cL : ClassId) (ad zz : Nat → Nat) (hJ : jD ad) (σ : Nat → Nat → Int32) (τ : Nat → Nat → Int64) (a1 : Int32) (A1 : Int) (t1 : a1.toInt = A1) (a2 : Int32) (A2 : Int) (t2 : a2.toInt = A2) (a3 : Int32) (A3 : Int) (t3 : a3.toInt = A3) : jM l yX10_joined cX10_joined 3 (some .int) ({ frames := 0, cells := 0, slots := 0, locals := 0 }) D cI cL ad zz [.int a1, .int a2, .int a3] σ τ (fun r σ' τ' => (σ = σ' ∧ τ = τ') ∧ True) := by
  refine jM.of hJ (by decide +kernel) (nt := .int) rfl (Nat.le_of_ble_eq_true rfl) ?_
  intro p e s m args below meth c Q ls hC hret hl hP
  obtain ⟨hx, hb, hr, hml, hown, hts, hK, -, hlocks, hZ⟩ := hC
  have hown : s.vm.findClass RX10 = some m.cls := hown
  have hS : va_S (jA ad) s.heap s.heap [] := va_S.rf
  have hA : ∀ q, jA ad q → jA ad q := fun _ h => h
  have hl : lv_has ls 3 [(0, .int a1), (1, .int a2), (2, .int a3)] := hl
  have g1 := jrg t1
  have g2 := jrg t2
  have g3 := jrg t3
  refine lv_iload_n hx hb dX10_joined_0 rfl (lv_at hl 0 rfl) ?_
  by_cases c1 : a1 = 37
  · have kc1 := jeq c1 t1 jz_37
    refine jtopr c1 ?_
    refine lv_lookup (off := 176) (tgt := 177) hx hb dX10_joined_1 (of_decide_eq_true rfl) (of_decide_eq_true rfl) (of_decide_eq_true rfl) ?_
    refine lv_iload_n hx hb dX10_joined_177 rfl (lv_at hl 2 rfl) ?_
    refine lv_if_ne (tgt := 185) hx hb dX10_joined_178 (of_decide_eq_true rfl) (fun c2 => ?_) (fun c2 => ?_)
    · have kc2 := jne c2 t3 jz_0
      refine lv_iload_n hx hb dX10_joined_185 rfl (lv_at hl 1 rfl) ?_
      refine lv_iload_n hx hb dX10_joined_186 rfl (lv_at hl 2 rfl) ?_
      exact by
       refine lv_irem hx hb dX10_joined_187 (fun h => absurd (jeq h t3 jz_0) (by omega)) ?_
       refine lv_topi (fun x3 ex3 => ?_)
       have gx3 := jrg (rfl : x3.toInt = x3.toInt)
       exact hret x3 σ τ _ _ _ _ rfl ⟨⟨rfl, rfl⟩, trivial⟩ hP hS dX10_joined_188
    · have kc2 := jeq c2 t3 jz_0
      refine lv_iconst (v := 0) hx hb dX10_joined_181 (of_decide_eq_true rfl) ?_
      refine lv_goto (tgt := 188) hx hb dX10_joined_182 (of_decide_eq_true rfl) ?_
      exact hret 0 σ τ _ _ _ _ rfl ⟨⟨rfl, rfl⟩, trivial⟩ hP hS dX10_joined_188
  have kc1 := jne c1 t1 jz_37
  by_cases c4 : a1 = 38
  · have kc4 := jeq c4 t1 jz_38
    refine jtopr c4 ?_
    refine lv_lookup (off := 105) (tgt := 106) hx hb dX10_joined_1 (of_decide_eq_true rfl) (of_decide_eq_true rfl) (of_decide_eq_true rfl) ?_
    refine lv_iload_n hx hb dX10_joined_106 rfl (lv_at hl 1 rfl) ?_
    refine lv_if_eq (tgt := 118) hx hb dX10_joined_107 (of_decide_eq_true rfl) (fun c5 => ?_) (fun c5 => ?_)
    · have kc5 := jeq c5 t2 jz_0
      refine lv_iconst (v := 0) hx hb dX10_joined_118 (of_decide_eq_true rfl) ?_
      exact hret 0 σ τ _ _ _ _ rfl ⟨⟨rfl, rfl⟩, trivial⟩ hP hS dX10_joined_119
    · have kc5 := jne c5 t2 jz_0
      refine lv_iload_n hx hb dX10_joined_110 rfl (lv_at hl 2 rfl) ?_
      refine lv_if_eq (tgt := 118) hx hb dX10_joined_111 (of_decide_eq_true rfl) (fun c6 => ?_) (fun c6 => ?_)
      · have kc6 := jeq c6 t3 jz_0
        refine lv_iconst (v := 0) hx hb dX10_joined_118 (of_decide_eq_true rfl) ?_
        exact hret 0 σ τ _ _ _ _ rfl ⟨⟨rfl, rfl⟩, trivial⟩ hP hS dX10_joined_119
      · have kc6 := jne c6 t3 jz_0
        refine lv_iconst (v := 1) hx hb dX10_joined_114 (of_decide_eq_true rfl) ?_
        refine lv_goto (tgt := 119) hx hb dX10_joined_115 (of_decide_eq_true rfl) ?_
        exact hret 1 σ τ _ _ _ _ rfl ⟨⟨rfl, rfl⟩, trivial⟩ hP hS dX10_joined_119
  have kc4 := jne c4 t1 jz_38
  by_cases c7 : a1 = 42
  · have kc7 := jeq c7 t1 jz_42
    refine jtopr c7 ?_
    refine lv_lookup (off := 160) (tgt := 161) hx hb dX10_joined_1 (of_decide_eq_true rfl) (of_decide_eq_true rfl) (of_decide_eq_true rfl) ?_
    refine lv_iload_n hx hb dX10_joined_161 rfl (lv_at hl 1 rfl) ?_
    refine lv_iload_n hx hb dX10_joined_162 rfl (lv_at hl 2 rfl) ?_
    refine lv_imul hx hb dX10_joined_163 ?_
    refine lv_topi (fun x8 ex8 => ?_)
    have gx8 := jrg (rfl : x8.toInt = x8.toInt)
    exact hret x8 σ τ _ _ _ _ rfl ⟨⟨rfl, rfl⟩, trivial⟩ hP hS dX10_joined_164
  have kc7 := jne c7 t1 jz_42
  by_cases c9 : a1 = 43
  · have kc9 := jeq c9 t1 jz_43
    refine jtopr c9 ?_
    refine lv_lookup (off := 152) (tgt := 153) hx hb dX10_joined_1 (of_decide_eq_true rfl) (of_decide_eq_true rfl) (of_decide_eq_true rfl) ?_
    refine lv_iload_n hx hb dX10_joined_153 rfl (lv_at hl 1 rfl) ?_
    refine lv_iload_n hx hb dX10_joined_154 rfl (lv_at hl 2 rfl) ?_
    refine lv_iadd hx hb dX10_joined_155 ?_
    refine lv_topi (fun x10 ex10 => ?_)
    have gx10 := jrg (rfl : x10.toInt = x10.toInt)
    exact hret x10 σ τ _ _ _ _ rfl ⟨⟨rfl, rfl⟩, trivial⟩ hP hS dX10_joined_156
  have kc9 := jne c9 t1 jz_43
  by_cases c11 : a1 = 45
  · have kc11 := jeq c11 t1 jz_45
    refine jtopr c11 ?_
    refine lv_lookup (off := 156) (tgt := 157) hx hb dX10_joined_1 (of_decide_eq_true rfl) (of_decide_eq_true rfl) (of_decide_eq_true rfl) ?_
    refine lv_iload_n hx hb dX10_joined_157 rfl (lv_at hl 1 rfl) ?_
    refine lv_iload_n hx hb dX10_joined_158 rfl (lv_at hl 2 rfl) ?_
    refine lv_isub hx hb dX10_joined_159 ?_
    refine lv_topi (fun x12 ex12 => ?_)
    have gx12 := jrg (rfl : x12.toInt = x12.toInt)
    exact hret x12 σ τ _ _ _ _ rfl ⟨⟨rfl, rfl⟩, trivial⟩ hP hS dX10_joined_160
  have kc11 := jne c11 t1 jz_45
  by_cases c13 : a1 = 47
  · have kc13 := jeq c13 t1 jz_47
    refine jtopr c13 ?_
    refine lv_lookup (off := 164) (tgt := 165) hx hb dX10_joined_1 (of_decide_eq_true rfl) (of_decide_eq_true rfl) (of_decide_eq_true rfl) ?_
    refine lv_iload_n hx hb dX10_joined_165 rfl (lv_at hl 2 rfl) ?_
    refine lv_if_ne (tgt := 173) hx hb dX10_joined_166 (of_decide_eq_true rfl) (fun c14 => ?_) (fun c14 => ?_)
    · have kc14 := jne c14 t3 jz_0
      refine lv_iload_n hx hb dX10_joined_173 rfl (lv_at hl 1 rfl) ?_
      refine lv_iload_n hx hb dX10_joined_174 rfl (lv_at hl 2 rfl) ?_
      exact by
       refine lv_idiv hx hb dX10_joined_175 (fun h => absurd (jeq h t3 jz_0) (by omega)) ?_
       refine lv_topi (fun x15 ex15 => ?_)
       have gx15 := jrg (rfl : x15.toInt = x15.toInt)
       exact hret x15 σ τ _ _ _ _ rfl ⟨⟨rfl, rfl⟩, trivial⟩ hP hS dX10_joined_176
    · have kc14 := jeq c14 t3 jz_0
      refine lv_iconst (v := 0) hx hb dX10_joined_169 (of_decide_eq_true rfl) ?_
      refine lv_goto (tgt := 176) hx hb dX10_joined_170 (of_decide_eq_true rfl) ?_
      exact hret 0 σ τ _ _ _ _ rfl ⟨⟨rfl, rfl⟩, trivial⟩ hP hS dX10_joined_176
  have kc13 := jne c13 t1 jz_47
  by_cases c16 : a1 = 60
  · have kc16 := jeq c16 t1 jz_60
    refine jtopr c16 ?_
    refine lv_lookup (off := 119) (tgt := 120) hx hb dX10_joined_1 (of_decide_eq_true rfl) (of_decide_eq_true rfl) (of_decide_eq_true rfl) ?_
    refine lv_iload_n hx hb dX10_joined_120 rfl (lv_at hl 1 rfl) ?_
    refine lv_iload_n hx hb dX10_joined_121 rfl (lv_at hl 2 rfl) ?_
    refine lv_icmp_ge (tgt := 129) hx hb dX10_joined_122 (of_decide_eq_true rfl) (fun c17 => ?_) (fun c17 => ?_)
    · have kc17 := jle c17 t3 t2
      refine lv_iconst (v := 0) hx hb dX10_joined_129 (of_decide_eq_true rfl) ?_
      exact hret 0 σ τ _ _ _ _ rfl ⟨⟨rfl, rfl⟩, trivial⟩ hP hS dX10_joined_130
    · have kc17 := jnle c17 t3 t2
      refine lv_iconst (v := 1) hx hb dX10_joined_125 (of_decide_eq_true rfl) ?_
      refine lv_goto (tgt := 130) hx hb dX10_joined_126 (of_decide_eq_true rfl) ?_
      exact hret 1 σ τ _ _ _ _ rfl ⟨⟨rfl, rfl⟩, trivial⟩ hP hS dX10_joined_130
  have kc16 := jne c16 t1 jz_60
  by_cases c18 : a1 = 61
  · have kc18 := jeq c18 t1 jz_61
    refine jtopr c18 ?_
    refine lv_lookup (off := 130) (tgt := 131) hx hb dX10_joined_1 (of_decide_eq_true rfl) (of_decide_eq_true rfl) (of_decide_eq_true rfl) ?_
    refine lv_iload_n hx hb dX10_joined_131 rfl (lv_at hl 1 rfl) ?_
    refine lv_iload_n hx hb dX10_joined_132 rfl (lv_at hl 2 rfl) ?_
    refine lv_icmp_ne (tgt := 140) hx hb dX10_joined_133 (of_decide_eq_true rfl) (fun c19 => ?_) (fun c19 => ?_)
    · have kc19 := jne c19 t2 t3
      refine lv_iconst (v := 0) hx hb dX10_joined_140 (of_decide_eq_true rfl) ?_
      exact hret 0 σ τ _ _ _ _ rfl ⟨⟨rfl, rfl⟩, trivial⟩ hP hS dX10_joined_141
    · have kc19 := jeq c19 t2 t3
      refine lv_iconst (v := 1) hx hb dX10_joined_136 (of_decide_eq_true rfl) ?_
      refine lv_goto (tgt := 141) hx hb dX10_joined_137 (of_decide_eq_true rfl) ?_
      exact hret 1 σ τ _ _ _ _ rfl ⟨⟨rfl, rfl⟩, trivial⟩ hP hS dX10_joined_141
  have kc18 := jne c18 t1 jz_61
  by_cases c20 : a1 = 62
  · have kc20 := jeq c20 t1 jz_62
    refine jtopr c20 ?_
    refine lv_lookup (off := 141) (tgt := 142) hx hb dX10_joined_1 (of_decide_eq_true rfl) (of_decide_eq_true rfl) (of_decide_eq_true rfl) ?_
    refine lv_iload_n hx hb dX10_joined_142 rfl (lv_at hl 1 rfl) ?_
    refine lv_iload_n hx hb dX10_joined_143 rfl (lv_at hl 2 rfl) ?_
    refine lv_icmp_le (tgt := 151) hx hb dX10_joined_144 (of_decide_eq_true rfl) (fun c21 => ?_) (fun c21 => ?_)
    · have kc21 := jle c21 t2 t3
      refine lv_iconst (v := 0) hx hb dX10_joined_151 (of_decide_eq_true rfl) ?_
      exact hret 0 σ τ _ _ _ _ rfl ⟨⟨rfl, rfl⟩, trivial⟩ hP hS dX10_joined_152
    · have kc21 := jnle c21 t2 t3
      refine lv_iconst (v := 1) hx hb dX10_joined_147 (of_decide_eq_true rfl) ?_
      refine lv_goto (tgt := 152) hx hb dX10_joined_148 (of_decide_eq_true rfl) ?_
      exact hret 1 σ τ _ _ _ _ rfl ⟨⟨rfl, rfl⟩, trivial⟩ hP hS dX10_joined_152
  have kc20 := jne c20 t1 jz_62
  by_cases c22 : a1 = 124
  · have kc22 := jeq c22 t1 jz_124
    refine jtopr c22 ?_
    refine lv_lookup (off := 91) (tgt := 92) hx hb dX10_joined_1 (of_decide_eq_true rfl) (of_decide_eq_true rfl) (of_decide_eq_true rfl) ?_
    refine lv_iload_n hx hb dX10_joined_92 rfl (lv_at hl 1 rfl) ?_
    refine lv_if_ne (tgt := 100) hx hb dX10_joined_93 (of_decide_eq_true rfl) (fun c23 => ?_) (fun c23 => ?_)
    · have kc23 := jne c23 t2 jz_0
      refine lv_iconst (v := 1) hx hb dX10_joined_100 (of_decide_eq_true rfl) ?_
      refine lv_goto (tgt := 105) hx hb dX10_joined_101 (of_decide_eq_true rfl) ?_
      exact hret 1 σ τ _ _ _ _ rfl ⟨⟨rfl, rfl⟩, trivial⟩ hP hS dX10_joined_105
    · have kc23 := jeq c23 t2 jz_0
      refine lv_iload_n hx hb dX10_joined_96 rfl (lv_at hl 2 rfl) ?_
      refine lv_if_eq (tgt := 104) hx hb dX10_joined_97 (of_decide_eq_true rfl) (fun c24 => ?_) (fun c24 => ?_)
      · have kc24 := jeq c24 t3 jz_0
        refine lv_iconst (v := 0) hx hb dX10_joined_104 (of_decide_eq_true rfl) ?_
        exact hret 0 σ τ _ _ _ _ rfl ⟨⟨rfl, rfl⟩, trivial⟩ hP hS dX10_joined_105
      · have kc24 := jne c24 t3 jz_0
        refine lv_iconst (v := 1) hx hb dX10_joined_100 (of_decide_eq_true rfl) ?_
        refine lv_goto (tgt := 105) hx hb dX10_joined_101 (of_decide_eq_true rfl) ?_
        exact hret 1 σ τ _ _ _ _ rfl ⟨⟨rfl, rfl⟩, trivial⟩ hP hS dX10_joined_105
  have kc22 := jne c22 t1 jz_124
  refine lv_lookup (off := 188) (tgt := 189) hx hb dX10_joined_1 (of_decide_eq_true rfl) (jlook (fun p hp => by have h9 := t1; simp only [List.mem_cons, List.not_mem_nil, or_false] at hp; rcases hp with hp | hp | hp | hp | hp | hp | hp | hp | hp | hp <;> subst hp <;> simp only [] <;> omega)) (of_decide_eq_true rfl) ?_
  refine lv_iconst (v := 0) hx hb dX10_joined_189 (of_decide_eq_true rfl) ?_
  exact hret 0 σ τ _ _ _ _ rfl ⟨⟨rfl, rfl⟩, trivial⟩ hP hS dX10_joined_190
set_option maxHeartbeats 4000000 in
set_option maxRecDepth 100000 in
theorem c_X10_worked_18 (l : Launch) (D : va_G) (cI cL : ClassId) (ad zz : Nat → Nat) (hJ : jD ad) (σ : Nat → Nat → Int32) (τ : Nat → Nat → Int64) (hI18 : jI18 σ) : jM l yX10_worked cX10_worked 5 (some .int) ({ frames := 1, cells := 0, slots := 0, locals := 22 }) D cI cL ad zz [.ref (ad 18)] σ τ (fun r σ' τ' => τ = τ' ∧ (∀ i : Nat, (i < 21 ∨ 21 < i) → σ' i = σ i) ∧ True) := by
  refine jM.of hJ (by decide +kernel) (nt := .int) rfl (Nat.le_of_ble_eq_true rfl) ?_
  intro p e s m args below meth c Q ls hC hret hl hP
  obtain ⟨hx, hb, hr, hml, hown, hts, hK, -, hlocks, hZ⟩ := hC
  have hown : s.vm.findClass RX10 = some m.cls := hown
  have hS : va_S (jA ad) s.heap s.heap [] := va_S.rf
  have hA : ∀ q, jA ad q → jA ad q := fun _ h => h
  have hl : lv_has ls 5 [(0, .ref (ad 18))] := hl
  obtain ⟨i1, w2⟩ : (0 ≤ (σ 18 0).toInt ∧ (σ 18 0).toInt ≤ 160) ∧ (∀ k : Nat, k < 160 → 0 ≤ (σ 19 k).toInt ∧ (σ 19 k).toInt ≤ 30000) := id hI18
  refine lv_iconst (v := 0) hx hb dX10_worked_0 (of_decide_eq_true rfl) ?_
  refine lv_istore_n (lv' := [(1, .int 0), (0, .ref (ad 18))]) hx hb dX10_worked_1 rfl hl (of_decide_eq_true rfl) rfl (fun ls hl => ?_)
  refine lv_iconst (v := 0) hx hb dX10_worked_2 (of_decide_eq_true rfl) ?_
  refine lv_istore_n (lv' := [(2, .int 0), (1, .int 0), (0, .ref (ad 18))]) hx hb dX10_worked_3 rfl hl (of_decide_eq_true rfl) rfl (fun ls hl => ?_)
  have lp3 : ∀ (n4 : Nat) (x5 : Int32) (x6 : Int32) (σ9 : Nat → Nat → Int32) (H : Heap) (locs : List Loc) (ls : Array Slot), (-x6.toInt + 30001 : Int) < n4 → 0 ≤ x5.toInt → x5.toInt ≤ 160 → 0 ≤ x6.toInt → x6.toInt ≤ 30000 → (∀ i : Nat, (i < 21 ∨ 21 < i) → σ9 i = σ i) → jH D cI cL ad σ9 τ H → va_S (jA ad) s.heap H locs → lv_has ls 5 [(2, .int x6), (1, .int x5), (0, .ref (ad 18))] → W p l e ({ frames := 1, cells := 0, slots := 0, locals := 22 }) s m args below meth c H locs 0 0 Q (F0 m 4 ls []) := by
    intro n4
    induction n4 with
    | zero => intro x5 x6 σ9 H locs ls h11 h12 h13 h14 h15; exact absurd h11 (by omega)
    | succ n4 ihlp3 =>
      intro x5 x6 σ9 H locs ls h11 h12 h13 h14 h15 f16 hP hS hl
      exact by
       refine lv_iload_n hx hb dX10_worked_4 rfl (lv_at hl 0 rfl) ?_
       refine lv_aload_n hx hb dX10_worked_5 rfl (lv_at hl 2 rfl) ?_
       refine va_get (D := D) hx hb hts inlX10 hown hK hP 18 (jc_18 cI cL ad σ9 τ) rfl 0 (of_decide_eq_true rfl) (hts _ kw_16_20) (fun _ h9 => h9) rfl dX10_worked_6 ?_
       have m17 : σ9 18 0 = (σ 18 0) := (congrFun (f16 18 (of_decide_eq_true rfl)) 0)
       refine jtopr m17 ?_
       refine lv_icmp_ge (tgt := 265) hx hb dX10_worked_9 (of_decide_eq_true rfl) (fun c18 => ?_) (fun c18 => ?_)
       · have kc18 := jle c18 rfl rfl
         refine lv_iconst (v := 0) hx hb dX10_worked_265 (of_decide_eq_true rfl) ?_
         exact hret 0 σ9 τ _ _ _ _ rfl ⟨rfl, (fun i hi => (f16 i hi)), trivial⟩ hP hS dX10_worked_266
       · have kc18 := jnle c18 rfl rfl
         refine lv_aload_n hx hb dX10_worked_12 rfl (lv_at hl 2 rfl) ?_
         refine va_get (D := D) hx hb hts inlX10 hown hK hP 18 (jc_18 cI cL ad σ9 τ) rfl 2 (of_decide_eq_true rfl) (hts _ kw_4_3) (fun _ h9 => h9) rfl dX10_worked_13 ?_
         refine lv_iload_n hx hb dX10_worked_16 rfl (lv_at hl 0 rfl) ?_
         exact by
          refine jald hx hb hK hP (jc_19 cI cL ad σ9 τ) (jin rfl (by omega) (by omega)) dX10_worked_17 ?_
          have w19 : ∀ k : Nat, k < 160 → 0 ≤ (σ9 19 k).toInt ∧ (σ9 19 k).toInt ≤ 30000 := (jrr_fr (f16 19 (of_decide_eq_true rfl)) w2)
          have g20 := w19 _ (jnat (x := x6) rfl (n := 160) (by omega) (of_decide_eq_true rfl))
          refine lv_topi (fun x21 ex21 => ?_)
          rw [← ex21] at g20
          refine lv_istore_n (lv' := [(3, .int x21), (2, .int x6), (1, .int x5), (0, .ref (ad 18))]) hx hb dX10_worked_18 rfl hl (of_decide_eq_true rfl) rfl (fun ls hl => ?_)
          refine lv_iload_n hx hb dX10_worked_19 rfl (lv_at hl 0 rfl) ?_
          refine lv_sipush (v := 20000) hx hb dX10_worked_20 (of_decide_eq_true rfl) ?_
          refine lv_icmp_ge (tgt := 71) hx hb dX10_worked_23 (of_decide_eq_true rfl) (fun c22 => ?_) (fun c22 => ?_)
          · exact by
             have kc22 := jle c22 jz_20000 rfl
             refine lv_iload_n hx hb dX10_worked_71 rfl (lv_at hl 2 rfl) ?_
             refine lv_iconst (v := 1) hx hb dX10_worked_72 (of_decide_eq_true rfl) ?_
             refine lv_icmp_lt (tgt := 83) hx hb dX10_worked_73 (of_decide_eq_true rfl) (fun c23 => ?_) (fun c23 => ?_)
             · have kc23 := jlt c23 rfl jz_1
               refine lv_iload_n hx hb dX10_worked_83 rfl (lv_at hl 2 rfl) ?_
               refine lv_iconst (v := 1) hx hb dX10_worked_84 (of_decide_eq_true rfl) ?_
               refine lv_icmp_ge (tgt := 92) hx hb dX10_worked_85 (of_decide_eq_true rfl) (fun c => absurd (jle c jz_1 rfl) (by omega)) (fun c24 => ?_)
               have kc24 := jnle c24 jz_1 rfl
               exact by
                refine lv_iconst (v := 0) hx hb dX10_worked_88 (of_decide_eq_true rfl) ?_
                refine lv_goto (tgt := 100) hx hb dX10_worked_89 (of_decide_eq_true rfl) ?_
                exact hret 0 σ9 τ _ _ _ _ rfl ⟨rfl, (fun i hi => (f16 i hi)), trivial⟩ hP hS dX10_worked_100
             · have kc23 := jnlt c23 rfl jz_1
               refine lv_iload_n hx hb dX10_worked_76 rfl (lv_at hl 0 rfl) ?_
               refine lv_sipush (v := 20059) hx hb dX10_worked_77 (of_decide_eq_true rfl) ?_
               refine lv_icmp_ne (tgt := 101) hx hb dX10_worked_80 (of_decide_eq_true rfl) (fun c25 => ?_) (fun c25 => ?_)
               · have kc25 := jne c25 rfl jz_20059
                 refine lv_iload_n hx hb dX10_worked_101 rfl (lv_at hl 0 rfl) ?_
                 refine lv_sipush (v := 20063) hx hb dX10_worked_102 (of_decide_eq_true rfl) ?_
                 refine lv_icmp_ne (tgt := 160) hx hb dX10_worked_105 (of_decide_eq_true rfl) (fun c26 => ?_) (fun c26 => ?_)
                 · have kc26 := jne c26 rfl jz_20063
                   refine lv_iload_n hx hb dX10_worked_160 rfl (lv_at hl 0 rfl) ?_
                   refine lv_sipush (v := 20033) hx hb dX10_worked_161 (of_decide_eq_true rfl) ?_
                   refine lv_icmp_ne (tgt := 194) hx hb dX10_worked_164 (of_decide_eq_true rfl) (fun c27 => ?_) (fun c27 => ?_)
                   · have kc27 := jne c27 rfl jz_20033
                     refine lv_iload_n hx hb dX10_worked_194 rfl (lv_at hl 0 rfl) ?_
                     refine lv_sipush (v := 20126) hx hb dX10_worked_195 (of_decide_eq_true rfl) ?_
                     refine lv_icmp_ne (tgt := 221) hx hb dX10_worked_198 (of_decide_eq_true rfl) (fun c28 => ?_) (fun c28 => ?_)
                     · have kc28 := jne c28 rfl jz_20126
                       refine lv_iload_n hx hb dX10_worked_221 rfl (lv_at hl 2 rfl) ?_
                       refine lv_iconst (v := 1) hx hb dX10_worked_222 (of_decide_eq_true rfl) ?_
                       refine lv_icmp_le (tgt := 259) hx hb dX10_worked_223 (of_decide_eq_true rfl) (fun c29 => ?_) (fun c29 => ?_)
                       · have kc29 := jle c29 rfl jz_1
                         obtain ⟨x30, ex30⟩ : ∃ y : Int32, y = x6 + 1 := ⟨_, rfl⟩
                         exact by
                          have tx30 : x30.toInt = x6.toInt + 1 := (jadd ex30 rfl jz_1 (by omega) (by omega)).trans (by omega)
                          refine lv_iinc (v := x30) (lv' := [(2, .int x30), (3, .int x21), (1, .int x5), (0, .ref (ad 18))]) hx hb dX10_worked_259 hl (k := 1) rfl (by rw [ex30]; rfl) (of_decide_eq_true rfl) rfl (fun ls hl => ?_)
                          refine lv_goto (tgt := 4) hx hb dX10_worked_262 (of_decide_eq_true rfl) ?_
                          exact by exact ihlp3 x5 x30 σ9 _ _ ls (by have h91 := tx30; omega) (by have h91 := tx30; omega) (by have h91 := tx30; omega) (by have h91 := tx30; omega) (by have h91 := tx30; omega) (fun i hi => (f16 i hi))    hP hS (lv_sub hl [0, 2, 3] rfl)
                       · have kc29 := jnle c29 rfl jz_1
                         obtain ⟨x31, ex31⟩ : ∃ y : Int32, y = x5 + (-1) := ⟨_, rfl⟩
                         have tx31 : x31.toInt = x5.toInt - 1 := (jadd ex31 rfl jz_m1 (by omega) (by omega)).trans (by omega)
                         refine lv_iinc (v := x31) (lv' := [(1, .int x31), (3, .int x21), (2, .int x6), (0, .ref (ad 18))]) hx hb dX10_worked_226 hl (k := 2) rfl (by rw [ex31]; rfl) (of_decide_eq_true rfl) rfl (fun ls hl => ?_)
                         refine lv_aload_n hx hb dX10_worked_229 rfl (lv_at hl 3 rfl) ?_
                         exact by
                          refine va_get (D := D) hx hb hts inlX10 hown hK hP 18 (jc_18 cI cL ad σ9 τ) rfl 4 (of_decide_eq_true rfl) (hts _ kw_4_5) (fun _ h9 => h9) rfl dX10_worked_230 ?_
                          refine lv_iload_n hx hb dX10_worked_233 rfl (lv_at hl 0 rfl) ?_
                          refine lv_iconst (v := 1) hx hb dX10_worked_234 (of_decide_eq_true rfl) ?_
                          refine lv_isub hx hb dX10_worked_235 ?_
                          refine lv_topi (fun x32 ex32 => ?_)
                          have tx32 : x32.toInt = x5.toInt - 2 := (jsub ex32 tx31 jz_1 (by omega) (by omega)).trans (by omega)
                          refine lv_iload_n hx hb dX10_worked_236 rfl (lv_at hl 1 rfl) ?_
                          refine lv_sipush (v := 20000) hx hb dX10_worked_237 (of_decide_eq_true rfl) ?_
                          have g33 := jrg (rfl : x21.toInt = x21.toInt)
                          exact by
                           refine lv_isub hx hb dX10_worked_240 ?_
                           refine lv_topi (fun x34 ex34 => ?_)
                           have tx34 : x34.toInt = x21.toInt - 20000 := (jsub ex34 rfl jz_20000 (by omega) (by omega)).trans (by omega)
                           refine lv_aload_n hx hb dX10_worked_241 rfl (lv_at hl 3 rfl) ?_
                           refine va_get (D := D) hx hb hts inlX10 hown hK hP 18 (jc_18 cI cL ad σ9 τ) rfl 4 (of_decide_eq_true rfl) (hts _ kw_4_5) (fun _ h9 => h9) rfl dX10_worked_242 ?_
                           refine lv_iload_n hx hb dX10_worked_245 rfl (lv_at hl 0 rfl) ?_
                           refine lv_iconst (v := 1) hx hb dX10_worked_246 (of_decide_eq_true rfl) ?_
                           refine lv_isub hx hb dX10_worked_247 ?_
                           refine lv_topi (fun x35 ex35 => ?_)
                           exact by
                            have tx35 : x35.toInt = x5.toInt - 2 := (jsub ex35 tx31 jz_1 (by omega) (by omega)).trans (by omega)
                            refine jald hx hb hK hP (jc_21 cI cL ad σ9 τ) (jin tx35 (by omega) (by omega)) dX10_worked_248 ?_
                            refine lv_topi (fun x36 ex36 => ?_)
                            refine lv_aload_n hx hb dX10_worked_249 rfl (lv_at hl 3 rfl) ?_
                            refine va_get (D := D) hx hb hts inlX10 hown hK hP 18 (jc_18 cI cL ad σ9 τ) rfl 4 (of_decide_eq_true rfl) (hts _ kw_4_5) (fun _ h9 => h9) rfl dX10_worked_250 ?_
                            refine lv_iload_n hx hb dX10_worked_253 rfl (lv_at hl 0 rfl) ?_
                            refine jald hx hb hK hP (jc_21 cI cL ad σ9 τ) (jin tx31 (by omega) (by omega)) dX10_worked_254 ?_
                            refine lv_topi (fun x37 ex37 => ?_)
                            refine jcallS (As := [.int x34, .int x36, .int x37]) (rest := [.int x32, .ref (ad 21)]) ⟨hx, hb, hml, hown, hts⟩ hK hP hA hS hZ (c_X10_joined l D cI cL ad zz hJ σ9 τ x34 (x21.toInt - 20000) tx34 x36 (x36.toInt) rfl x37 (x37.toInt) rfl) cw_RX10_38 ⟨Nat.le_of_ble_eq_true rfl, Nat.le_of_ble_eq_true rfl⟩ rfl rfl rfl hl.1 rfl (Nat.le_of_ble_eq_true rfl) dX10_worked_255 ⟨Nat.zero_le _, Nat.zero_le _⟩ (fun r39 σ38 τ38 H locs h38 hP hS => ?_)
                            exact by
                             obtain ⟨⟨rfl, rfl⟩, h38⟩ := h38
                             refine jast hx hb hK hP hJ hA hS (jc_21 cI cL ad σ9 τ) (ja_21 cI cL ad σ9 τ _ _) (jin tx32 (by omega) (by omega)) dX10_worked_258 (fun σ40 H locs eσ40 hP hS => ?_)
                             obtain ⟨x41, ex41⟩ : ∃ y : Int32, y = x6 + 1 := ⟨_, rfl⟩
                             have tx41 : x41.toInt = x6.toInt + 1 := (jadd ex41 rfl jz_1 (by omega) (by omega)).trans (by omega)
                             refine lv_iinc (v := x41) (lv' := [(2, .int x41), (1, .int x31), (3, .int x21), (0, .ref (ad 18))]) hx hb dX10_worked_259 hl (k := 2) rfl (by rw [ex41]; rfl) (of_decide_eq_true rfl) rfl (fun ls hl => ?_)
                             refine lv_goto (tgt := 4) hx hb dX10_worked_262 (of_decide_eq_true rfl) ?_
                             exact by exact ihlp3 x31 x41 σ40 _ _ ls (by have h90 := tx31; have h91 := tx41; omega) (by have h90 := tx31; have h91 := tx41; omega) (by have h90 := tx31; have h91 := tx41; omega) (by have h90 := tx31; have h91 := tx41; omega) (by have h90 := tx31; have h91 := tx41; omega) (fun i hi => ((jnp i eσ40 (imp_33 i hi)).trans (f16 i hi)))    hP hS (lv_sub hl [0, 1, 3] rfl)
                     · have kc28 := jeq c28 rfl jz_20126
                       refine lv_aload_n hx hb dX10_worked_201 rfl (lv_at hl 3 rfl) ?_
                       exact by
                        refine va_get (D := D) hx hb hts inlX10 hown hK hP 18 (jc_18 cI cL ad σ9 τ) rfl 4 (of_decide_eq_true rfl) (hts _ kw_4_5) (fun _ h9 => h9) rfl dX10_worked_202 ?_
                        refine lv_iload_n hx hb dX10_worked_205 rfl (lv_at hl 2 rfl) ?_
                        refine lv_iconst (v := 1) hx hb dX10_worked_206 (of_decide_eq_true rfl) ?_
                        have g42 := jrg (rfl : x5.toInt = x5.toInt)
                        refine lv_isub hx hb dX10_worked_207 ?_
                        refine lv_topi (fun x43 ex43 => ?_)
                        have tx43 : x43.toInt = x5.toInt - 1 := (jsub ex43 rfl jz_1 (by omega) (by omega)).trans (by omega)
                        refine lv_aload_n hx hb dX10_worked_208 rfl (lv_at hl 3 rfl) ?_
                        refine va_get (D := D) hx hb hts inlX10 hown hK hP 18 (jc_18 cI cL ad σ9 τ) rfl 4 (of_decide_eq_true rfl) (hts _ kw_4_5) (fun _ h9 => h9) rfl dX10_worked_209 ?_
                        exact by
                         refine lv_iload_n hx hb dX10_worked_212 rfl (lv_at hl 2 rfl) ?_
                         refine lv_iconst (v := 1) hx hb dX10_worked_213 (of_decide_eq_true rfl) ?_
                         refine lv_isub hx hb dX10_worked_214 ?_
                         refine lv_topi (fun x44 ex44 => ?_)
                         have tx44 : x44.toInt = x5.toInt - 1 := (jsub ex44 rfl jz_1 (by omega) (by omega)).trans (by omega)
                         refine jald hx hb hK hP (jc_21 cI cL ad σ9 τ) (jin tx44 (by omega) (by omega)) dX10_worked_215 ?_
                         refine lv_topi (fun x45 ex45 => ?_)
                         refine lv_ineg hx hb dX10_worked_216 ?_
                         refine lv_topi (fun x46 ex46 => ?_)
                         exact by
                          have gx46 := jrg (rfl : x46.toInt = x46.toInt)
                          refine jast hx hb hK hP hJ hA hS (jc_21 cI cL ad σ9 τ) (ja_21 cI cL ad σ9 τ _ _) (jin tx43 (by omega) (by omega)) dX10_worked_217 (fun σ47 H locs eσ47 hP hS => ?_)
                          refine lv_goto (tgt := 259) hx hb dX10_worked_218 (of_decide_eq_true rfl) ?_
                          obtain ⟨x48, ex48⟩ : ∃ y : Int32, y = x6 + 1 := ⟨_, rfl⟩
                          have tx48 : x48.toInt = x6.toInt + 1 := (jadd ex48 rfl jz_1 (by omega) (by omega)).trans (by omega)
                          refine lv_iinc (v := x48) (lv' := [(2, .int x48), (3, .int x21), (1, .int x5), (0, .ref (ad 18))]) hx hb dX10_worked_259 hl (k := 1) rfl (by rw [ex48]; rfl) (of_decide_eq_true rfl) rfl (fun ls hl => ?_)
                          refine lv_goto (tgt := 4) hx hb dX10_worked_262 (of_decide_eq_true rfl) ?_
                          exact by exact ihlp3 x5 x48 σ47 _ _ ls (by have h91 := tx48; omega) (by have h91 := tx48; omega) (by have h91 := tx48; omega) (by have h91 := tx48; omega) (by have h91 := tx48; omega) (fun i hi => ((jnp i eσ47 (imp_33 i hi)).trans (f16 i hi)))    hP hS (lv_sub hl [0, 2, 3] rfl)
                   · have kc27 := jeq c27 rfl jz_20033
                     exact by
                      refine lv_aload_n hx hb dX10_worked_167 rfl (lv_at hl 3 rfl) ?_
                      refine va_get (D := D) hx hb hts inlX10 hown hK hP 18 (jc_18 cI cL ad σ9 τ) rfl 4 (of_decide_eq_true rfl) (hts _ kw_4_5) (fun _ h9 => h9) rfl dX10_worked_168 ?_
                      refine lv_iload_n hx hb dX10_worked_171 rfl (lv_at hl 2 rfl) ?_
                      refine lv_iconst (v := 1) hx hb dX10_worked_172 (of_decide_eq_true rfl) ?_
                      have g49 := jrg (rfl : x5.toInt = x5.toInt)
                      refine lv_isub hx hb dX10_worked_173 ?_
                      refine lv_topi (fun x50 ex50 => ?_)
                      have tx50 : x50.toInt = x5.toInt - 1 := (jsub ex50 rfl jz_1 (by omega) (by omega)).trans (by omega)
                      refine lv_aload_n hx hb dX10_worked_174 rfl (lv_at hl 3 rfl) ?_
                      exact by
                       refine va_get (D := D) hx hb hts inlX10 hown hK hP 18 (jc_18 cI cL ad σ9 τ) rfl 4 (of_decide_eq_true rfl) (hts _ kw_4_5) (fun _ h9 => h9) rfl dX10_worked_175 ?_
                       refine lv_iload_n hx hb dX10_worked_178 rfl (lv_at hl 2 rfl) ?_
                       refine lv_iconst (v := 1) hx hb dX10_worked_179 (of_decide_eq_true rfl) ?_
                       refine lv_isub hx hb dX10_worked_180 ?_
                       refine lv_topi (fun x51 ex51 => ?_)
                       have tx51 : x51.toInt = x5.toInt - 1 := (jsub ex51 rfl jz_1 (by omega) (by omega)).trans (by omega)
                       refine jald hx hb hK hP (jc_21 cI cL ad σ9 τ) (jin tx51 (by omega) (by omega)) dX10_worked_181 ?_
                       refine lv_topi (fun x52 ex52 => ?_)
                       refine lv_if_ne (tgt := 189) hx hb dX10_worked_182 (of_decide_eq_true rfl) (fun c53 => ?_) (fun c53 => ?_)
                       · exact by
                          have kc53 := jne c53 rfl jz_0
                          refine lv_iconst (v := 0) hx hb dX10_worked_189 (of_decide_eq_true rfl) ?_
                          refine jast hx hb hK hP hJ hA hS (jc_21 cI cL ad σ9 τ) (ja_21 cI cL ad σ9 τ _ _) (jin tx50 (by omega) (by omega)) dX10_worked_190 (fun σ54 H locs eσ54 hP hS => ?_)
                          refine lv_goto (tgt := 259) hx hb dX10_worked_191 (of_decide_eq_true rfl) ?_
                          obtain ⟨x55, ex55⟩ : ∃ y : Int32, y = x6 + 1 := ⟨_, rfl⟩
                          have tx55 : x55.toInt = x6.toInt + 1 := (jadd ex55 rfl jz_1 (by omega) (by omega)).trans (by omega)
                          refine lv_iinc (v := x55) (lv' := [(2, .int x55), (3, .int x21), (1, .int x5), (0, .ref (ad 18))]) hx hb dX10_worked_259 hl (k := 1) rfl (by rw [ex55]; rfl) (of_decide_eq_true rfl) rfl (fun ls hl => ?_)
                          refine lv_goto (tgt := 4) hx hb dX10_worked_262 (of_decide_eq_true rfl) ?_
                          exact by exact ihlp3 x5 x55 σ54 _ _ ls (by have h91 := tx55; omega) (by have h91 := tx55; omega) (by have h91 := tx55; omega) (by have h91 := tx55; omega) (by have h91 := tx55; omega) (fun i hi => ((jnp i eσ54 (imp_33 i hi)).trans (f16 i hi)))    hP hS (lv_sub hl [0, 2, 3] rfl)
                       · exact by
                          have kc53 := jeq c53 rfl jz_0
                          refine lv_iconst (v := 1) hx hb dX10_worked_185 (of_decide_eq_true rfl) ?_
                          refine lv_goto (tgt := 190) hx hb dX10_worked_186 (of_decide_eq_true rfl) ?_
                          refine jast hx hb hK hP hJ hA hS (jc_21 cI cL ad σ9 τ) (ja_21 cI cL ad σ9 τ _ _) (jin tx50 (by omega) (by omega)) dX10_worked_190 (fun σ56 H locs eσ56 hP hS => ?_)
                          refine lv_goto (tgt := 259) hx hb dX10_worked_191 (of_decide_eq_true rfl) ?_
                          obtain ⟨x57, ex57⟩ : ∃ y : Int32, y = x6 + 1 := ⟨_, rfl⟩
                          have tx57 : x57.toInt = x6.toInt + 1 := (jadd ex57 rfl jz_1 (by omega) (by omega)).trans (by omega)
                          refine lv_iinc (v := x57) (lv' := [(2, .int x57), (3, .int x21), (1, .int x5), (0, .ref (ad 18))]) hx hb dX10_worked_259 hl (k := 1) rfl (by rw [ex57]; rfl) (of_decide_eq_true rfl) rfl (fun ls hl => ?_)
                          refine lv_goto (tgt := 4) hx hb dX10_worked_262 (of_decide_eq_true rfl) ?_
                          exact by exact ihlp3 x5 x57 σ56 _ _ ls (by have h91 := tx57; omega) (by have h91 := tx57; omega) (by have h91 := tx57; omega) (by have h91 := tx57; omega) (by have h91 := tx57; omega) (fun i hi => ((jnp i eσ56 (imp_33 i hi)).trans (f16 i hi)))    hP hS (lv_sub hl [0, 2, 3] rfl)
                 · exact by
                    have kc26 := jeq c26 rfl jz_20063
                    refine lv_aload_n hx hb dX10_worked_108 rfl (lv_at hl 3 rfl) ?_
                    refine va_get (D := D) hx hb hts inlX10 hown hK hP 18 (jc_18 cI cL ad σ9 τ) rfl 4 (of_decide_eq_true rfl) (hts _ kw_4_5) (fun _ h9 => h9) rfl dX10_worked_109 ?_
                    refine lv_iload_n hx hb dX10_worked_112 rfl (lv_at hl 2 rfl) ?_
                    refine lv_iconst (v := 1) hx hb dX10_worked_113 (of_decide_eq_true rfl) ?_
                    have g58 := jrg (rfl : x5.toInt = x5.toInt)
                    refine lv_isub hx hb dX10_worked_114 ?_
                    refine lv_topi (fun x59 ex59 => ?_)
                    have tx59 : x59.toInt = x5.toInt - 1 := (jsub ex59 rfl jz_1 (by omega) (by omega)).trans (by omega)
                    exact by
                     refine jald hx hb hK hP (jc_21 cI cL ad σ9 τ) (jin tx59 (by omega) (by omega)) dX10_worked_115 ?_
                     refine lv_topi (fun x60 ex60 => ?_)
                     refine lv_if_eq (tgt := 123) hx hb dX10_worked_116 (of_decide_eq_true rfl) (fun c61 => ?_) (fun c61 => ?_)
                     · have kc61 := jeq c61 rfl jz_0
                       refine lv_iconst (v := 0) hx hb dX10_worked_123 (of_decide_eq_true rfl) ?_
                       refine lv_istore (lv' := [(4, .int 0), (3, .int x21), (2, .int x6), (1, .int x5), (0, .ref (ad 18))]) hx hb dX10_worked_124 hl (of_decide_eq_true rfl) rfl (fun ls hl => ?_)
                       refine lv_iconst (v := 0) hx hb dX10_worked_126 (of_decide_eq_true rfl) ?_
                       refine lv_istore_n (lv' := [(1, .int 0), (4, .int 0), (3, .int x21), (2, .int x6), (0, .ref (ad 18))]) hx hb dX10_worked_127 rfl hl (of_decide_eq_true rfl) rfl (fun ls hl => ?_)
                       obtain ⟨x62, ex62⟩ : ∃ y : Int32, y = x6 + 1 := ⟨_, rfl⟩
                       exact by
                        have tx62 : x62.toInt = x6.toInt + 1 := (jadd ex62 rfl jz_1 (by omega) (by omega)).trans (by omega)
                        refine lv_iinc (v := x62) (lv' := [(2, .int x62), (1, .int 0), (4, .int 0), (3, .int x21), (0, .ref (ad 18))]) hx hb dX10_worked_128 hl (k := 3) rfl (by rw [ex62]; rfl) (of_decide_eq_true rfl) rfl (fun ls hl => ?_)
                        refine lv_iload hx hb dX10_worked_131 (lv_at hl 2 rfl) ?_
                        refine lv_if_ne (tgt := 157) hx hb dX10_worked_133 (of_decide_eq_true rfl) (fun c => absurd (of_decide_eq_true rfl) c) (fun _ => ?_)
                        refine lv_iload_n hx hb dX10_worked_136 rfl (lv_at hl 0 rfl) ?_
                        refine lv_aload_n hx hb dX10_worked_137 rfl (lv_at hl 4 rfl) ?_
                        refine va_get (D := D) hx hb hts inlX10 hown hK hP 18 (jc_18 cI cL ad σ9 τ) rfl 0 (of_decide_eq_true rfl) (hts _ kw_16_20) (fun _ h9 => h9) rfl dX10_worked_138 ?_
                        refine jtopr m17 ?_
                        refine lv_icmp_ge (tgt := 157) hx hb dX10_worked_141 (of_decide_eq_true rfl) (fun c63 => ?_) (fun c63 => ?_)
                        · exact by
                           have kc63 := jle c63 rfl tx62
                           refine lv_goto (tgt := 259) hx hb dX10_worked_157 (of_decide_eq_true rfl) ?_
                           obtain ⟨x64, ex64⟩ : ∃ y : Int32, y = x62 + 1 := ⟨_, rfl⟩
                           have tx64 : x64.toInt = x6.toInt + 2 := (jadd ex64 tx62 jz_1 (by omega) (by omega)).trans (by omega)
                           refine lv_iinc (v := x64) (lv' := [(2, .int x64), (1, .int 0), (4, .int 0), (3, .int x21), (0, .ref (ad 18))]) hx hb dX10_worked_259 hl (k := 0) rfl (by rw [ex64]; rfl) (of_decide_eq_true rfl) rfl (fun ls hl => ?_)
                           refine lv_goto (tgt := 4) hx hb dX10_worked_262 (of_decide_eq_true rfl) ?_
                           exact by exact ihlp3 0 x64 σ9 _ _ ls (by have h90 := jz_0; have h91 := tx64; omega) (by have h90 := jz_0; have h91 := tx64; omega) (by have h90 := jz_0; have h91 := tx64; omega) (by have h90 := jz_0; have h91 := tx64; omega) (by have h90 := jz_0; have h91 := tx64; omega) (fun i hi => (f16 i hi))    hP hS (lv_sub hl [0, 1, 4] rfl)
                        · have kc63 := jnle c63 rfl tx62
                          refine lv_iload_n hx hb dX10_worked_144 rfl (lv_at hl 0 rfl) ?_
                          exact by
                           refine lv_aload_n hx hb dX10_worked_145 rfl (lv_at hl 4 rfl) ?_
                           refine va_get (D := D) hx hb hts inlX10 hown hK hP 18 (jc_18 cI cL ad σ9 τ) rfl 2 (of_decide_eq_true rfl) (hts _ kw_4_3) (fun _ h9 => h9) rfl dX10_worked_146 ?_
                           refine lv_iload_n hx hb dX10_worked_149 rfl (lv_at hl 0 rfl) ?_
                           refine jald hx hb hK hP (jc_19 cI cL ad σ9 τ) (jin tx62 (by omega) (by omega)) dX10_worked_150 ?_
                           have g65 := w19 _ (jnat (x := x62) tx62 (n := 160) (by omega) (of_decide_eq_true rfl))
                           refine lv_topi (fun x66 ex66 => ?_)
                           rw [← ex66] at g65
                           refine lv_iconst (v := 1) hx hb dX10_worked_151 (of_decide_eq_true rfl) ?_
                           have g67 := jrg (rfl : x66.toInt = x66.toInt)
                           exact by
                            refine lv_isub hx hb dX10_worked_152 ?_
                            refine lv_topi (fun x68 ex68 => ?_)
                            have tx68 : x68.toInt = x66.toInt - 1 := (jsub ex68 rfl jz_1 (by omega) (by omega)).trans (by omega)
                            refine va_mmax hx hb (hml.trans hl.1.symm) hown (hts _ kw_22_21) (hts _ kw_21_0) (hts _ kw_21_1) (hts _ kw_21_2) (Nat.le_of_ble_eq_true rfl) (Nat.le_of_ble_eq_true rfl) (Nat.le_of_ble_eq_true rfl) (Nat.le_of_ble_eq_true rfl) dX10_worked_153 ?_
                            refine lv_topi (fun x69 ex69 => ?_)
                            have g70 := jmax ex69 tx62 tx68
                            refine lv_istore_n (lv' := [(2, .int x69), (1, .int 0), (4, .int 0), (3, .int x21), (0, .ref (ad 18))]) hx hb dX10_worked_156 rfl hl (of_decide_eq_true rfl) rfl (fun ls hl => ?_)
                            refine lv_goto (tgt := 259) hx hb dX10_worked_157 (of_decide_eq_true rfl) ?_
                            obtain ⟨x71, ex71⟩ : ∃ y : Int32, y = x69 + 1 := ⟨_, rfl⟩
                            exact by
                             have tx71 : x71.toInt = x69.toInt + 1 := (jadd ex71 rfl jz_1 (by omega) (by omega)).trans (by omega)
                             refine lv_iinc (v := x71) (lv' := [(2, .int x71), (1, .int 0), (4, .int 0), (3, .int x21), (0, .ref (ad 18))]) hx hb dX10_worked_259 hl (k := 0) rfl (by rw [ex71]; rfl) (of_decide_eq_true rfl) rfl (fun ls hl => ?_)
                             refine lv_goto (tgt := 4) hx hb dX10_worked_262 (of_decide_eq_true rfl) ?_
                             exact by exact ihlp3 0 x71 σ9 _ _ ls (by have h90 := jz_0; have h91 := tx71; omega) (by have h90 := jz_0; have h91 := tx71; omega) (by have h90 := jz_0; have h91 := tx71; omega) (by have h90 := jz_0; have h91 := tx71; omega) (by have h90 := jz_0; have h91 := tx71; omega) (fun i hi => (f16 i hi))    hP hS (lv_sub hl [0, 1, 4] rfl)
                     · have kc61 := jne c61 rfl jz_0
                       refine lv_iconst (v := 1) hx hb dX10_worked_119 (of_decide_eq_true rfl) ?_
                       refine lv_goto (tgt := 124) hx hb dX10_worked_120 (of_decide_eq_true rfl) ?_
                       refine lv_istore (lv' := [(4, .int 1), (3, .int x21), (2, .int x6), (1, .int x5), (0, .ref (ad 18))]) hx hb dX10_worked_124 hl (of_decide_eq_true rfl) rfl (fun ls hl => ?_)
                       refine lv_iconst (v := 0) hx hb dX10_worked_126 (of_decide_eq_true rfl) ?_
                       exact by
                        refine lv_istore_n (lv' := [(1, .int 0), (4, .int 1), (3, .int x21), (2, .int x6), (0, .ref (ad 18))]) hx hb dX10_worked_127 rfl hl (of_decide_eq_true rfl) rfl (fun ls hl => ?_)
                        obtain ⟨x72, ex72⟩ : ∃ y : Int32, y = x6 + 1 := ⟨_, rfl⟩
                        have tx72 : x72.toInt = x6.toInt + 1 := (jadd ex72 rfl jz_1 (by omega) (by omega)).trans (by omega)
                        refine lv_iinc (v := x72) (lv' := [(2, .int x72), (1, .int 0), (4, .int 1), (3, .int x21), (0, .ref (ad 18))]) hx hb dX10_worked_128 hl (k := 3) rfl (by rw [ex72]; rfl) (of_decide_eq_true rfl) rfl (fun ls hl => ?_)
                        refine lv_iload hx hb dX10_worked_131 (lv_at hl 2 rfl) ?_
                        refine lv_if_ne (tgt := 157) hx hb dX10_worked_133 (of_decide_eq_true rfl) (fun _ => ?_) (fun c => absurd c (of_decide_eq_true rfl))
                        refine lv_goto (tgt := 259) hx hb dX10_worked_157 (of_decide_eq_true rfl) ?_
                        obtain ⟨x73, ex73⟩ : ∃ y : Int32, y = x72 + 1 := ⟨_, rfl⟩
                        have tx73 : x73.toInt = x6.toInt + 2 := (jadd ex73 tx72 jz_1 (by omega) (by omega)).trans (by omega)
                        exact by
                         refine lv_iinc (v := x73) (lv' := [(2, .int x73), (1, .int 0), (4, .int 1), (3, .int x21), (0, .ref (ad 18))]) hx hb dX10_worked_259 hl (k := 0) rfl (by rw [ex73]; rfl) (of_decide_eq_true rfl) rfl (fun ls hl => ?_)
                         refine lv_goto (tgt := 4) hx hb dX10_worked_262 (of_decide_eq_true rfl) ?_
                         exact by exact ihlp3 0 x73 σ9 _ _ ls (by have h90 := jz_0; have h91 := tx73; omega) (by have h90 := jz_0; have h91 := tx73; omega) (by have h90 := jz_0; have h91 := tx73; omega) (by have h90 := jz_0; have h91 := tx73; omega) (by have h90 := jz_0; have h91 := tx73; omega) (fun i hi => (f16 i hi))    hP hS (lv_sub hl [0, 1, 4] rfl)
               · have kc25 := jeq c25 rfl jz_20059
                 refine lv_iload_n hx hb dX10_worked_83 rfl (lv_at hl 2 rfl) ?_
                 refine lv_iconst (v := 1) hx hb dX10_worked_84 (of_decide_eq_true rfl) ?_
                 refine lv_icmp_ge (tgt := 92) hx hb dX10_worked_85 (of_decide_eq_true rfl) (fun c74 => ?_) (fun c => absurd (jnle c jz_1 rfl) (by omega))
                 have kc74 := jle c74 jz_1 rfl
                 refine lv_aload_n hx hb dX10_worked_92 rfl (lv_at hl 3 rfl) ?_
                 exact by
                  refine va_get (D := D) hx hb hts inlX10 hown hK hP 18 (jc_18 cI cL ad σ9 τ) rfl 4 (of_decide_eq_true rfl) (hts _ kw_4_5) (fun _ h9 => h9) rfl dX10_worked_93 ?_
                  refine lv_iload_n hx hb dX10_worked_96 rfl (lv_at hl 2 rfl) ?_
                  refine lv_iconst (v := 1) hx hb dX10_worked_97 (of_decide_eq_true rfl) ?_
                  have g75 := jrg (rfl : x5.toInt = x5.toInt)
                  refine lv_isub hx hb dX10_worked_98 ?_
                  refine lv_topi (fun x76 ex76 => ?_)
                  have tx76 : x76.toInt = x5.toInt - 1 := (jsub ex76 rfl jz_1 (by omega) (by omega)).trans (by omega)
                  refine jald hx hb hK hP (jc_21 cI cL ad σ9 τ) (jin tx76 (by omega) (by omega)) dX10_worked_99 ?_
                  refine lv_topi (fun x77 ex77 => ?_)
                  exact hret x77 σ9 τ _ _ _ _ rfl ⟨rfl, (fun i hi => (f16 i hi)), trivial⟩ hP hS dX10_worked_100
          · exact by
             have kc22 := jnle c22 jz_20000 rfl
             refine lv_iload_n hx hb dX10_worked_26 rfl (lv_at hl 2 rfl) ?_
             refine lv_sipush (v := 160) hx hb dX10_worked_27 (of_decide_eq_true rfl) ?_
             refine lv_icmp_lt (tgt := 35) hx hb dX10_worked_30 (of_decide_eq_true rfl) (fun c78 => ?_) (fun c78 => ?_)
             · have kc78 := jlt c78 rfl jz_160
               refine lv_aload_n hx hb dX10_worked_35 rfl (lv_at hl 3 rfl) ?_
               refine va_get (D := D) hx hb hts inlX10 hown hK hP 18 (jc_18 cI cL ad σ9 τ) rfl 4 (of_decide_eq_true rfl) (hts _ kw_4_5) (fun _ h9 => h9) rfl dX10_worked_36 ?_
               refine lv_iload_n hx hb dX10_worked_39 rfl (lv_at hl 2 rfl) ?_
               obtain ⟨x79, ex79⟩ : ∃ y : Int32, y = x5 + 1 := ⟨_, rfl⟩
               exact by
                have tx79 : x79.toInt = x5.toInt + 1 := (jadd ex79 rfl jz_1 (by omega) (by omega)).trans (by omega)
                refine lv_iinc (v := x79) (lv' := [(1, .int x79), (3, .int x21), (2, .int x6), (0, .ref (ad 18))]) hx hb dX10_worked_40 hl (k := 2) rfl (by rw [ex79]; rfl) (of_decide_eq_true rfl) rfl (fun ls hl => ?_)
                refine lv_iload_n hx hb dX10_worked_43 rfl (lv_at hl 1 rfl) ?_
                refine lv_sipush (v := 10000) hx hb dX10_worked_44 (of_decide_eq_true rfl) ?_
                refine lv_icmp_ge (tgt := 54) hx hb dX10_worked_47 (of_decide_eq_true rfl) (fun c80 => ?_) (fun c80 => ?_)
                · have kc80 := jle c80 jz_10000 rfl
                  refine lv_aload_n hx hb dX10_worked_54 rfl (lv_at hl 3 rfl) ?_
                  refine va_get (D := D) hx hb hts inlX10 hown hK hP 18 (jc_18 cI cL ad σ9 τ) rfl 3 (of_decide_eq_true rfl) (hts _ kw_4_4) (fun _ h9 => h9) rfl dX10_worked_55 ?_
                  refine lv_iload_n hx hb dX10_worked_58 rfl (lv_at hl 1 rfl) ?_
                  exact by
                   refine lv_sipush (v := 10000) hx hb dX10_worked_59 (of_decide_eq_true rfl) ?_
                   have g81 := jrg (rfl : x21.toInt = x21.toInt)
                   refine lv_isub hx hb dX10_worked_62 ?_
                   refine lv_topi (fun x82 ex82 => ?_)
                   have tx82 : x82.toInt = x21.toInt - 10000 := (jsub ex82 rfl jz_10000 (by omega) (by omega)).trans (by omega)
                   refine lv_bipush (v := 7) hx hb dX10_worked_63 (of_decide_eq_true rfl) ?_
                   refine lv_iand hx hb dX10_worked_65 ?_
                   refine lv_topi (fun x83 ex83 => ?_)
                   have gx83 := jrg (rfl : x83.toInt = x83.toInt)
                   exact by
                    have g84 : 0 ≤ x83.toInt ∧ x83.toInt ≤ 7 := jmask ex83 3 (of_decide_eq_true rfl) (of_decide_eq_true rfl)
                    refine jald hx hb hK hP (jc_20 cI cL ad σ9 τ) (jin rfl (by omega) (by omega)) dX10_worked_66 ?_
                    refine lv_topi (fun x85 ex85 => ?_)
                    refine jast hx hb hK hP hJ hA hS (jc_21 cI cL ad σ9 τ) (ja_21 cI cL ad σ9 τ _ _) (jin rfl (by omega) (by omega)) dX10_worked_67 (fun σ86 H locs eσ86 hP hS => ?_)
                    refine lv_goto (tgt := 259) hx hb dX10_worked_68 (of_decide_eq_true rfl) ?_
                    obtain ⟨x87, ex87⟩ : ∃ y : Int32, y = x6 + 1 := ⟨_, rfl⟩
                    have tx87 : x87.toInt = x6.toInt + 1 := (jadd ex87 rfl jz_1 (by omega) (by omega)).trans (by omega)
                    refine lv_iinc (v := x87) (lv' := [(2, .int x87), (1, .int x79), (3, .int x21), (0, .ref (ad 18))]) hx hb dX10_worked_259 hl (k := 2) rfl (by rw [ex87]; rfl) (of_decide_eq_true rfl) rfl (fun ls hl => ?_)
                    refine lv_goto (tgt := 4) hx hb dX10_worked_262 (of_decide_eq_true rfl) ?_
                    exact by exact ihlp3 x79 x87 σ86 _ _ ls (by have h90 := tx79; have h91 := tx87; omega) (by have h90 := tx79; have h91 := tx87; omega) (by have h90 := tx79; have h91 := tx87; omega) (by have h90 := tx79; have h91 := tx87; omega) (by have h90 := tx79; have h91 := tx87; omega) (fun i hi => ((jnp i eσ86 (imp_33 i hi)).trans (f16 i hi)))    hP hS (lv_sub hl [0, 1, 3] rfl)
                · exact by
                   have kc80 := jnle c80 jz_10000 rfl
                   refine lv_iload_n hx hb dX10_worked_50 rfl (lv_at hl 1 rfl) ?_
                   refine lv_goto (tgt := 67) hx hb dX10_worked_51 (of_decide_eq_true rfl) ?_
                   refine jast hx hb hK hP hJ hA hS (jc_21 cI cL ad σ9 τ) (ja_21 cI cL ad σ9 τ _ _) (jin rfl (by omega) (by omega)) dX10_worked_67 (fun σ88 H locs eσ88 hP hS => ?_)
                   refine lv_goto (tgt := 259) hx hb dX10_worked_68 (of_decide_eq_true rfl) ?_
                   obtain ⟨x89, ex89⟩ : ∃ y : Int32, y = x6 + 1 := ⟨_, rfl⟩
                   have tx89 : x89.toInt = x6.toInt + 1 := (jadd ex89 rfl jz_1 (by omega) (by omega)).trans (by omega)
                   refine lv_iinc (v := x89) (lv' := [(2, .int x89), (1, .int x79), (3, .int x21), (0, .ref (ad 18))]) hx hb dX10_worked_259 hl (k := 2) rfl (by rw [ex89]; rfl) (of_decide_eq_true rfl) rfl (fun ls hl => ?_)
                   refine lv_goto (tgt := 4) hx hb dX10_worked_262 (of_decide_eq_true rfl) ?_
                   exact by exact ihlp3 x79 x89 σ88 _ _ ls (by have h90 := tx79; have h91 := tx89; omega) (by have h90 := tx79; have h91 := tx89; omega) (by have h90 := tx79; have h91 := tx89; omega) (by have h90 := tx79; have h91 := tx89; omega) (by have h90 := tx79; have h91 := tx89; omega) (fun i hi => ((jnp i eσ88 (imp_33 i hi)).trans (f16 i hi)))    hP hS (lv_sub hl [0, 1, 3] rfl)
             · exact by
                have kc78 := jnlt c78 rfl jz_160
                refine lv_iconst (v := 0) hx hb dX10_worked_33 (of_decide_eq_true rfl) ?_
                exact hret 0 σ9 τ _ _ _ _ rfl ⟨rfl, (fun i hi => (f16 i hi)), trivial⟩ hP hS dX10_worked_34
  exact by exact lp3 1000000 0 0 σ _ _ ls (by have h90 := jz_0; have h91 := jz_0; omega) (by have h90 := jz_0; have h91 := jz_0; omega) (by have h90 := jz_0; have h91 := jz_0; omega) (by have h90 := jz_0; have h91 := jz_0; omega) (by have h90 := jz_0; have h91 := jz_0; omega) (fun _ _ => rfl)   hP hS hl
set_option maxHeartbeats 4000000 in
set_option maxRecDepth 100000 in
theorem c_X10_worked_22 (l : Launch) (D : va_G) (cI cL : ClassId) (ad zz : Nat → Nat) (hJ : jD ad) (σ : Nat → Nat → Int32) (τ : Nat → Nat → Int64) (hI22 : jI22 σ) : jM l yX10_worked cX10_worked 5 (some .int) ({ frames := 1, cells := 0, slots := 0, locals := 22 }) D cI cL ad zz [.ref (ad 22)] σ τ (fun r σ' τ' => τ = τ' ∧ (∀ i : Nat, (i < 25 ∨ 25 < i) → σ' i = σ i) ∧ True) := by
  refine jM.of hJ (by decide +kernel) (nt := .int) rfl (Nat.le_of_ble_eq_true rfl) ?_
  intro p e s m args below meth c Q ls hC hret hl hP
  obtain ⟨hx, hb, hr, hml, hown, hts, hK, -, hlocks, hZ⟩ := hC
  have hown : s.vm.findClass RX10 = some m.cls := hown
  have hS : va_S (jA ad) s.heap s.heap [] := va_S.rf
  have hA : ∀ q, jA ad q → jA ad q := fun _ h => h
  have hl : lv_has ls 5 [(0, .ref (ad 22))] := hl
  obtain ⟨i1, w2⟩ : (0 ≤ (σ 22 0).toInt ∧ (σ 22 0).toInt ≤ 160) ∧ (∀ k : Nat, k < 160 → 0 ≤ (σ 23 k).toInt ∧ (σ 23 k).toInt ≤ 30000) := id hI22
  refine lv_iconst (v := 0) hx hb dX10_worked_0 (of_decide_eq_true rfl) ?_
  refine lv_istore_n (lv' := [(1, .int 0), (0, .ref (ad 22))]) hx hb dX10_worked_1 rfl hl (of_decide_eq_true rfl) rfl (fun ls hl => ?_)
  refine lv_iconst (v := 0) hx hb dX10_worked_2 (of_decide_eq_true rfl) ?_
  refine lv_istore_n (lv' := [(2, .int 0), (1, .int 0), (0, .ref (ad 22))]) hx hb dX10_worked_3 rfl hl (of_decide_eq_true rfl) rfl (fun ls hl => ?_)
  have lp3 : ∀ (n4 : Nat) (x5 : Int32) (x6 : Int32) (σ9 : Nat → Nat → Int32) (H : Heap) (locs : List Loc) (ls : Array Slot), (-x6.toInt + 30001 : Int) < n4 → 0 ≤ x5.toInt → x5.toInt ≤ 160 → 0 ≤ x6.toInt → x6.toInt ≤ 30000 → (∀ i : Nat, (i < 25 ∨ 25 < i) → σ9 i = σ i) → jH D cI cL ad σ9 τ H → va_S (jA ad) s.heap H locs → lv_has ls 5 [(2, .int x6), (1, .int x5), (0, .ref (ad 22))] → W p l e ({ frames := 1, cells := 0, slots := 0, locals := 22 }) s m args below meth c H locs 0 0 Q (F0 m 4 ls []) := by
    intro n4
    induction n4 with
    | zero => intro x5 x6 σ9 H locs ls h11 h12 h13 h14 h15; exact absurd h11 (by omega)
    | succ n4 ihlp3 =>
      intro x5 x6 σ9 H locs ls h11 h12 h13 h14 h15 f16 hP hS hl
      exact by
       refine lv_iload_n hx hb dX10_worked_4 rfl (lv_at hl 0 rfl) ?_
       refine lv_aload_n hx hb dX10_worked_5 rfl (lv_at hl 2 rfl) ?_
       refine va_get (D := D) hx hb hts inlX10 hown hK hP 22 (jc_22 cI cL ad σ9 τ) rfl 0 (of_decide_eq_true rfl) (hts _ kw_16_20) (fun _ h9 => h9) rfl dX10_worked_6 ?_
       have m17 : σ9 22 0 = (σ 22 0) := (congrFun (f16 22 (of_decide_eq_true rfl)) 0)
       refine jtopr m17 ?_
       refine lv_icmp_ge (tgt := 265) hx hb dX10_worked_9 (of_decide_eq_true rfl) (fun c18 => ?_) (fun c18 => ?_)
       · have kc18 := jle c18 rfl rfl
         refine lv_iconst (v := 0) hx hb dX10_worked_265 (of_decide_eq_true rfl) ?_
         exact hret 0 σ9 τ _ _ _ _ rfl ⟨rfl, (fun i hi => (f16 i hi)), trivial⟩ hP hS dX10_worked_266
       · have kc18 := jnle c18 rfl rfl
         refine lv_aload_n hx hb dX10_worked_12 rfl (lv_at hl 2 rfl) ?_
         refine va_get (D := D) hx hb hts inlX10 hown hK hP 22 (jc_22 cI cL ad σ9 τ) rfl 2 (of_decide_eq_true rfl) (hts _ kw_4_3) (fun _ h9 => h9) rfl dX10_worked_13 ?_
         refine lv_iload_n hx hb dX10_worked_16 rfl (lv_at hl 0 rfl) ?_
         exact by
          refine jald hx hb hK hP (jc_23 cI cL ad σ9 τ) (jin rfl (by omega) (by omega)) dX10_worked_17 ?_
          have w19 : ∀ k : Nat, k < 160 → 0 ≤ (σ9 23 k).toInt ∧ (σ9 23 k).toInt ≤ 30000 := (jrr_fr (f16 23 (of_decide_eq_true rfl)) w2)
          have g20 := w19 _ (jnat (x := x6) rfl (n := 160) (by omega) (of_decide_eq_true rfl))
          refine lv_topi (fun x21 ex21 => ?_)
          rw [← ex21] at g20
          refine lv_istore_n (lv' := [(3, .int x21), (2, .int x6), (1, .int x5), (0, .ref (ad 22))]) hx hb dX10_worked_18 rfl hl (of_decide_eq_true rfl) rfl (fun ls hl => ?_)
          refine lv_iload_n hx hb dX10_worked_19 rfl (lv_at hl 0 rfl) ?_
          refine lv_sipush (v := 20000) hx hb dX10_worked_20 (of_decide_eq_true rfl) ?_
          refine lv_icmp_ge (tgt := 71) hx hb dX10_worked_23 (of_decide_eq_true rfl) (fun c22 => ?_) (fun c22 => ?_)
          · exact by
             have kc22 := jle c22 jz_20000 rfl
             refine lv_iload_n hx hb dX10_worked_71 rfl (lv_at hl 2 rfl) ?_
             refine lv_iconst (v := 1) hx hb dX10_worked_72 (of_decide_eq_true rfl) ?_
             refine lv_icmp_lt (tgt := 83) hx hb dX10_worked_73 (of_decide_eq_true rfl) (fun c23 => ?_) (fun c23 => ?_)
             · have kc23 := jlt c23 rfl jz_1
               refine lv_iload_n hx hb dX10_worked_83 rfl (lv_at hl 2 rfl) ?_
               refine lv_iconst (v := 1) hx hb dX10_worked_84 (of_decide_eq_true rfl) ?_
               refine lv_icmp_ge (tgt := 92) hx hb dX10_worked_85 (of_decide_eq_true rfl) (fun c => absurd (jle c jz_1 rfl) (by omega)) (fun c24 => ?_)
               have kc24 := jnle c24 jz_1 rfl
               exact by
                refine lv_iconst (v := 0) hx hb dX10_worked_88 (of_decide_eq_true rfl) ?_
                refine lv_goto (tgt := 100) hx hb dX10_worked_89 (of_decide_eq_true rfl) ?_
                exact hret 0 σ9 τ _ _ _ _ rfl ⟨rfl, (fun i hi => (f16 i hi)), trivial⟩ hP hS dX10_worked_100
             · have kc23 := jnlt c23 rfl jz_1
               refine lv_iload_n hx hb dX10_worked_76 rfl (lv_at hl 0 rfl) ?_
               refine lv_sipush (v := 20059) hx hb dX10_worked_77 (of_decide_eq_true rfl) ?_
               refine lv_icmp_ne (tgt := 101) hx hb dX10_worked_80 (of_decide_eq_true rfl) (fun c25 => ?_) (fun c25 => ?_)
               · have kc25 := jne c25 rfl jz_20059
                 refine lv_iload_n hx hb dX10_worked_101 rfl (lv_at hl 0 rfl) ?_
                 refine lv_sipush (v := 20063) hx hb dX10_worked_102 (of_decide_eq_true rfl) ?_
                 refine lv_icmp_ne (tgt := 160) hx hb dX10_worked_105 (of_decide_eq_true rfl) (fun c26 => ?_) (fun c26 => ?_)
                 · have kc26 := jne c26 rfl jz_20063
                   refine lv_iload_n hx hb dX10_worked_160 rfl (lv_at hl 0 rfl) ?_
                   refine lv_sipush (v := 20033) hx hb dX10_worked_161 (of_decide_eq_true rfl) ?_
                   refine lv_icmp_ne (tgt := 194) hx hb dX10_worked_164 (of_decide_eq_true rfl) (fun c27 => ?_) (fun c27 => ?_)
                   · have kc27 := jne c27 rfl jz_20033
                     refine lv_iload_n hx hb dX10_worked_194 rfl (lv_at hl 0 rfl) ?_
                     refine lv_sipush (v := 20126) hx hb dX10_worked_195 (of_decide_eq_true rfl) ?_
                     refine lv_icmp_ne (tgt := 221) hx hb dX10_worked_198 (of_decide_eq_true rfl) (fun c28 => ?_) (fun c28 => ?_)
                     · have kc28 := jne c28 rfl jz_20126
                       refine lv_iload_n hx hb dX10_worked_221 rfl (lv_at hl 2 rfl) ?_
                       refine lv_iconst (v := 1) hx hb dX10_worked_222 (of_decide_eq_true rfl) ?_
                       refine lv_icmp_le (tgt := 259) hx hb dX10_worked_223 (of_decide_eq_true rfl) (fun c29 => ?_) (fun c29 => ?_)
                       · have kc29 := jle c29 rfl jz_1
                         obtain ⟨x30, ex30⟩ : ∃ y : Int32, y = x6 + 1 := ⟨_, rfl⟩
                         exact by
                          have tx30 : x30.toInt = x6.toInt + 1 := (jadd ex30 rfl jz_1 (by omega) (by omega)).trans (by omega)
                          refine lv_iinc (v := x30) (lv' := [(2, .int x30), (3, .int x21), (1, .int x5), (0, .ref (ad 22))]) hx hb dX10_worked_259 hl (k := 1) rfl (by rw [ex30]; rfl) (of_decide_eq_true rfl) rfl (fun ls hl => ?_)
                          refine lv_goto (tgt := 4) hx hb dX10_worked_262 (of_decide_eq_true rfl) ?_
                          exact by exact ihlp3 x5 x30 σ9 _ _ ls (by have h91 := tx30; omega) (by have h91 := tx30; omega) (by have h91 := tx30; omega) (by have h91 := tx30; omega) (by have h91 := tx30; omega) (fun i hi => (f16 i hi))    hP hS (lv_sub hl [0, 2, 3] rfl)
                       · have kc29 := jnle c29 rfl jz_1
                         obtain ⟨x31, ex31⟩ : ∃ y : Int32, y = x5 + (-1) := ⟨_, rfl⟩
                         have tx31 : x31.toInt = x5.toInt - 1 := (jadd ex31 rfl jz_m1 (by omega) (by omega)).trans (by omega)
                         refine lv_iinc (v := x31) (lv' := [(1, .int x31), (3, .int x21), (2, .int x6), (0, .ref (ad 22))]) hx hb dX10_worked_226 hl (k := 2) rfl (by rw [ex31]; rfl) (of_decide_eq_true rfl) rfl (fun ls hl => ?_)
                         refine lv_aload_n hx hb dX10_worked_229 rfl (lv_at hl 3 rfl) ?_
                         exact by
                          refine va_get (D := D) hx hb hts inlX10 hown hK hP 22 (jc_22 cI cL ad σ9 τ) rfl 4 (of_decide_eq_true rfl) (hts _ kw_4_5) (fun _ h9 => h9) rfl dX10_worked_230 ?_
                          refine lv_iload_n hx hb dX10_worked_233 rfl (lv_at hl 0 rfl) ?_
                          refine lv_iconst (v := 1) hx hb dX10_worked_234 (of_decide_eq_true rfl) ?_
                          refine lv_isub hx hb dX10_worked_235 ?_
                          refine lv_topi (fun x32 ex32 => ?_)
                          have tx32 : x32.toInt = x5.toInt - 2 := (jsub ex32 tx31 jz_1 (by omega) (by omega)).trans (by omega)
                          refine lv_iload_n hx hb dX10_worked_236 rfl (lv_at hl 1 rfl) ?_
                          refine lv_sipush (v := 20000) hx hb dX10_worked_237 (of_decide_eq_true rfl) ?_
                          have g33 := jrg (rfl : x21.toInt = x21.toInt)
                          exact by
                           refine lv_isub hx hb dX10_worked_240 ?_
                           refine lv_topi (fun x34 ex34 => ?_)
                           have tx34 : x34.toInt = x21.toInt - 20000 := (jsub ex34 rfl jz_20000 (by omega) (by omega)).trans (by omega)
                           refine lv_aload_n hx hb dX10_worked_241 rfl (lv_at hl 3 rfl) ?_
                           refine va_get (D := D) hx hb hts inlX10 hown hK hP 22 (jc_22 cI cL ad σ9 τ) rfl 4 (of_decide_eq_true rfl) (hts _ kw_4_5) (fun _ h9 => h9) rfl dX10_worked_242 ?_
                           refine lv_iload_n hx hb dX10_worked_245 rfl (lv_at hl 0 rfl) ?_
                           refine lv_iconst (v := 1) hx hb dX10_worked_246 (of_decide_eq_true rfl) ?_
                           refine lv_isub hx hb dX10_worked_247 ?_
                           refine lv_topi (fun x35 ex35 => ?_)
                           exact by
                            have tx35 : x35.toInt = x5.toInt - 2 := (jsub ex35 tx31 jz_1 (by omega) (by omega)).trans (by omega)
                            refine jald hx hb hK hP (jc_25 cI cL ad σ9 τ) (jin tx35 (by omega) (by omega)) dX10_worked_248 ?_
                            refine lv_topi (fun x36 ex36 => ?_)
                            refine lv_aload_n hx hb dX10_worked_249 rfl (lv_at hl 3 rfl) ?_
                            refine va_get (D := D) hx hb hts inlX10 hown hK hP 22 (jc_22 cI cL ad σ9 τ) rfl 4 (of_decide_eq_true rfl) (hts _ kw_4_5) (fun _ h9 => h9) rfl dX10_worked_250 ?_
                            refine lv_iload_n hx hb dX10_worked_253 rfl (lv_at hl 0 rfl) ?_
                            refine jald hx hb hK hP (jc_25 cI cL ad σ9 τ) (jin tx31 (by omega) (by omega)) dX10_worked_254 ?_
                            refine lv_topi (fun x37 ex37 => ?_)
                            refine jcallS (As := [.int x34, .int x36, .int x37]) (rest := [.int x32, .ref (ad 25)]) ⟨hx, hb, hml, hown, hts⟩ hK hP hA hS hZ (c_X10_joined l D cI cL ad zz hJ σ9 τ x34 (x21.toInt - 20000) tx34 x36 (x36.toInt) rfl x37 (x37.toInt) rfl) cw_RX10_38 ⟨Nat.le_of_ble_eq_true rfl, Nat.le_of_ble_eq_true rfl⟩ rfl rfl rfl hl.1 rfl (Nat.le_of_ble_eq_true rfl) dX10_worked_255 ⟨Nat.zero_le _, Nat.zero_le _⟩ (fun r39 σ38 τ38 H locs h38 hP hS => ?_)
                            exact by
                             obtain ⟨⟨rfl, rfl⟩, h38⟩ := h38
                             refine jast hx hb hK hP hJ hA hS (jc_25 cI cL ad σ9 τ) (ja_25 cI cL ad σ9 τ _ _) (jin tx32 (by omega) (by omega)) dX10_worked_258 (fun σ40 H locs eσ40 hP hS => ?_)
                             obtain ⟨x41, ex41⟩ : ∃ y : Int32, y = x6 + 1 := ⟨_, rfl⟩
                             have tx41 : x41.toInt = x6.toInt + 1 := (jadd ex41 rfl jz_1 (by omega) (by omega)).trans (by omega)
                             refine lv_iinc (v := x41) (lv' := [(2, .int x41), (1, .int x31), (3, .int x21), (0, .ref (ad 22))]) hx hb dX10_worked_259 hl (k := 2) rfl (by rw [ex41]; rfl) (of_decide_eq_true rfl) rfl (fun ls hl => ?_)
                             refine lv_goto (tgt := 4) hx hb dX10_worked_262 (of_decide_eq_true rfl) ?_
                             exact by exact ihlp3 x31 x41 σ40 _ _ ls (by have h90 := tx31; have h91 := tx41; omega) (by have h90 := tx31; have h91 := tx41; omega) (by have h90 := tx31; have h91 := tx41; omega) (by have h90 := tx31; have h91 := tx41; omega) (by have h90 := tx31; have h91 := tx41; omega) (fun i hi => ((jnp i eσ40 (imp_34 i hi)).trans (f16 i hi)))    hP hS (lv_sub hl [0, 1, 3] rfl)
                     · have kc28 := jeq c28 rfl jz_20126
                       refine lv_aload_n hx hb dX10_worked_201 rfl (lv_at hl 3 rfl) ?_
                       exact by
                        refine va_get (D := D) hx hb hts inlX10 hown hK hP 22 (jc_22 cI cL ad σ9 τ) rfl 4 (of_decide_eq_true rfl) (hts _ kw_4_5) (fun _ h9 => h9) rfl dX10_worked_202 ?_
                        refine lv_iload_n hx hb dX10_worked_205 rfl (lv_at hl 2 rfl) ?_
                        refine lv_iconst (v := 1) hx hb dX10_worked_206 (of_decide_eq_true rfl) ?_
                        have g42 := jrg (rfl : x5.toInt = x5.toInt)
                        refine lv_isub hx hb dX10_worked_207 ?_
                        refine lv_topi (fun x43 ex43 => ?_)
                        have tx43 : x43.toInt = x5.toInt - 1 := (jsub ex43 rfl jz_1 (by omega) (by omega)).trans (by omega)
                        refine lv_aload_n hx hb dX10_worked_208 rfl (lv_at hl 3 rfl) ?_
                        refine va_get (D := D) hx hb hts inlX10 hown hK hP 22 (jc_22 cI cL ad σ9 τ) rfl 4 (of_decide_eq_true rfl) (hts _ kw_4_5) (fun _ h9 => h9) rfl dX10_worked_209 ?_
                        exact by
                         refine lv_iload_n hx hb dX10_worked_212 rfl (lv_at hl 2 rfl) ?_
                         refine lv_iconst (v := 1) hx hb dX10_worked_213 (of_decide_eq_true rfl) ?_
                         refine lv_isub hx hb dX10_worked_214 ?_
                         refine lv_topi (fun x44 ex44 => ?_)
                         have tx44 : x44.toInt = x5.toInt - 1 := (jsub ex44 rfl jz_1 (by omega) (by omega)).trans (by omega)
                         refine jald hx hb hK hP (jc_25 cI cL ad σ9 τ) (jin tx44 (by omega) (by omega)) dX10_worked_215 ?_
                         refine lv_topi (fun x45 ex45 => ?_)
                         refine lv_ineg hx hb dX10_worked_216 ?_
                         refine lv_topi (fun x46 ex46 => ?_)
                         exact by
                          have gx46 := jrg (rfl : x46.toInt = x46.toInt)
                          refine jast hx hb hK hP hJ hA hS (jc_25 cI cL ad σ9 τ) (ja_25 cI cL ad σ9 τ _ _) (jin tx43 (by omega) (by omega)) dX10_worked_217 (fun σ47 H locs eσ47 hP hS => ?_)
                          refine lv_goto (tgt := 259) hx hb dX10_worked_218 (of_decide_eq_true rfl) ?_
                          obtain ⟨x48, ex48⟩ : ∃ y : Int32, y = x6 + 1 := ⟨_, rfl⟩
                          have tx48 : x48.toInt = x6.toInt + 1 := (jadd ex48 rfl jz_1 (by omega) (by omega)).trans (by omega)
                          refine lv_iinc (v := x48) (lv' := [(2, .int x48), (3, .int x21), (1, .int x5), (0, .ref (ad 22))]) hx hb dX10_worked_259 hl (k := 1) rfl (by rw [ex48]; rfl) (of_decide_eq_true rfl) rfl (fun ls hl => ?_)
                          refine lv_goto (tgt := 4) hx hb dX10_worked_262 (of_decide_eq_true rfl) ?_
                          exact by exact ihlp3 x5 x48 σ47 _ _ ls (by have h91 := tx48; omega) (by have h91 := tx48; omega) (by have h91 := tx48; omega) (by have h91 := tx48; omega) (by have h91 := tx48; omega) (fun i hi => ((jnp i eσ47 (imp_34 i hi)).trans (f16 i hi)))    hP hS (lv_sub hl [0, 2, 3] rfl)
                   · have kc27 := jeq c27 rfl jz_20033
                     exact by
                      refine lv_aload_n hx hb dX10_worked_167 rfl (lv_at hl 3 rfl) ?_
                      refine va_get (D := D) hx hb hts inlX10 hown hK hP 22 (jc_22 cI cL ad σ9 τ) rfl 4 (of_decide_eq_true rfl) (hts _ kw_4_5) (fun _ h9 => h9) rfl dX10_worked_168 ?_
                      refine lv_iload_n hx hb dX10_worked_171 rfl (lv_at hl 2 rfl) ?_
                      refine lv_iconst (v := 1) hx hb dX10_worked_172 (of_decide_eq_true rfl) ?_
                      have g49 := jrg (rfl : x5.toInt = x5.toInt)
                      refine lv_isub hx hb dX10_worked_173 ?_
                      refine lv_topi (fun x50 ex50 => ?_)
                      have tx50 : x50.toInt = x5.toInt - 1 := (jsub ex50 rfl jz_1 (by omega) (by omega)).trans (by omega)
                      refine lv_aload_n hx hb dX10_worked_174 rfl (lv_at hl 3 rfl) ?_
                      exact by
                       refine va_get (D := D) hx hb hts inlX10 hown hK hP 22 (jc_22 cI cL ad σ9 τ) rfl 4 (of_decide_eq_true rfl) (hts _ kw_4_5) (fun _ h9 => h9) rfl dX10_worked_175 ?_
                       refine lv_iload_n hx hb dX10_worked_178 rfl (lv_at hl 2 rfl) ?_
                       refine lv_iconst (v := 1) hx hb dX10_worked_179 (of_decide_eq_true rfl) ?_
                       refine lv_isub hx hb dX10_worked_180 ?_
                       refine lv_topi (fun x51 ex51 => ?_)
                       have tx51 : x51.toInt = x5.toInt - 1 := (jsub ex51 rfl jz_1 (by omega) (by omega)).trans (by omega)
                       refine jald hx hb hK hP (jc_25 cI cL ad σ9 τ) (jin tx51 (by omega) (by omega)) dX10_worked_181 ?_
                       refine lv_topi (fun x52 ex52 => ?_)
                       refine lv_if_ne (tgt := 189) hx hb dX10_worked_182 (of_decide_eq_true rfl) (fun c53 => ?_) (fun c53 => ?_)
                       · exact by
                          have kc53 := jne c53 rfl jz_0
                          refine lv_iconst (v := 0) hx hb dX10_worked_189 (of_decide_eq_true rfl) ?_
                          refine jast hx hb hK hP hJ hA hS (jc_25 cI cL ad σ9 τ) (ja_25 cI cL ad σ9 τ _ _) (jin tx50 (by omega) (by omega)) dX10_worked_190 (fun σ54 H locs eσ54 hP hS => ?_)
                          refine lv_goto (tgt := 259) hx hb dX10_worked_191 (of_decide_eq_true rfl) ?_
                          obtain ⟨x55, ex55⟩ : ∃ y : Int32, y = x6 + 1 := ⟨_, rfl⟩
                          have tx55 : x55.toInt = x6.toInt + 1 := (jadd ex55 rfl jz_1 (by omega) (by omega)).trans (by omega)
                          refine lv_iinc (v := x55) (lv' := [(2, .int x55), (3, .int x21), (1, .int x5), (0, .ref (ad 22))]) hx hb dX10_worked_259 hl (k := 1) rfl (by rw [ex55]; rfl) (of_decide_eq_true rfl) rfl (fun ls hl => ?_)
                          refine lv_goto (tgt := 4) hx hb dX10_worked_262 (of_decide_eq_true rfl) ?_
                          exact by exact ihlp3 x5 x55 σ54 _ _ ls (by have h91 := tx55; omega) (by have h91 := tx55; omega) (by have h91 := tx55; omega) (by have h91 := tx55; omega) (by have h91 := tx55; omega) (fun i hi => ((jnp i eσ54 (imp_34 i hi)).trans (f16 i hi)))    hP hS (lv_sub hl [0, 2, 3] rfl)
                       · exact by
                          have kc53 := jeq c53 rfl jz_0
                          refine lv_iconst (v := 1) hx hb dX10_worked_185 (of_decide_eq_true rfl) ?_
                          refine lv_goto (tgt := 190) hx hb dX10_worked_186 (of_decide_eq_true rfl) ?_
                          refine jast hx hb hK hP hJ hA hS (jc_25 cI cL ad σ9 τ) (ja_25 cI cL ad σ9 τ _ _) (jin tx50 (by omega) (by omega)) dX10_worked_190 (fun σ56 H locs eσ56 hP hS => ?_)
                          refine lv_goto (tgt := 259) hx hb dX10_worked_191 (of_decide_eq_true rfl) ?_
                          obtain ⟨x57, ex57⟩ : ∃ y : Int32, y = x6 + 1 := ⟨_, rfl⟩
                          have tx57 : x57.toInt = x6.toInt + 1 := (jadd ex57 rfl jz_1 (by omega) (by omega)).trans (by omega)
                          refine lv_iinc (v := x57) (lv' := [(2, .int x57), (3, .int x21), (1, .int x5), (0, .ref (ad 22))]) hx hb dX10_worked_259 hl (k := 1) rfl (by rw [ex57]; rfl) (of_decide_eq_true rfl) rfl (fun ls hl => ?_)
                          refine lv_goto (tgt := 4) hx hb dX10_worked_262 (of_decide_eq_true rfl) ?_
                          exact by exact ihlp3 x5 x57 σ56 _ _ ls (by have h91 := tx57; omega) (by have h91 := tx57; omega) (by have h91 := tx57; omega) (by have h91 := tx57; omega) (by have h91 := tx57; omega) (fun i hi => ((jnp i eσ56 (imp_34 i hi)).trans (f16 i hi)))    hP hS (lv_sub hl [0, 2, 3] rfl)
                 · exact by
                    have kc26 := jeq c26 rfl jz_20063
                    refine lv_aload_n hx hb dX10_worked_108 rfl (lv_at hl 3 rfl) ?_
                    refine va_get (D := D) hx hb hts inlX10 hown hK hP 22 (jc_22 cI cL ad σ9 τ) rfl 4 (of_decide_eq_true rfl) (hts _ kw_4_5) (fun _ h9 => h9) rfl dX10_worked_109 ?_
                    refine lv_iload_n hx hb dX10_worked_112 rfl (lv_at hl 2 rfl) ?_
                    refine lv_iconst (v := 1) hx hb dX10_worked_113 (of_decide_eq_true rfl) ?_
                    have g58 := jrg (rfl : x5.toInt = x5.toInt)
                    refine lv_isub hx hb dX10_worked_114 ?_
                    refine lv_topi (fun x59 ex59 => ?_)
                    have tx59 : x59.toInt = x5.toInt - 1 := (jsub ex59 rfl jz_1 (by omega) (by omega)).trans (by omega)
                    exact by
                     refine jald hx hb hK hP (jc_25 cI cL ad σ9 τ) (jin tx59 (by omega) (by omega)) dX10_worked_115 ?_
                     refine lv_topi (fun x60 ex60 => ?_)
                     refine lv_if_eq (tgt := 123) hx hb dX10_worked_116 (of_decide_eq_true rfl) (fun c61 => ?_) (fun c61 => ?_)
                     · have kc61 := jeq c61 rfl jz_0
                       refine lv_iconst (v := 0) hx hb dX10_worked_123 (of_decide_eq_true rfl) ?_
                       refine lv_istore (lv' := [(4, .int 0), (3, .int x21), (2, .int x6), (1, .int x5), (0, .ref (ad 22))]) hx hb dX10_worked_124 hl (of_decide_eq_true rfl) rfl (fun ls hl => ?_)
                       refine lv_iconst (v := 0) hx hb dX10_worked_126 (of_decide_eq_true rfl) ?_
                       refine lv_istore_n (lv' := [(1, .int 0), (4, .int 0), (3, .int x21), (2, .int x6), (0, .ref (ad 22))]) hx hb dX10_worked_127 rfl hl (of_decide_eq_true rfl) rfl (fun ls hl => ?_)
                       obtain ⟨x62, ex62⟩ : ∃ y : Int32, y = x6 + 1 := ⟨_, rfl⟩
                       exact by
                        have tx62 : x62.toInt = x6.toInt + 1 := (jadd ex62 rfl jz_1 (by omega) (by omega)).trans (by omega)
                        refine lv_iinc (v := x62) (lv' := [(2, .int x62), (1, .int 0), (4, .int 0), (3, .int x21), (0, .ref (ad 22))]) hx hb dX10_worked_128 hl (k := 3) rfl (by rw [ex62]; rfl) (of_decide_eq_true rfl) rfl (fun ls hl => ?_)
                        refine lv_iload hx hb dX10_worked_131 (lv_at hl 2 rfl) ?_
                        refine lv_if_ne (tgt := 157) hx hb dX10_worked_133 (of_decide_eq_true rfl) (fun c => absurd (of_decide_eq_true rfl) c) (fun _ => ?_)
                        refine lv_iload_n hx hb dX10_worked_136 rfl (lv_at hl 0 rfl) ?_
                        refine lv_aload_n hx hb dX10_worked_137 rfl (lv_at hl 4 rfl) ?_
                        refine va_get (D := D) hx hb hts inlX10 hown hK hP 22 (jc_22 cI cL ad σ9 τ) rfl 0 (of_decide_eq_true rfl) (hts _ kw_16_20) (fun _ h9 => h9) rfl dX10_worked_138 ?_
                        refine jtopr m17 ?_
                        refine lv_icmp_ge (tgt := 157) hx hb dX10_worked_141 (of_decide_eq_true rfl) (fun c63 => ?_) (fun c63 => ?_)
                        · exact by
                           have kc63 := jle c63 rfl tx62
                           refine lv_goto (tgt := 259) hx hb dX10_worked_157 (of_decide_eq_true rfl) ?_
                           obtain ⟨x64, ex64⟩ : ∃ y : Int32, y = x62 + 1 := ⟨_, rfl⟩
                           have tx64 : x64.toInt = x6.toInt + 2 := (jadd ex64 tx62 jz_1 (by omega) (by omega)).trans (by omega)
                           refine lv_iinc (v := x64) (lv' := [(2, .int x64), (1, .int 0), (4, .int 0), (3, .int x21), (0, .ref (ad 22))]) hx hb dX10_worked_259 hl (k := 0) rfl (by rw [ex64]; rfl) (of_decide_eq_true rfl) rfl (fun ls hl => ?_)
                           refine lv_goto (tgt := 4) hx hb dX10_worked_262 (of_decide_eq_true rfl) ?_
                           exact by exact ihlp3 0 x64 σ9 _ _ ls (by have h90 := jz_0; have h91 := tx64; omega) (by have h90 := jz_0; have h91 := tx64; omega) (by have h90 := jz_0; have h91 := tx64; omega) (by have h90 := jz_0; have h91 := tx64; omega) (by have h90 := jz_0; have h91 := tx64; omega) (fun i hi => (f16 i hi))    hP hS (lv_sub hl [0, 1, 4] rfl)
                        · have kc63 := jnle c63 rfl tx62
                          refine lv_iload_n hx hb dX10_worked_144 rfl (lv_at hl 0 rfl) ?_
                          exact by
                           refine lv_aload_n hx hb dX10_worked_145 rfl (lv_at hl 4 rfl) ?_
                           refine va_get (D := D) hx hb hts inlX10 hown hK hP 22 (jc_22 cI cL ad σ9 τ) rfl 2 (of_decide_eq_true rfl) (hts _ kw_4_3) (fun _ h9 => h9) rfl dX10_worked_146 ?_
                           refine lv_iload_n hx hb dX10_worked_149 rfl (lv_at hl 0 rfl) ?_
                           refine jald hx hb hK hP (jc_23 cI cL ad σ9 τ) (jin tx62 (by omega) (by omega)) dX10_worked_150 ?_
                           have g65 := w19 _ (jnat (x := x62) tx62 (n := 160) (by omega) (of_decide_eq_true rfl))
                           refine lv_topi (fun x66 ex66 => ?_)
                           rw [← ex66] at g65
                           refine lv_iconst (v := 1) hx hb dX10_worked_151 (of_decide_eq_true rfl) ?_
                           have g67 := jrg (rfl : x66.toInt = x66.toInt)
                           exact by
                            refine lv_isub hx hb dX10_worked_152 ?_
                            refine lv_topi (fun x68 ex68 => ?_)
                            have tx68 : x68.toInt = x66.toInt - 1 := (jsub ex68 rfl jz_1 (by omega) (by omega)).trans (by omega)
                            refine va_mmax hx hb (hml.trans hl.1.symm) hown (hts _ kw_22_21) (hts _ kw_21_0) (hts _ kw_21_1) (hts _ kw_21_2) (Nat.le_of_ble_eq_true rfl) (Nat.le_of_ble_eq_true rfl) (Nat.le_of_ble_eq_true rfl) (Nat.le_of_ble_eq_true rfl) dX10_worked_153 ?_
                            refine lv_topi (fun x69 ex69 => ?_)
                            have g70 := jmax ex69 tx62 tx68
                            refine lv_istore_n (lv' := [(2, .int x69), (1, .int 0), (4, .int 0), (3, .int x21), (0, .ref (ad 22))]) hx hb dX10_worked_156 rfl hl (of_decide_eq_true rfl) rfl (fun ls hl => ?_)
                            refine lv_goto (tgt := 259) hx hb dX10_worked_157 (of_decide_eq_true rfl) ?_
                            obtain ⟨x71, ex71⟩ : ∃ y : Int32, y = x69 + 1 := ⟨_, rfl⟩
                            exact by
                             have tx71 : x71.toInt = x69.toInt + 1 := (jadd ex71 rfl jz_1 (by omega) (by omega)).trans (by omega)
                             refine lv_iinc (v := x71) (lv' := [(2, .int x71), (1, .int 0), (4, .int 0), (3, .int x21), (0, .ref (ad 22))]) hx hb dX10_worked_259 hl (k := 0) rfl (by rw [ex71]; rfl) (of_decide_eq_true rfl) rfl (fun ls hl => ?_)
                             refine lv_goto (tgt := 4) hx hb dX10_worked_262 (of_decide_eq_true rfl) ?_
                             exact by exact ihlp3 0 x71 σ9 _ _ ls (by have h90 := jz_0; have h91 := tx71; omega) (by have h90 := jz_0; have h91 := tx71; omega) (by have h90 := jz_0; have h91 := tx71; omega) (by have h90 := jz_0; have h91 := tx71; omega) (by have h90 := jz_0; have h91 := tx71; omega) (fun i hi => (f16 i hi))    hP hS (lv_sub hl [0, 1, 4] rfl)
                     · have kc61 := jne c61 rfl jz_0
                       refine lv_iconst (v := 1) hx hb dX10_worked_119 (of_decide_eq_true rfl) ?_
                       refine lv_goto (tgt := 124) hx hb dX10_worked_120 (of_decide_eq_true rfl) ?_
                       refine lv_istore (lv' := [(4, .int 1), (3, .int x21), (2, .int x6), (1, .int x5), (0, .ref (ad 22))]) hx hb dX10_worked_124 hl (of_decide_eq_true rfl) rfl (fun ls hl => ?_)
                       refine lv_iconst (v := 0) hx hb dX10_worked_126 (of_decide_eq_true rfl) ?_
                       exact by
                        refine lv_istore_n (lv' := [(1, .int 0), (4, .int 1), (3, .int x21), (2, .int x6), (0, .ref (ad 22))]) hx hb dX10_worked_127 rfl hl (of_decide_eq_true rfl) rfl (fun ls hl => ?_)
                        obtain ⟨x72, ex72⟩ : ∃ y : Int32, y = x6 + 1 := ⟨_, rfl⟩
                        have tx72 : x72.toInt = x6.toInt + 1 := (jadd ex72 rfl jz_1 (by omega) (by omega)).trans (by omega)
                        refine lv_iinc (v := x72) (lv' := [(2, .int x72), (1, .int 0), (4, .int 1), (3, .int x21), (0, .ref (ad 22))]) hx hb dX10_worked_128 hl (k := 3) rfl (by rw [ex72]; rfl) (of_decide_eq_true rfl) rfl (fun ls hl => ?_)
                        refine lv_iload hx hb dX10_worked_131 (lv_at hl 2 rfl) ?_
                        refine lv_if_ne (tgt := 157) hx hb dX10_worked_133 (of_decide_eq_true rfl) (fun _ => ?_) (fun c => absurd c (of_decide_eq_true rfl))
                        refine lv_goto (tgt := 259) hx hb dX10_worked_157 (of_decide_eq_true rfl) ?_
                        obtain ⟨x73, ex73⟩ : ∃ y : Int32, y = x72 + 1 := ⟨_, rfl⟩
                        have tx73 : x73.toInt = x6.toInt + 2 := (jadd ex73 tx72 jz_1 (by omega) (by omega)).trans (by omega)
                        exact by
                         refine lv_iinc (v := x73) (lv' := [(2, .int x73), (1, .int 0), (4, .int 1), (3, .int x21), (0, .ref (ad 22))]) hx hb dX10_worked_259 hl (k := 0) rfl (by rw [ex73]; rfl) (of_decide_eq_true rfl) rfl (fun ls hl => ?_)
                         refine lv_goto (tgt := 4) hx hb dX10_worked_262 (of_decide_eq_true rfl) ?_
                         exact by exact ihlp3 0 x73 σ9 _ _ ls (by have h90 := jz_0; have h91 := tx73; omega) (by have h90 := jz_0; have h91 := tx73; omega) (by have h90 := jz_0; have h91 := tx73; omega) (by have h90 := jz_0; have h91 := tx73; omega) (by have h90 := jz_0; have h91 := tx73; omega) (fun i hi => (f16 i hi))    hP hS (lv_sub hl [0, 1, 4] rfl)
               · have kc25 := jeq c25 rfl jz_20059
                 refine lv_iload_n hx hb dX10_worked_83 rfl (lv_at hl 2 rfl) ?_
                 refine lv_iconst (v := 1) hx hb dX10_worked_84 (of_decide_eq_true rfl) ?_
                 refine lv_icmp_ge (tgt := 92) hx hb dX10_worked_85 (of_decide_eq_true rfl) (fun c74 => ?_) (fun c => absurd (jnle c jz_1 rfl) (by omega))
                 have kc74 := jle c74 jz_1 rfl
                 refine lv_aload_n hx hb dX10_worked_92 rfl (lv_at hl 3 rfl) ?_
                 exact by
                  refine va_get (D := D) hx hb hts inlX10 hown hK hP 22 (jc_22 cI cL ad σ9 τ) rfl 4 (of_decide_eq_true rfl) (hts _ kw_4_5) (fun _ h9 => h9) rfl dX10_worked_93 ?_
                  refine lv_iload_n hx hb dX10_worked_96 rfl (lv_at hl 2 rfl) ?_
                  refine lv_iconst (v := 1) hx hb dX10_worked_97 (of_decide_eq_true rfl) ?_
                  have g75 := jrg (rfl : x5.toInt = x5.toInt)
                  refine lv_isub hx hb dX10_worked_98 ?_
                  refine lv_topi (fun x76 ex76 => ?_)
                  have tx76 : x76.toInt = x5.toInt - 1 := (jsub ex76 rfl jz_1 (by omega) (by omega)).trans (by omega)
                  refine jald hx hb hK hP (jc_25 cI cL ad σ9 τ) (jin tx76 (by omega) (by omega)) dX10_worked_99 ?_
                  refine lv_topi (fun x77 ex77 => ?_)
                  exact hret x77 σ9 τ _ _ _ _ rfl ⟨rfl, (fun i hi => (f16 i hi)), trivial⟩ hP hS dX10_worked_100
          · exact by
             have kc22 := jnle c22 jz_20000 rfl
             refine lv_iload_n hx hb dX10_worked_26 rfl (lv_at hl 2 rfl) ?_
             refine lv_sipush (v := 160) hx hb dX10_worked_27 (of_decide_eq_true rfl) ?_
             refine lv_icmp_lt (tgt := 35) hx hb dX10_worked_30 (of_decide_eq_true rfl) (fun c78 => ?_) (fun c78 => ?_)
             · have kc78 := jlt c78 rfl jz_160
               refine lv_aload_n hx hb dX10_worked_35 rfl (lv_at hl 3 rfl) ?_
               refine va_get (D := D) hx hb hts inlX10 hown hK hP 22 (jc_22 cI cL ad σ9 τ) rfl 4 (of_decide_eq_true rfl) (hts _ kw_4_5) (fun _ h9 => h9) rfl dX10_worked_36 ?_
               refine lv_iload_n hx hb dX10_worked_39 rfl (lv_at hl 2 rfl) ?_
               obtain ⟨x79, ex79⟩ : ∃ y : Int32, y = x5 + 1 := ⟨_, rfl⟩
               exact by
                have tx79 : x79.toInt = x5.toInt + 1 := (jadd ex79 rfl jz_1 (by omega) (by omega)).trans (by omega)
                refine lv_iinc (v := x79) (lv' := [(1, .int x79), (3, .int x21), (2, .int x6), (0, .ref (ad 22))]) hx hb dX10_worked_40 hl (k := 2) rfl (by rw [ex79]; rfl) (of_decide_eq_true rfl) rfl (fun ls hl => ?_)
                refine lv_iload_n hx hb dX10_worked_43 rfl (lv_at hl 1 rfl) ?_
                refine lv_sipush (v := 10000) hx hb dX10_worked_44 (of_decide_eq_true rfl) ?_
                refine lv_icmp_ge (tgt := 54) hx hb dX10_worked_47 (of_decide_eq_true rfl) (fun c80 => ?_) (fun c80 => ?_)
                · have kc80 := jle c80 jz_10000 rfl
                  refine lv_aload_n hx hb dX10_worked_54 rfl (lv_at hl 3 rfl) ?_
                  refine va_get (D := D) hx hb hts inlX10 hown hK hP 22 (jc_22 cI cL ad σ9 τ) rfl 3 (of_decide_eq_true rfl) (hts _ kw_4_4) (fun _ h9 => h9) rfl dX10_worked_55 ?_
                  refine lv_iload_n hx hb dX10_worked_58 rfl (lv_at hl 1 rfl) ?_
                  exact by
                   refine lv_sipush (v := 10000) hx hb dX10_worked_59 (of_decide_eq_true rfl) ?_
                   have g81 := jrg (rfl : x21.toInt = x21.toInt)
                   refine lv_isub hx hb dX10_worked_62 ?_
                   refine lv_topi (fun x82 ex82 => ?_)
                   have tx82 : x82.toInt = x21.toInt - 10000 := (jsub ex82 rfl jz_10000 (by omega) (by omega)).trans (by omega)
                   refine lv_bipush (v := 7) hx hb dX10_worked_63 (of_decide_eq_true rfl) ?_
                   refine lv_iand hx hb dX10_worked_65 ?_
                   refine lv_topi (fun x83 ex83 => ?_)
                   have gx83 := jrg (rfl : x83.toInt = x83.toInt)
                   exact by
                    have g84 : 0 ≤ x83.toInt ∧ x83.toInt ≤ 7 := jmask ex83 3 (of_decide_eq_true rfl) (of_decide_eq_true rfl)
                    refine jald hx hb hK hP (jc_24 cI cL ad σ9 τ) (jin rfl (by omega) (by omega)) dX10_worked_66 ?_
                    refine lv_topi (fun x85 ex85 => ?_)
                    refine jast hx hb hK hP hJ hA hS (jc_25 cI cL ad σ9 τ) (ja_25 cI cL ad σ9 τ _ _) (jin rfl (by omega) (by omega)) dX10_worked_67 (fun σ86 H locs eσ86 hP hS => ?_)
                    refine lv_goto (tgt := 259) hx hb dX10_worked_68 (of_decide_eq_true rfl) ?_
                    obtain ⟨x87, ex87⟩ : ∃ y : Int32, y = x6 + 1 := ⟨_, rfl⟩
                    have tx87 : x87.toInt = x6.toInt + 1 := (jadd ex87 rfl jz_1 (by omega) (by omega)).trans (by omega)
                    refine lv_iinc (v := x87) (lv' := [(2, .int x87), (1, .int x79), (3, .int x21), (0, .ref (ad 22))]) hx hb dX10_worked_259 hl (k := 2) rfl (by rw [ex87]; rfl) (of_decide_eq_true rfl) rfl (fun ls hl => ?_)
                    refine lv_goto (tgt := 4) hx hb dX10_worked_262 (of_decide_eq_true rfl) ?_
                    exact by exact ihlp3 x79 x87 σ86 _ _ ls (by have h90 := tx79; have h91 := tx87; omega) (by have h90 := tx79; have h91 := tx87; omega) (by have h90 := tx79; have h91 := tx87; omega) (by have h90 := tx79; have h91 := tx87; omega) (by have h90 := tx79; have h91 := tx87; omega) (fun i hi => ((jnp i eσ86 (imp_34 i hi)).trans (f16 i hi)))    hP hS (lv_sub hl [0, 1, 3] rfl)
                · exact by
                   have kc80 := jnle c80 jz_10000 rfl
                   refine lv_iload_n hx hb dX10_worked_50 rfl (lv_at hl 1 rfl) ?_
                   refine lv_goto (tgt := 67) hx hb dX10_worked_51 (of_decide_eq_true rfl) ?_
                   refine jast hx hb hK hP hJ hA hS (jc_25 cI cL ad σ9 τ) (ja_25 cI cL ad σ9 τ _ _) (jin rfl (by omega) (by omega)) dX10_worked_67 (fun σ88 H locs eσ88 hP hS => ?_)
                   refine lv_goto (tgt := 259) hx hb dX10_worked_68 (of_decide_eq_true rfl) ?_
                   obtain ⟨x89, ex89⟩ : ∃ y : Int32, y = x6 + 1 := ⟨_, rfl⟩
                   have tx89 : x89.toInt = x6.toInt + 1 := (jadd ex89 rfl jz_1 (by omega) (by omega)).trans (by omega)
                   refine lv_iinc (v := x89) (lv' := [(2, .int x89), (1, .int x79), (3, .int x21), (0, .ref (ad 22))]) hx hb dX10_worked_259 hl (k := 2) rfl (by rw [ex89]; rfl) (of_decide_eq_true rfl) rfl (fun ls hl => ?_)
                   refine lv_goto (tgt := 4) hx hb dX10_worked_262 (of_decide_eq_true rfl) ?_
                   exact by exact ihlp3 x79 x89 σ88 _ _ ls (by have h90 := tx79; have h91 := tx89; omega) (by have h90 := tx79; have h91 := tx89; omega) (by have h90 := tx79; have h91 := tx89; omega) (by have h90 := tx79; have h91 := tx89; omega) (by have h90 := tx79; have h91 := tx89; omega) (fun i hi => ((jnp i eσ88 (imp_34 i hi)).trans (f16 i hi)))    hP hS (lv_sub hl [0, 1, 3] rfl)
             · exact by
                have kc78 := jnlt c78 rfl jz_160
                refine lv_iconst (v := 0) hx hb dX10_worked_33 (of_decide_eq_true rfl) ?_
                exact hret 0 σ9 τ _ _ _ _ rfl ⟨rfl, (fun i hi => (f16 i hi)), trivial⟩ hP hS dX10_worked_34
  exact by exact lp3 1000000 0 0 σ _ _ ls (by have h90 := jz_0; have h91 := jz_0; omega) (by have h90 := jz_0; have h91 := jz_0; omega) (by have h90 := jz_0; have h91 := jz_0; omega) (by have h90 := jz_0; have h91 := jz_0; omega) (by have h90 := jz_0; have h91 := jz_0; omega) (fun _ _ => rfl)   hP hS hl
set_option maxHeartbeats 4000000 in
set_option maxRecDepth 100000 in
theorem c_X10_uses_22 (l : Launch) (D : va_G) (cI cL : ClassId) (ad zz : Nat → Nat) (hJ : jD ad) (σ : Nat → Nat → Int32) (τ : Nat → Nat → Int64) (a1 : Int32) (A1 : Int) (t1 : a1.toInt = A1) : jM l yX10_uses cX10_uses 2 (some .boolean) ({ frames := 0, cells := 0, slots := 0, locals := 0 }) D cI cL ad zz [.ref (ad 22), .int a1] σ τ (fun r σ' τ' => (σ = σ' ∧ τ = τ') ∧ True) := by
  refine jM.of hJ (by decide +kernel) (nt := .boolean) rfl (Nat.le_of_ble_eq_true rfl) ?_
  intro p e s m args below meth c Q ls hC hret hl hP
  obtain ⟨hx, hb, hr, hml, hown, hts, hK, -, hlocks, hZ⟩ := hC
  have hown : s.vm.findClass RX10 = some m.cls := hown
  have hS : va_S (jA ad) s.heap s.heap [] := va_S.rf
  have hA : ∀ q, jA ad q → jA ad q := fun _ h => h
  have hl : lv_has ls 2 [(0, .ref (ad 22)), (1, .int a1)] := hl
  have g1 := jrg t1
  refine lv_aload_n hx hb dX10_uses_0 rfl (lv_at hl 0 rfl) ?_
  refine va_get (D := D) hx hb hts inlX10 hown hK hP 22 (jc_22 cI cL ad σ τ) rfl 1 (of_decide_eq_true rfl) (hts _ kw_16_21) (fun _ h9 => h9) rfl dX10_uses_1 ?_
  refine lv_iload_n hx hb dX10_uses_4 rfl (lv_at hl 1 rfl) ?_
  refine lv_ishr hx hb dX10_uses_5 ?_
  refine lv_topi (fun x1 ex1 => ?_)
  have gx1 := jrg (rfl : x1.toInt = x1.toInt)
  refine lv_iconst (v := 1) hx hb dX10_uses_6 (of_decide_eq_true rfl) ?_
  refine lv_iand hx hb dX10_uses_7 ?_
  refine lv_topi (fun x2 ex2 => ?_)
  have gx2 := jrg (rfl : x2.toInt = x2.toInt)
  have g3 : 0 ≤ x2.toInt ∧ x2.toInt ≤ 1 := jmask ex2 1 (of_decide_eq_true rfl) (of_decide_eq_true rfl)
  refine lv_if_eq (tgt := 15) hx hb dX10_uses_8 (of_decide_eq_true rfl) (fun c4 => ?_) (fun c4 => ?_)
  · have kc4 := jeq c4 rfl jz_0
    refine lv_iconst (v := 0) hx hb dX10_uses_15 (of_decide_eq_true rfl) ?_
    exact hret 0 σ τ _ _ _ _ rfl ⟨⟨rfl, rfl⟩, trivial⟩ hP hS dX10_uses_16
  · have kc4 := jne c4 rfl jz_0
    refine lv_iconst (v := 1) hx hb dX10_uses_11 (of_decide_eq_true rfl) ?_
    refine lv_goto (tgt := 16) hx hb dX10_uses_12 (of_decide_eq_true rfl) ?_
    exact hret 1 σ τ _ _ _ _ rfl ⟨⟨rfl, rfl⟩, trivial⟩ hP hS dX10_uses_16
set_option maxHeartbeats 4000000 in
set_option maxRecDepth 100000 in
theorem c_X7_take_9 (l : Launch) (D : va_G) (cI cL : ClassId) (ad zz : Nat → Nat) (hJ : jD ad) (σ : Nat → Nat → Int32) (τ : Nat → Nat → Int64) (a1 : Int32) (A1 : Int) (t1 : a1.toInt = A1) (a2 : Int32) (A2 : Int) (t2 : a2.toInt = A2) (hI9 : jI9 σ) (hp0 : 1 ≤ A1 ∧ A1 ≤ 4) (hp1 : (σ 9 0).toInt + A1 ≤ 80) : jM l yX7_take cX7_take 4 (some .int) ({ frames := 0, cells := 0, slots := 0, locals := 0 }) D cI cL ad zz [.ref (ad 9), .int a1, .int a2] σ τ (fun r σ' τ' => τ = τ' ∧ (∀ i : Nat, (i < 9 ∨ 10 < i) → σ' i = σ i) ∧ (∀ k : Nat, (k < 0 ∨ 0 < k) → σ' 9 k = σ 9 k) ∧ (jI9 σ') ∧ ((True ∧ (r.toInt = (σ 9 0).toInt + A1) ∧ ((σ' 9 0).toInt = (σ 9 0).toInt + A1) ∧ (jFd jBc (σ 10) (σ' 10) ((σ 9 0).toInt) (A1) a2)))) := by
  refine jM.of hJ (by decide +kernel) (nt := .int) rfl (Nat.le_of_ble_eq_true rfl) ?_
  intro p e s m args below meth c Q ls hC hret hl hP
  obtain ⟨hx, hb, hr, hml, hown, hts, hK, -, hlocks, hZ⟩ := hC
  have hown : s.vm.findClass RX7 = some m.cls := hown
  have hS : va_S (jA ad) s.heap s.heap [] := va_S.rf
  have hA : ∀ q, jA ad q → jA ad q := fun _ h => h
  have hl : lv_has ls 4 [(0, .ref (ad 9)), (1, .int a1), (2, .int a2)] := hl
  have g1 := jrg t1
  have g2 := jrg t2
  obtain ⟨i1, w2, w3⟩ : (0 ≤ (σ 9 0).toInt ∧ (σ 9 0).toInt ≤ 80) ∧ (∀ k : Nat, k < 80 → 0 ≤ (σ 10 k).toInt ∧ (σ 10 k).toInt ≤ 255) ∧ (∀ k : Nat, k < 8 → 0 ≤ (σ 11 k).toInt ∧ (σ 11 k).toInt ≤ 3) := id hI9
  refine lv_iconst (v := 0) hx hb dX7_take_0 (of_decide_eq_true rfl) ?_
  refine lv_istore_n (lv' := [(3, .int 0), (0, .ref (ad 9)), (1, .int a1), (2, .int a2)]) hx hb dX7_take_1 rfl hl (of_decide_eq_true rfl) rfl (fun ls hl => ?_)
  have lp4 : ∀ (n5 : Nat) (x6 : Int32) (σ7 : Nat → Nat → Int32) (H : Heap) (locs : List Loc) (ls : Array Slot), (-x6.toInt + 4 : Int) < n5 → 0 ≤ x6.toInt → x6.toInt ≤ 4 → x6.toInt ≤ A1 → (σ7 9 0).toInt = (σ 9 0).toInt + x6.toInt → (∀ i : Nat, (i < 9 ∨ 10 < i) → σ7 i = σ i) → (∀ k : Nat, (k < 0 ∨ 0 < k) → σ7 9 k = σ 9 k) → jI9 σ7 → (jFd jBc (σ 10) (σ7 10) ((σ 9 0).toInt) (x6.toInt) a2) → jH D cI cL ad σ7 τ H → va_S (jA ad) s.heap H locs → lv_has ls 4 [(3, .int x6), (0, .ref (ad 9)), (1, .int a1), (2, .int a2)] → W p l e ({ frames := 0, cells := 0, slots := 0, locals := 0 }) s m args below meth c H locs 0 0 Q (F0 m 2 ls []) := by
    intro n5
    induction n5 with
    | zero => intro x6 σ7 H locs ls h9 h10 h11 h12 h13; exact absurd h9 (by omega)
    | succ n5 ihlp4 =>
      intro x6 σ7 H locs ls h9 h10 h11 h12 h13 f14 f15 p16 q17 hP hS hl
      exact by
       obtain ⟨i18, w19, w20⟩ : (0 ≤ (σ7 9 0).toInt ∧ (σ7 9 0).toInt ≤ 80) ∧ (∀ k : Nat, k < 80 → 0 ≤ (σ7 10 k).toInt ∧ (σ7 10 k).toInt ≤ 255) ∧ (∀ k : Nat, k < 8 → 0 ≤ (σ7 11 k).toInt ∧ (σ7 11 k).toInt ≤ 3) := id p16
       refine lv_iload_n hx hb dX7_take_2 rfl (lv_at hl 0 rfl) ?_
       refine lv_iload_n hx hb dX7_take_3 rfl (lv_at hl 2 rfl) ?_
       refine lv_icmp_ge (tgt := 53) hx hb dX7_take_4 (of_decide_eq_true rfl) (fun c21 => ?_) (fun c21 => ?_)
       · have kc21 := jle c21 t1 rfl
         refine lv_aload_n hx hb dX7_take_53 rfl (lv_at hl 1 rfl) ?_
         refine va_get (D := D) hx hb hts inlX7 hown hK hP 9 (jc_9 cI cL ad σ7 τ) rfl 0 (of_decide_eq_true rfl) (hts _ kw_13_0) (fun _ h9 => h9) rfl dX7_take_54 ?_
         exact by exact hret (σ7 9 0) σ7 τ _ _ _ _ rfl ⟨rfl, (fun i hi => (f14 i hi)), (fun i hi => (f15 i hi)), p16, ⟨trivial, (by omega), (by omega), (by rw [show A1 = x6.toInt by omega]; exact q17)⟩⟩ hP hS dX7_take_57
       · have kc21 := jnle c21 t1 rfl
         refine lv_iload_n hx hb dX7_take_7 rfl (lv_at hl 0 rfl) ?_
         refine lv_iconst (v := 4) hx hb dX7_take_8 (of_decide_eq_true rfl) ?_
         exact by
          refine lv_icmp_ge (tgt := 53) hx hb dX7_take_9 (of_decide_eq_true rfl) (fun c => absurd (jle c jz_4 rfl) (by omega)) (fun c22 => ?_)
          have kc22 := jnle c22 jz_4 rfl
          refine lv_aload_n hx hb dX7_take_12 rfl (lv_at hl 1 rfl) ?_
          refine va_get (D := D) hx hb hts inlX7 hown hK hP 9 (jc_9 cI cL ad σ7 τ) rfl 0 (of_decide_eq_true rfl) (hts _ kw_13_0) (fun _ h9 => h9) rfl dX7_take_13 ?_
          refine lv_bipush (v := 80) hx hb dX7_take_16 (of_decide_eq_true rfl) ?_
          refine lv_icmp_ge (tgt := 53) hx hb dX7_take_18 (of_decide_eq_true rfl) (fun c => absurd (jle c jz_80 rfl) (by omega)) (fun c23 => ?_)
          have kc23 := jnle c23 jz_80 rfl
          refine lv_aload_n hx hb dX7_take_21 rfl (lv_at hl 1 rfl) ?_
          refine va_get (D := D) hx hb hts inlX7 hown hK hP 9 (jc_9 cI cL ad σ7 τ) rfl 3 (of_decide_eq_true rfl) (hts _ kw_3_20) (fun _ h9 => h9) rfl dX7_take_22 ?_
          exact by
           refine lv_aload_n hx hb dX7_take_25 rfl (lv_at hl 1 rfl) ?_
           refine lv_dup hx hb dX7_take_26 rfl ?_
           refine va_get (D := D) hx hb hts inlX7 hown hK hP 9 (jc_9 cI cL ad σ7 τ) rfl 0 (of_decide_eq_true rfl) (hts _ kw_13_0) (fun _ h9 => h9) rfl dX7_take_27 ?_
           refine lv_dup_x1 hx hb dX7_take_30 rfl rfl ?_
           refine lv_iconst (v := 1) hx hb dX7_take_31 (of_decide_eq_true rfl) ?_
           have g24 := jrg (rfl : (σ7 9 0).toInt = (σ7 9 0).toInt)
           refine lv_iadd hx hb dX7_take_32 ?_
           refine lv_topi (fun x25 ex25 => ?_)
           have tx25 : x25.toInt = (σ7 9 0).toInt + 1 := (jadd ex25 rfl jz_1 (by omega) (by omega)).trans (by omega)
           exact by
            refine jput (ty := .int) hx hb hts inlX7 tyX7 tyX7_ok nmX7 hown hK hP hJ hA hS (jc_9 cI cL ad σ7 τ) rfl (k := 0) (of_decide_eq_true rfl) (Nat.le_of_ble_eq_true rfl) (jp_9_0 cI cL ad σ7 τ x25) (hts _ kw_13_0) (fun _ h9 => h9) rfl (by decide +kernel) rfl rfl dX7_take_33 (fun σ26 H locs eσ26 hP hS => ?_)
            refine lv_iload_n hx hb dX7_take_36 rfl (lv_at hl 3 rfl) ?_
            refine lv_bipush (v := 8) hx hb dX7_take_37 (of_decide_eq_true rfl) ?_
            refine lv_iload_n hx hb dX7_take_39 rfl (lv_at hl 0 rfl) ?_
            have g27 := jrg (rfl : x6.toInt = x6.toInt)
            refine lv_imul hx hb dX7_take_40 ?_
            refine lv_topi (fun x28 ex28 => ?_)
            have tx28 : x28.toInt = 8 * x6.toInt := (jmul ex28 jz_8 rfl (by omega) (by omega)).trans (by omega)
            refine lv_iushr hx hb dX7_take_41 rfl ?_
            exact by
             refine lv_topi (fun x29 ex29 => ?_)
             have gx29 := jrg (rfl : x29.toInt = x29.toInt)
             refine lv_sipush (v := 255) hx hb dX7_take_42 (of_decide_eq_true rfl) ?_
             refine lv_iand hx hb dX7_take_45 ?_
             refine lv_topi (fun x30 ex30 => ?_)
             have gx30 := jrg (rfl : x30.toInt = x30.toInt)
             have g31 : 0 ≤ x30.toInt ∧ x30.toInt ≤ 255 := jmask ex30 8 (of_decide_eq_true rfl) (of_decide_eq_true rfl)
             refine jast hx hb hK hP hJ hA hS (jc_10 cI cL ad σ26 τ) (ja_10 cI cL ad σ26 τ _ _) (jin rfl (by omega) (by omega)) dX7_take_46 (fun σ32 H locs eσ32 hP hS => ?_)
             obtain ⟨x33, ex33⟩ : ∃ y : Int32, y = x6 + 1 := ⟨_, rfl⟩
             exact by
              have tx33 : x33.toInt = x6.toInt + 1 := (jadd ex33 rfl jz_1 (by omega) (by omega)).trans (by omega)
              refine lv_iinc (v := x33) (lv' := [(3, .int x33), (0, .ref (ad 9)), (1, .int a1), (2, .int a2)]) hx hb dX7_take_47 hl (k := 0) rfl (by rw [ex33]; rfl) (of_decide_eq_true rfl) rfl (fun ls hl => ?_)
              refine lv_goto (tgt := 2) hx hb dX7_take_50 (of_decide_eq_true rfl) ?_
              have z34 : (σ32 9 0).toInt = (σ7 9 0).toInt + 1 := ((congrArg Int32.toInt (show σ32 9 0 = x25 from ((congrFun (jnp 9 eσ32 (of_decide_eq_true rfl)) 0).trans (jsp eσ26)))).trans tx25)
              have w35 : ∀ k : Nat, k < 80 → 0 ≤ (σ32 10 k).toInt ∧ (σ32 10 k).toInt ≤ 255 := (by rw [eσ32]; exact jrr_up (jrr_fr (jnp 10 eσ26 (of_decide_eq_true rfl)) w19) (by omega) (by omega))
              have w36 : ∀ k : Nat, k < 8 → 0 ≤ (σ32 11 k).toInt ∧ (σ32 11 k).toInt ≤ 3 := (jrr_fr (jnp 11 eσ32 (of_decide_eq_true rfl)) (jrr_fr (jnp 11 eσ26 (of_decide_eq_true rfl)) w20))
              have I37 : jI9 σ32 := ⟨(by omega), w35, w36⟩
              exact by exact ihlp4 x33 σ32 _ _ ls (by have h90 := tx33; omega) (by have h90 := tx33; omega) (by have h90 := tx33; omega) (by have h90 := tx33; omega) (by have h90 := tx33; omega) (fun i hi => ((jnp i eσ32 (imp_35 i hi)).trans ((jnp i eσ26 (imp_36 i hi)).trans (f14 i hi)))) (fun i hi => ((congrFun (jnp 9 eσ32 (of_decide_eq_true rfl)) i).trans ((jkp i eσ26 (imp_4 i hi)).trans (f15 i hi))))  I37 (jFd.step q17 (by rw [eσ32, jup_row, eσ26, jup_n (of_decide_eq_true rfl), jnc (rfl : (σ7 9 0).toInt = (σ7 9 0).toInt)]) (by omega) (by unfold jBc; rw [ex30, ex29, ex28]) (rfl : x6.toInt = x6.toInt) (by omega) (by omega) (by omega) (by have h9 := tx33; omega)) hP hS (lv_sub hl [0, 1, 2, 3] rfl)
  exact by exact lp4 1000000 0 σ _ _ ls (by have h90 := jz_0; omega) (by have h90 := jz_0; omega) (by have h90 := jz_0; omega) (by have h90 := jz_0; omega) (by have h90 := jz_0; omega) (fun _ _ => rfl) (fun _ _ => rfl)  hI9 (jFd.first (by have h9 := jz_0; omega)) hP hS hl
set_option maxHeartbeats 4000000 in
set_option maxRecDepth 100000 in
theorem c_X7_begin_9 (l : Launch) (D : va_G) (cI cL : ClassId) (ad zz : Nat → Nat) (hJ : jD ad) (σ : Nat → Nat → Int32) (τ : Nat → Nat → Int64) (hI9 : jI9 σ) : jMv l yX7_begin cX7_begin 1 none ({ frames := 0, cells := 0, slots := 0, locals := 0 }) D cI cL ad zz [.ref (ad 9)] σ τ (fun σ' τ' => τ = τ' ∧ (∀ i : Nat, (i < 9 ∨ 9 < i) → σ' i = σ i) ∧ (∀ k : Nat, (k < 1 ∨ 1 < k) ∧ (k < 2 ∨ 2 < k) → σ' 9 k = σ 9 k) ∧ (σ' 9 1 = 0) ∧ (σ' 9 2 = (-1)) ∧ (jI9 σ') ∧ (jI91 σ') ∧ (jI92 σ') ∧ True) := by
  refine jMv.of hJ (by decide +kernel) rfl (Nat.le_of_ble_eq_true rfl) ?_
  intro p e s m args below meth c Q ls hC hret hl hP
  obtain ⟨hx, hb, hr, hml, hown, hts, hK, -, hlocks, hZ⟩ := hC
  have hown : s.vm.findClass RX7 = some m.cls := hown
  have hS : va_S (jA ad) s.heap s.heap [] := va_S.rf
  have hA : ∀ q, jA ad q → jA ad q := fun _ h => h
  have hl : lv_has ls 1 [(0, .ref (ad 9))] := hl
  obtain ⟨i1, w2, w3⟩ : (0 ≤ (σ 9 0).toInt ∧ (σ 9 0).toInt ≤ 80) ∧ (∀ k : Nat, k < 80 → 0 ≤ (σ 10 k).toInt ∧ (σ 10 k).toInt ≤ 255) ∧ (∀ k : Nat, k < 8 → 0 ≤ (σ 11 k).toInt ∧ (σ 11 k).toInt ≤ 3) := id hI9
  refine lv_aload_n hx hb dX7_begin_0 rfl (lv_at hl 0 rfl) ?_
  refine lv_iconst (v := 0) hx hb dX7_begin_1 (of_decide_eq_true rfl) ?_
  refine jput (ty := .int) hx hb hts inlX7 tyX7 tyX7_ok nmX7 hown hK hP hJ hA hS (jc_9 cI cL ad σ τ) rfl (k := 1) (of_decide_eq_true rfl) (Nat.le_of_ble_eq_true rfl) (jp_9_1 cI cL ad σ τ 0) (hts _ kw_13_17) (fun _ h9 => h9) rfl (by decide +kernel) rfl rfl dX7_begin_2 (fun σ4 H locs eσ4 hP hS => ?_)
  refine lv_aload_n hx hb dX7_begin_5 rfl (lv_at hl 0 rfl) ?_
  refine lv_iconst (v := (-1)) hx hb dX7_begin_6 (of_decide_eq_true rfl) ?_
  refine jput (ty := .int) hx hb hts inlX7 tyX7 tyX7_ok nmX7 hown hK hP hJ hA hS (jc_9 cI cL ad σ4 τ) rfl (k := 2) (of_decide_eq_true rfl) (Nat.le_of_ble_eq_true rfl) (jp_9_2 cI cL ad σ4 τ (-1)) (hts _ kw_14_6) (fun _ h9 => h9) rfl (by decide +kernel) rfl rfl dX7_begin_7 (fun σ5 H locs eσ5 hP hS => ?_)
  have m6 : σ5 9 1 = 0 := ((jkp 1 eσ5 (of_decide_eq_true rfl)).trans (jsp eσ4))
  have m7 : σ5 9 2 = (-1) := (jsp eσ5)
  have I8 : jI9 σ5 := jI9_fr ((jkp 0 eσ5 (of_decide_eq_true rfl)).trans (jkp 0 eσ4 (of_decide_eq_true rfl))) ((jnp 10 eσ5 (of_decide_eq_true rfl)).trans (jnp 10 eσ4 (of_decide_eq_true rfl))) ((jnp 11 eσ5 (of_decide_eq_true rfl)).trans (jnp 11 eσ4 (of_decide_eq_true rfl))) hI9
  have z9 : (σ5 9 1).toInt = 0 := ((congrArg Int32.toInt (show σ5 9 1 = 0 from m6)).trans jz_0)
  have z10 : (σ5 9 0).toInt = (σ 9 0).toInt := (congrArg Int32.toInt (show σ5 9 0 = (σ 9 0) from ((jkp 0 eσ5 (of_decide_eq_true rfl)).trans (jkp 0 eσ4 (of_decide_eq_true rfl)))))
  exact by
   have I11 : jI91 σ5 := ⟨(by omega), (by omega)⟩
   have z12 : (σ5 9 2).toInt = (-1) := ((congrArg Int32.toInt (show σ5 9 2 = (-1) from m7)).trans jz_m1)
   have I13 : jI92 σ5 := (show (-1) ≤ (σ5 9 2).toInt by omega)
   exact hret σ5 τ _ _ _ _ ⟨rfl, (fun i hi => ((jnp i eσ5 (imp_37 i hi)).trans (jnp i eσ4 (imp_37 i hi)))), (fun i hi => ((jkp i eσ5 (imp_38 i hi)).trans (jkp i eσ4 (imp_39 i hi)))), m6, m7, I8, I11, I13, trivial⟩ hP hS dX7_begin_10
set_option maxHeartbeats 4000000 in
set_option maxRecDepth 100000 in
theorem c_X7_isDigit (l : Launch) (D : va_G) (cI cL : ClassId) (ad zz : Nat → Nat) (hJ : jD ad) (σ : Nat → Nat → Int32) (τ : Nat → Nat → Int64) (a1 : Int32) (A1 : Int) (t1 : a1.toInt = A1) : jM l yX7_isDigit cX7_isDigit 1 (some .boolean) ({ frames := 0, cells := 0, slots := 0, locals := 0 }) D cI cL ad zz [.int a1] σ τ (fun r σ' τ' => (σ = σ' ∧ τ = τ') ∧ ((r = 1 ∧ (48 ≤ A1 ∧ A1 ≤ 57)) ∨ (r = 0 ∧ ((A1 < 48) ∨ (57 < A1))))) := by
  refine jM.of hJ (by decide +kernel) (nt := .boolean) rfl (Nat.le_of_ble_eq_true rfl) ?_
  intro p e s m args below meth c Q ls hC hret hl hP
  obtain ⟨hx, hb, hr, hml, hown, hts, hK, -, hlocks, hZ⟩ := hC
  have hown : s.vm.findClass RX7 = some m.cls := hown
  have hS : va_S (jA ad) s.heap s.heap [] := va_S.rf
  have hA : ∀ q, jA ad q → jA ad q := fun _ h => h
  have hl : lv_has ls 1 [(0, .int a1)] := hl
  have g1 := jrg t1
  refine lv_iload_n hx hb dX7_isDigit_0 rfl (lv_at hl 0 rfl) ?_
  refine lv_bipush (v := 48) hx hb dX7_isDigit_1 (of_decide_eq_true rfl) ?_
  refine lv_icmp_lt (tgt := 16) hx hb dX7_isDigit_3 (of_decide_eq_true rfl) (fun c1 => ?_) (fun c1 => ?_)
  · have kc1 := jlt c1 t1 jz_48
    refine lv_iconst (v := 0) hx hb dX7_isDigit_16 (of_decide_eq_true rfl) ?_
    exact hret 0 σ τ _ _ _ _ rfl ⟨⟨rfl, rfl⟩, Or.inr (⟨rfl, (by have h9 := jz_0; omega)⟩)⟩ hP hS dX7_isDigit_17
  · have kc1 := jnlt c1 t1 jz_48
    refine lv_iload_n hx hb dX7_isDigit_6 rfl (lv_at hl 0 rfl) ?_
    refine lv_bipush (v := 57) hx hb dX7_isDigit_7 (of_decide_eq_true rfl) ?_
    refine lv_icmp_gt (tgt := 16) hx hb dX7_isDigit_9 (of_decide_eq_true rfl) (fun c2 => ?_) (fun c2 => ?_)
    · have kc2 := jlt c2 jz_57 t1
      refine lv_iconst (v := 0) hx hb dX7_isDigit_16 (of_decide_eq_true rfl) ?_
      exact hret 0 σ τ _ _ _ _ rfl ⟨⟨rfl, rfl⟩, Or.inr (⟨rfl, (by have h9 := jz_0; omega)⟩)⟩ hP hS dX7_isDigit_17
    · have kc2 := jnlt c2 jz_57 t1
      refine lv_iconst (v := 1) hx hb dX7_isDigit_12 (of_decide_eq_true rfl) ?_
      refine lv_goto (tgt := 17) hx hb dX7_isDigit_13 (of_decide_eq_true rfl) ?_
      exact hret 1 σ τ _ _ _ _ rfl ⟨⟨rfl, rfl⟩, Or.inl ⟨rfl, (by have h9 := jz_1; omega)⟩⟩ hP hS dX7_isDigit_17
set_option maxHeartbeats 4000000 in
set_option maxRecDepth 100000 in
theorem c_X7_sign_9 (l : Launch) (D : va_G) (cI cL : ClassId) (ad zz : Nat → Nat) (hJ : jD ad) (σ : Nat → Nat → Int32) (τ : Nat → Nat → Int64) (hI9 : jI9 σ) : jM l yX7_sign cX7_sign 1 (some .int) ({ frames := 0, cells := 0, slots := 0, locals := 0 }) D cI cL ad zz [.ref (ad 9)] σ τ (fun r σ' τ' => (σ = σ' ∧ τ = τ') ∧ ((r = (σ 10 (σ 9 1).toNatClampNeg) ∧ (0 ≤ (σ 10 (σ 9 1).toNatClampNeg).toInt ∧ (σ 10 (σ 9 1).toNatClampNeg).toInt ≤ 255) ∧ (0 ≤ (σ 9 1).toInt ∧ (σ 9 1).toInt < (σ 9 0).toInt)) ∨ (r = (-1) ∧ (((σ 9 1).toInt < 0) ∨ ((σ 9 0).toInt ≤ (σ 9 1).toInt))))) := by
  refine jM.of hJ (by decide +kernel) (nt := .int) rfl (Nat.le_of_ble_eq_true rfl) ?_
  intro p e s m args below meth c Q ls hC hret hl hP
  obtain ⟨hx, hb, hr, hml, hown, hts, hK, -, hlocks, hZ⟩ := hC
  have hown : s.vm.findClass RX7 = some m.cls := hown
  have hS : va_S (jA ad) s.heap s.heap [] := va_S.rf
  have hA : ∀ q, jA ad q → jA ad q := fun _ h => h
  have hl : lv_has ls 1 [(0, .ref (ad 9))] := hl
  obtain ⟨i1, w2, w3⟩ : (0 ≤ (σ 9 0).toInt ∧ (σ 9 0).toInt ≤ 80) ∧ (∀ k : Nat, k < 80 → 0 ≤ (σ 10 k).toInt ∧ (σ 10 k).toInt ≤ 255) ∧ (∀ k : Nat, k < 8 → 0 ≤ (σ 11 k).toInt ∧ (σ 11 k).toInt ≤ 3) := id hI9
  refine lv_aload_n hx hb dX7_sign_0 rfl (lv_at hl 0 rfl) ?_
  refine va_get (D := D) hx hb hts inlX7 hown hK hP 9 (jc_9 cI cL ad σ τ) rfl 1 (of_decide_eq_true rfl) (hts _ kw_13_17) (fun _ h9 => h9) rfl dX7_sign_1 ?_
  refine lv_if_lt (tgt := 30) hx hb dX7_sign_4 (of_decide_eq_true rfl) (fun c4 => ?_) (fun c4 => ?_)
  · have kc4 := jlt c4 rfl jz_0
    refine lv_iconst (v := (-1)) hx hb dX7_sign_30 (of_decide_eq_true rfl) ?_
    exact hret (-1) σ τ _ _ _ _ rfl ⟨⟨rfl, rfl⟩, Or.inr (⟨rfl, (by have h9 := jz_m1; omega)⟩)⟩ hP hS dX7_sign_31
  · have kc4 := jnlt c4 rfl jz_0
    refine lv_aload_n hx hb dX7_sign_7 rfl (lv_at hl 0 rfl) ?_
    refine va_get (D := D) hx hb hts inlX7 hown hK hP 9 (jc_9 cI cL ad σ τ) rfl 1 (of_decide_eq_true rfl) (hts _ kw_13_17) (fun _ h9 => h9) rfl dX7_sign_8 ?_
    refine lv_aload_n hx hb dX7_sign_11 rfl (lv_at hl 0 rfl) ?_
    refine va_get (D := D) hx hb hts inlX7 hown hK hP 9 (jc_9 cI cL ad σ τ) rfl 0 (of_decide_eq_true rfl) (hts _ kw_13_0) (fun _ h9 => h9) rfl dX7_sign_12 ?_
    refine lv_icmp_ge (tgt := 30) hx hb dX7_sign_15 (of_decide_eq_true rfl) (fun c5 => ?_) (fun c5 => ?_)
    · have kc5 := jle c5 rfl rfl
      refine lv_iconst (v := (-1)) hx hb dX7_sign_30 (of_decide_eq_true rfl) ?_
      exact hret (-1) σ τ _ _ _ _ rfl ⟨⟨rfl, rfl⟩, Or.inr (⟨rfl, (by have h9 := jz_m1; omega)⟩)⟩ hP hS dX7_sign_31
    · have kc5 := jnle c5 rfl rfl
      refine lv_aload_n hx hb dX7_sign_18 rfl (lv_at hl 0 rfl) ?_
      refine va_get (D := D) hx hb hts inlX7 hown hK hP 9 (jc_9 cI cL ad σ τ) rfl 3 (of_decide_eq_true rfl) (hts _ kw_3_20) (fun _ h9 => h9) rfl dX7_sign_19 ?_
      refine lv_aload_n hx hb dX7_sign_22 rfl (lv_at hl 0 rfl) ?_
      refine va_get (D := D) hx hb hts inlX7 hown hK hP 9 (jc_9 cI cL ad σ τ) rfl 1 (of_decide_eq_true rfl) (hts _ kw_13_17) (fun _ h9 => h9) rfl dX7_sign_23 ?_
      exact by
       refine jald hx hb hK hP (jc_10 cI cL ad σ τ) (jin rfl (by omega) (by omega)) dX7_sign_26 ?_
       have g6 := w2 _ (jnat (x := (σ 9 1)) rfl (n := 80) (by omega) (of_decide_eq_true rfl))
       refine jtopr (y := (σ 10 (σ 9 1).toNatClampNeg)) rfl ?_
       refine lv_goto (tgt := 31) hx hb dX7_sign_27 (of_decide_eq_true rfl) ?_
       exact by exact hret (σ 10 (σ 9 1).toNatClampNeg) σ τ _ _ _ _ rfl ⟨⟨rfl, rfl⟩, Or.inl ⟨rfl, (by omega), (by omega)⟩⟩ hP hS dX7_sign_31
set_option maxHeartbeats 4000000 in
set_option maxRecDepth 100000 in
theorem c_X7_fail_9 (l : Launch) (D : va_G) (cI cL : ClassId) (ad zz : Nat → Nat) (hJ : jD ad) (σ : Nat → Nat → Int32) (τ : Nat → Nat → Int64) (a1 : Int32) (A1 : Int) (t1 : a1.toInt = A1) (hI92 : jI92 σ) (hp0 : 0 ≤ A1) : jMv l yX7_fail cX7_fail 2 none ({ frames := 0, cells := 0, slots := 0, locals := 0 }) D cI cL ad zz [.ref (ad 9), .int a1] σ τ (fun σ' τ' => τ = τ' ∧ (∀ i : Nat, (i < 9 ∨ 9 < i) → σ' i = σ i) ∧ (∀ k : Nat, (k < 2 ∨ 2 < k) → σ' 9 k = σ 9 k) ∧ (0 ≤ (σ' 9 2).toInt) ∧ (((σ 9 2).toInt = (-1) ∧ (σ' 9 2).toInt = A1) ∨ (0 ≤ (σ 9 2).toInt ∧ (σ' 9 2).toInt = (σ 9 2).toInt)) ∧ True) := by
  refine jMv.of hJ (by decide +kernel) rfl (Nat.le_of_ble_eq_true rfl) ?_
  intro p e s m args below meth c Q ls hC hret hl hP
  obtain ⟨hx, hb, hr, hml, hown, hts, hK, -, hlocks, hZ⟩ := hC
  have hown : s.vm.findClass RX7 = some m.cls := hown
  have hS : va_S (jA ad) s.heap s.heap [] := va_S.rf
  have hA : ∀ q, jA ad q → jA ad q := fun _ h => h
  have hl : lv_has ls 2 [(0, .ref (ad 9)), (1, .int a1)] := hl
  have g1 := jrg t1
  have i1 : (-1) ≤ (σ 9 2).toInt := hI92
  refine lv_aload_n hx hb dX7_fail_0 rfl (lv_at hl 0 rfl) ?_
  refine va_get (D := D) hx hb hts inlX7 hown hK hP 9 (jc_9 cI cL ad σ τ) rfl 2 (of_decide_eq_true rfl) (hts _ kw_14_6) (fun _ h9 => h9) rfl dX7_fail_1 ?_
  refine lv_iconst (v := (-1)) hx hb dX7_fail_4 (of_decide_eq_true rfl) ?_
  refine lv_icmp_ne (tgt := 13) hx hb dX7_fail_5 (of_decide_eq_true rfl) (fun c2 => ?_) (fun c2 => ?_)
  · have kc2 := jne c2 rfl jz_m1
    exact by exact hret σ τ _ _ _ _ ⟨rfl, (fun _ _ => rfl), (fun _ _ => rfl), (by omega), (by omega), trivial⟩ hP hS dX7_fail_13
  · have kc2 := jeq c2 rfl jz_m1
    refine lv_aload_n hx hb dX7_fail_8 rfl (lv_at hl 0 rfl) ?_
    refine lv_iload_n hx hb dX7_fail_9 rfl (lv_at hl 1 rfl) ?_
    refine jput (ty := .int) hx hb hts inlX7 tyX7 tyX7_ok nmX7 hown hK hP hJ hA hS (jc_9 cI cL ad σ τ) rfl (k := 2) (of_decide_eq_true rfl) (Nat.le_of_ble_eq_true rfl) (jp_9_2 cI cL ad σ τ a1) (hts _ kw_14_6) (fun _ h9 => h9) rfl (by decide +kernel) rfl rfl dX7_fail_10 (fun σ3 H locs eσ3 hP hS => ?_)
    have z4 : (σ3 9 2).toInt = A1 := ((congrArg Int32.toInt (show σ3 9 2 = a1 from (jsp eσ3))).trans t1)
    exact by exact hret σ3 τ _ _ _ _ ⟨rfl, (fun i hi => (jnp i eσ3 (imp_37 i hi))), (fun i hi => (jkp i eσ3 (imp_7 i hi))), (by omega), (by omega), trivial⟩ hP hS dX7_fail_13
set_option maxHeartbeats 4000000 in
set_option maxRecDepth 100000 in
theorem c_X7_end_9 (l : Launch) (D : va_G) (cI cL : ClassId) (ad zz : Nat → Nat) (hJ : jD ad) (σ : Nat → Nat → Int32) (τ : Nat → Nat → Int64) (hI9 : jI9 σ) (hI91 : jI91 σ) (hI92 : jI92 σ) : jM l yX7_end cX7_end 1 (some .int) ({ frames := 0, cells := 0, slots := 0, locals := 0 }) D cI cL ad zz [.ref (ad 9)] σ τ (fun r σ' τ' => τ = τ' ∧ (∀ i : Nat, (i < 9 ∨ 9 < i) → σ' i = σ i) ∧ (∀ k : Nat, (k < 0 ∨ 0 < k) ∧ (k < 2 ∨ 2 < k) → σ' 9 k = σ 9 k) ∧ (jI9 σ') ∧ (jI92 σ') ∧ ((σ' 9 0).toInt = 0) ∧ ((r = (-1) ∧ ((σ 9 2).toInt = (-1)) ∧ ((σ 9 0).toInt ≤ (σ 9 1).toInt)) ∨ (True ∧ (0 ≤ r.toInt) ∧ ((0 ≤ (σ 9 2).toInt ∧ r.toInt = (σ 9 2).toInt) ∨ ((σ 9 2).toInt = (-1) ∧ (σ 9 1).toInt < (σ 9 0).toInt ∧ r.toInt = (σ 9 1).toInt))))) := by
  refine jM.of hJ (by decide +kernel) (nt := .int) rfl (Nat.le_of_ble_eq_true rfl) ?_
  intro p e s m args below meth c Q ls hC hret hl hP
  obtain ⟨hx, hb, hr, hml, hown, hts, hK, -, hlocks, hZ⟩ := hC
  have hown : s.vm.findClass RX7 = some m.cls := hown
  have hS : va_S (jA ad) s.heap s.heap [] := va_S.rf
  have hA : ∀ q, jA ad q → jA ad q := fun _ h => h
  have hl : lv_has ls 1 [(0, .ref (ad 9))] := hl
  obtain ⟨i1, w2, w3⟩ : (0 ≤ (σ 9 0).toInt ∧ (σ 9 0).toInt ≤ 80) ∧ (∀ k : Nat, k < 80 → 0 ≤ (σ 10 k).toInt ∧ (σ 10 k).toInt ≤ 255) ∧ (∀ k : Nat, k < 8 → 0 ≤ (σ 11 k).toInt ∧ (σ 11 k).toInt ≤ 3) := id hI9
  obtain ⟨i4, i5⟩ : (0 ≤ (σ 9 1).toInt) ∧ ((σ 9 1).toInt ≤ (σ 9 0).toInt) := id hI91
  have i6 : (-1) ≤ (σ 9 2).toInt := hI92
  refine lv_aload_n hx hb dX7_end_0 rfl (lv_at hl 0 rfl) ?_
  refine va_get (D := D) hx hb hts inlX7 hown hK hP 9 (jc_9 cI cL ad σ τ) rfl 2 (of_decide_eq_true rfl) (hts _ kw_14_6) (fun _ h9 => h9) rfl dX7_end_1 ?_
  refine lv_iconst (v := (-1)) hx hb dX7_end_4 (of_decide_eq_true rfl) ?_
  refine lv_icmp_ne (tgt := 27) hx hb dX7_end_5 (of_decide_eq_true rfl) (fun c7 => ?_) (fun c7 => ?_)
  · have kc7 := jne c7 rfl jz_m1
    refine lv_aload_n hx hb dX7_end_27 rfl (lv_at hl 0 rfl) ?_
    refine lv_iconst (v := 0) hx hb dX7_end_28 (of_decide_eq_true rfl) ?_
    refine jput (ty := .int) hx hb hts inlX7 tyX7 tyX7_ok nmX7 hown hK hP hJ hA hS (jc_9 cI cL ad σ τ) rfl (k := 0) (of_decide_eq_true rfl) (Nat.le_of_ble_eq_true rfl) (jp_9_0 cI cL ad σ τ 0) (hts _ kw_13_0) (fun _ h9 => h9) rfl (by decide +kernel) rfl rfl dX7_end_29 (fun σ8 H locs eσ8 hP hS => ?_)
    refine lv_aload_n hx hb dX7_end_32 rfl (lv_at hl 0 rfl) ?_
    refine va_get (D := D) hx hb hts inlX7 hown hK hP 9 (jc_9 cI cL ad σ8 τ) rfl 2 (of_decide_eq_true rfl) (hts _ kw_14_6) (fun _ h9 => h9) rfl dX7_end_33 ?_
    have m9 : σ8 9 2 = (σ 9 2) := (jkp 2 eσ8 (of_decide_eq_true rfl))
    refine jtopr m9 ?_
    have z10 : (σ8 9 0).toInt = 0 := ((congrArg Int32.toInt (show σ8 9 0 = 0 from (jsp eσ8))).trans jz_0)
    have w11 : ∀ k : Nat, k < 80 → 0 ≤ (σ8 10 k).toInt ∧ (σ8 10 k).toInt ≤ 255 := (jrr_fr (jnp 10 eσ8 (of_decide_eq_true rfl)) w2)
    have w12 : ∀ k : Nat, k < 8 → 0 ≤ (σ8 11 k).toInt ∧ (σ8 11 k).toInt ≤ 3 := (jrr_fr (jnp 11 eσ8 (of_decide_eq_true rfl)) w3)
    exact by
     have I13 : jI9 σ8 := ⟨(by omega), w11, w12⟩
     have I14 : jI92 σ8 := jI92_fr (jkp 2 eσ8 (of_decide_eq_true rfl)) hI92
     exact by exact hret (σ 9 2) σ8 τ _ _ _ _ rfl ⟨rfl, (fun i hi => (jnp i eσ8 (imp_37 i hi))), (fun i hi => (jkp i eσ8 (imp_40 i hi))), I13, I14, (by omega), Or.inr (⟨trivial, (by omega), (by omega)⟩)⟩ hP hS dX7_end_36
  · have kc7 := jeq c7 rfl jz_m1
    refine lv_aload_n hx hb dX7_end_8 rfl (lv_at hl 0 rfl) ?_
    refine va_get (D := D) hx hb hts inlX7 hown hK hP 9 (jc_9 cI cL ad σ τ) rfl 1 (of_decide_eq_true rfl) (hts _ kw_13_17) (fun _ h9 => h9) rfl dX7_end_9 ?_
    refine lv_aload_n hx hb dX7_end_12 rfl (lv_at hl 0 rfl) ?_
    refine va_get (D := D) hx hb hts inlX7 hown hK hP 9 (jc_9 cI cL ad σ τ) rfl 0 (of_decide_eq_true rfl) (hts _ kw_13_0) (fun _ h9 => h9) rfl dX7_end_13 ?_
    refine lv_icmp_ge (tgt := 27) hx hb dX7_end_16 (of_decide_eq_true rfl) (fun c15 => ?_) (fun c15 => ?_)
    · have kc15 := jle c15 rfl rfl
      refine lv_aload_n hx hb dX7_end_27 rfl (lv_at hl 0 rfl) ?_
      refine lv_iconst (v := 0) hx hb dX7_end_28 (of_decide_eq_true rfl) ?_
      refine jput (ty := .int) hx hb hts inlX7 tyX7 tyX7_ok nmX7 hown hK hP hJ hA hS (jc_9 cI cL ad σ τ) rfl (k := 0) (of_decide_eq_true rfl) (Nat.le_of_ble_eq_true rfl) (jp_9_0 cI cL ad σ τ 0) (hts _ kw_13_0) (fun _ h9 => h9) rfl (by decide +kernel) rfl rfl dX7_end_29 (fun σ16 H locs eσ16 hP hS => ?_)
      refine lv_aload_n hx hb dX7_end_32 rfl (lv_at hl 0 rfl) ?_
      refine va_get (D := D) hx hb hts inlX7 hown hK hP 9 (jc_9 cI cL ad σ16 τ) rfl 2 (of_decide_eq_true rfl) (hts _ kw_14_6) (fun _ h9 => h9) rfl dX7_end_33 ?_
      have m17 : σ16 9 2 = (σ 9 2) := (jkp 2 eσ16 (of_decide_eq_true rfl))
      refine jtopr m17 ?_
      have z18 : (σ16 9 0).toInt = 0 := ((congrArg Int32.toInt (show σ16 9 0 = 0 from (jsp eσ16))).trans jz_0)
      have w19 : ∀ k : Nat, k < 80 → 0 ≤ (σ16 10 k).toInt ∧ (σ16 10 k).toInt ≤ 255 := (jrr_fr (jnp 10 eσ16 (of_decide_eq_true rfl)) w2)
      have w20 : ∀ k : Nat, k < 8 → 0 ≤ (σ16 11 k).toInt ∧ (σ16 11 k).toInt ≤ 3 := (jrr_fr (jnp 11 eσ16 (of_decide_eq_true rfl)) w3)
      exact by
       have I21 : jI9 σ16 := ⟨(by omega), w19, w20⟩
       have I22 : jI92 σ16 := jI92_fr (jkp 2 eσ16 (of_decide_eq_true rfl)) hI92
       exact by exact hret (σ 9 2) σ16 τ _ _ _ _ rfl ⟨rfl, (fun i hi => (jnp i eσ16 (imp_37 i hi))), (fun i hi => (jkp i eσ16 (imp_40 i hi))), I21, I22, (by omega), Or.inl ⟨jsame rfl jz_m1 (by omega), (by omega), (by omega)⟩⟩ hP hS dX7_end_36
    · have kc15 := jnle c15 rfl rfl
      refine lv_aload_n hx hb dX7_end_19 rfl (lv_at hl 0 rfl) ?_
      refine lv_aload_n hx hb dX7_end_20 rfl (lv_at hl 0 rfl) ?_
      refine va_get (D := D) hx hb hts inlX7 hown hK hP 9 (jc_9 cI cL ad σ τ) rfl 1 (of_decide_eq_true rfl) (hts _ kw_13_17) (fun _ h9 => h9) rfl dX7_end_21 ?_
      refine jput (ty := .int) hx hb hts inlX7 tyX7 tyX7_ok nmX7 hown hK hP hJ hA hS (jc_9 cI cL ad σ τ) rfl (k := 2) (of_decide_eq_true rfl) (Nat.le_of_ble_eq_true rfl) (jp_9_2 cI cL ad σ τ (σ 9 1)) (hts _ kw_14_6) (fun _ h9 => h9) rfl (by decide +kernel) rfl rfl dX7_end_24 (fun σ23 H locs eσ23 hP hS => ?_)
      refine lv_aload_n hx hb dX7_end_27 rfl (lv_at hl 0 rfl) ?_
      refine lv_iconst (v := 0) hx hb dX7_end_28 (of_decide_eq_true rfl) ?_
      refine jput (ty := .int) hx hb hts inlX7 tyX7 tyX7_ok nmX7 hown hK hP hJ hA hS (jc_9 cI cL ad σ23 τ) rfl (k := 0) (of_decide_eq_true rfl) (Nat.le_of_ble_eq_true rfl) (jp_9_0 cI cL ad σ23 τ 0) (hts _ kw_13_0) (fun _ h9 => h9) rfl (by decide +kernel) rfl rfl dX7_end_29 (fun σ24 H locs eσ24 hP hS => ?_)
      refine lv_aload_n hx hb dX7_end_32 rfl (lv_at hl 0 rfl) ?_
      refine va_get (D := D) hx hb hts inlX7 hown hK hP 9 (jc_9 cI cL ad σ24 τ) rfl 2 (of_decide_eq_true rfl) (hts _ kw_14_6) (fun _ h9 => h9) rfl dX7_end_33 ?_
      have m25 : σ24 9 2 = (σ 9 1) := ((jkp 2 eσ24 (of_decide_eq_true rfl)).trans (jsp eσ23))
      refine jtopr m25 ?_
      have z26 : (σ24 9 0).toInt = 0 := ((congrArg Int32.toInt (show σ24 9 0 = 0 from (jsp eσ24))).trans jz_0)
      have w27 : ∀ k : Nat, k < 80 → 0 ≤ (σ24 10 k).toInt ∧ (σ24 10 k).toInt ≤ 255 := (jrr_fr (jnp 10 eσ24 (of_decide_eq_true rfl)) (jrr_fr (jnp 10 eσ23 (of_decide_eq_true rfl)) w2))
      have w28 : ∀ k : Nat, k < 8 → 0 ≤ (σ24 11 k).toInt ∧ (σ24 11 k).toInt ≤ 3 := (jrr_fr (jnp 11 eσ24 (of_decide_eq_true rfl)) (jrr_fr (jnp 11 eσ23 (of_decide_eq_true rfl)) w3))
      exact by
       have I29 : jI9 σ24 := ⟨(by omega), w27, w28⟩
       have z30 : (σ24 9 2).toInt = (σ 9 1).toInt := (congrArg Int32.toInt (show σ24 9 2 = (σ 9 1) from m25))
       have I31 : jI92 σ24 := (show (-1) ≤ (σ24 9 2).toInt by omega)
       exact by exact hret (σ 9 1) σ24 τ _ _ _ _ rfl ⟨rfl, (fun i hi => ((jnp i eσ24 (imp_37 i hi)).trans (jnp i eσ23 (imp_37 i hi)))), (fun i hi => ((jkp i eσ24 (imp_40 i hi)).trans (jkp i eσ23 (imp_41 i hi)))), I29, I31, (by omega), Or.inr (⟨trivial, (by omega), (by omega)⟩)⟩ hP hS dX7_end_36
set_option maxHeartbeats 4000000 in
set_option maxRecDepth 100000 in
theorem c_X7_skip_9 (l : Launch) (D : va_G) (cI cL : ClassId) (ad zz : Nat → Nat) (hJ : jD ad) (σ : Nat → Nat → Int32) (τ : Nat → Nat → Int64) (a1 : Int32) (A1 : Int) (t1 : a1.toInt = A1) (hI9 : jI9 σ) (hI91 : jI91 σ) (hI92 : jI92 σ) (hp0 : 0 ≤ A1) : jM l yX7_skip cX7_skip 2 (some .boolean) ({ frames := 1, cells := 0, slots := 0, locals := 20 }) D cI cL ad zz [.ref (ad 9), .int a1] σ τ (fun r σ' τ' => τ = τ' ∧ (∀ i : Nat, (i < 9 ∨ 9 < i) → σ' i = σ i) ∧ (∀ k : Nat, (k < 1 ∨ 1 < k) → σ' 9 k = σ 9 k) ∧ (jI9 σ') ∧ (jI91 σ') ∧ (jI92 σ') ∧ ((r = 1 ∧ ((σ 9 2).toInt = (-1)) ∧ ((σ' 9 1).toInt = (σ 9 1).toInt + 1) ∧ ((σ' 9 2).toInt = (-1)) ∧ (jIs (σ 10) ((σ 9 0).toInt) ((σ 9 1).toInt) (A1))) ∨ (r = 0 ∧ ((σ' 9 1).toInt = (σ 9 1).toInt) ∧ ((σ' 9 2).toInt = (σ 9 2).toInt) ∧ (((σ 9 2).toInt = -1 → ¬ jIs (σ 10) ((σ 9 0).toInt) ((σ 9 1).toInt) (A1)))))) := by
  refine jM.of hJ (by decide +kernel) (nt := .boolean) rfl (Nat.le_of_ble_eq_true rfl) ?_
  intro p e s m args below meth c Q ls hC hret hl hP
  obtain ⟨hx, hb, hr, hml, hown, hts, hK, -, hlocks, hZ⟩ := hC
  have hown : s.vm.findClass RX7 = some m.cls := hown
  have hS : va_S (jA ad) s.heap s.heap [] := va_S.rf
  have hA : ∀ q, jA ad q → jA ad q := fun _ h => h
  have hl : lv_has ls 2 [(0, .ref (ad 9)), (1, .int a1)] := hl
  have g1 := jrg t1
  obtain ⟨i1, w2, w3⟩ : (0 ≤ (σ 9 0).toInt ∧ (σ 9 0).toInt ≤ 80) ∧ (∀ k : Nat, k < 80 → 0 ≤ (σ 10 k).toInt ∧ (σ 10 k).toInt ≤ 255) ∧ (∀ k : Nat, k < 8 → 0 ≤ (σ 11 k).toInt ∧ (σ 11 k).toInt ≤ 3) := id hI9
  obtain ⟨i4, i5⟩ : (0 ≤ (σ 9 1).toInt) ∧ ((σ 9 1).toInt ≤ (σ 9 0).toInt) := id hI91
  have i6 : (-1) ≤ (σ 9 2).toInt := hI92
  refine lv_aload_n hx hb dX7_skip_0 rfl (lv_at hl 0 rfl) ?_
  refine va_get (D := D) hx hb hts inlX7 hown hK hP 9 (jc_9 cI cL ad σ τ) rfl 2 (of_decide_eq_true rfl) (hts _ kw_14_6) (fun _ h9 => h9) rfl dX7_skip_1 ?_
  refine lv_iconst (v := (-1)) hx hb dX7_skip_4 (of_decide_eq_true rfl) ?_
  refine lv_icmp_ne (tgt := 16) hx hb dX7_skip_5 (of_decide_eq_true rfl) (fun c7 => ?_) (fun c7 => ?_)
  · have kc7 := jne c7 rfl jz_m1
    refine lv_iconst (v := 0) hx hb dX7_skip_16 (of_decide_eq_true rfl) ?_
    exact by exact hret 0 σ τ _ _ _ _ rfl ⟨rfl, (fun _ _ => rfl), (fun _ _ => rfl), hI9, hI91, hI92, Or.inr (⟨rfl, (by have h9 := jz_0; omega), (by have h9 := jz_0; omega), (fun h => by unfold jIs; omega)⟩)⟩ hP hS dX7_skip_17
  · have kc7 := jeq c7 rfl jz_m1
    refine lv_aload_n hx hb dX7_skip_8 rfl (lv_at hl 0 rfl) ?_
    refine jcallV (As := []) (rest := []) ⟨hx, hb, hml, hown, hts⟩ hK hP hA hS hZ (c_X7_sign_9 l D cI cL ad zz hJ σ τ hI9) cw_RX7_35 (jc_9 cI cL ad σ τ) rfl ⟨Nat.le_of_ble_eq_true rfl, Nat.le_of_ble_eq_true rfl⟩ rfl rfl rfl hl.1 rfl (Nat.le_of_ble_eq_true rfl) dX7_skip_9 ⟨Nat.zero_le _, Nat.zero_le _⟩ (fun r9 σ8 τ8 H locs h8 hP hS => ?_)
    obtain ⟨⟨rfl, rfl⟩, h8⟩ := h8
    rcases h8 with h10 | h11
    · obtain ⟨q14, k12, k13⟩ := h10
      have q15 : r9 = (σ 10 (σ 9 1).toNatClampNeg) := q14.trans rfl
      have q15 := q15.symm
      subst q15
      refine lv_iload_n hx hb dX7_skip_12 rfl (lv_at hl 1 rfl) ?_
      refine lv_icmp_eq (tgt := 18) hx hb dX7_skip_13 (of_decide_eq_true rfl) (fun c16 => ?_) (fun c16 => ?_)
      · have kc16 := jeq c16 rfl t1
        refine lv_aload_n hx hb dX7_skip_18 rfl (lv_at hl 0 rfl) ?_
        refine lv_dup hx hb dX7_skip_19 rfl ?_
        refine va_get (D := D) hx hb hts inlX7 hown hK hP 9 (jc_9 cI cL ad σ τ) rfl 1 (of_decide_eq_true rfl) (hts _ kw_13_17) (fun _ h9 => h9) rfl dX7_skip_20 ?_
        refine lv_iconst (v := 1) hx hb dX7_skip_23 (of_decide_eq_true rfl) ?_
        have g17 := jrg (rfl : (σ 9 1).toInt = (σ 9 1).toInt)
        refine lv_iadd hx hb dX7_skip_24 ?_
        refine lv_topi (fun x18 ex18 => ?_)
        exact by
         have tx18 : x18.toInt = (σ 9 1).toInt + 1 := (jadd ex18 rfl jz_1 (by omega) (by omega)).trans (by omega)
         refine jput (ty := .int) hx hb hts inlX7 tyX7 tyX7_ok nmX7 hown hK hP hJ hA hS (jc_9 cI cL ad σ τ) rfl (k := 1) (of_decide_eq_true rfl) (Nat.le_of_ble_eq_true rfl) (jp_9_1 cI cL ad σ τ x18) (hts _ kw_13_17) (fun _ h9 => h9) rfl (by decide +kernel) rfl rfl dX7_skip_25 (fun σ19 H locs eσ19 hP hS => ?_)
         refine lv_iconst (v := 1) hx hb dX7_skip_28 (of_decide_eq_true rfl) ?_
         have I20 : jI9 σ19 := jI9_fr (jkp 0 eσ19 (of_decide_eq_true rfl)) (jnp 10 eσ19 (of_decide_eq_true rfl)) (jnp 11 eσ19 (of_decide_eq_true rfl)) hI9
         have z21 : (σ19 9 1).toInt = (σ 9 1).toInt + 1 := ((congrArg Int32.toInt (show σ19 9 1 = x18 from (jsp eσ19))).trans tx18)
         have z22 : (σ19 9 0).toInt = (σ 9 0).toInt := (congrArg Int32.toInt (show σ19 9 0 = (σ 9 0) from (jkp 0 eσ19 (of_decide_eq_true rfl))))
         have I23 : jI91 σ19 := ⟨(by omega), (by omega)⟩
         have I24 : jI92 σ19 := jI92_fr (jkp 2 eσ19 (of_decide_eq_true rfl)) hI92
         have z25 : (σ19 9 2).toInt = (σ 9 2).toInt := (congrArg Int32.toInt (show σ19 9 2 = (σ 9 2) from (jkp 2 eσ19 (of_decide_eq_true rfl))))
         exact by exact hret 1 σ19 τ _ _ _ _ rfl ⟨rfl, (fun i hi => (jnp i eσ19 (imp_37 i hi))), (fun i hi => (jkp i eσ19 (imp_42 i hi))), I20, I23, I24, Or.inl ⟨rfl, (by have h9 := jz_1; omega), (by have h9 := jz_1; omega), (by have h9 := jz_1; omega), (by have i0 := jix (f := σ 10) (show (σ 9 1).toInt = (σ 9 1).toInt by omega); unfold jIs; omega)⟩⟩ hP hS dX7_skip_29
      · exact by
         have kc16 := jne c16 rfl t1
         refine lv_iconst (v := 0) hx hb dX7_skip_16 (of_decide_eq_true rfl) ?_
         exact by exact hret 0 σ τ _ _ _ _ rfl ⟨rfl, (fun _ _ => rfl), (fun _ _ => rfl), hI9, hI91, hI92, Or.inr (⟨rfl, (by have h9 := jz_0; omega), (by have h9 := jz_0; omega), (fun h => by have i0 := jix (f := σ 10) (show (σ 9 1).toInt = (σ 9 1).toInt by omega); unfold jIs; omega)⟩)⟩ hP hS dX7_skip_17
    · obtain ⟨q27, k26⟩ := h11
      have q27 := q27.symm
      subst q27
      refine lv_iload_n hx hb dX7_skip_12 rfl (lv_at hl 1 rfl) ?_
      refine lv_icmp_eq (tgt := 18) hx hb dX7_skip_13 (of_decide_eq_true rfl) (fun c => absurd (jeq c jz_m1 t1) (by omega)) (fun c28 => ?_)
      have kc28 := jne c28 jz_m1 t1
      exact by
       refine lv_iconst (v := 0) hx hb dX7_skip_16 (of_decide_eq_true rfl) ?_
       exact by exact hret 0 σ τ _ _ _ _ rfl ⟨rfl, (fun _ _ => rfl), (fun _ _ => rfl), hI9, hI91, hI92, Or.inr (⟨rfl, (by have h9 := jz_0; omega), (by have h9 := jz_0; omega), (fun h => by unfold jIs; omega)⟩)⟩ hP hS dX7_skip_17
set_option maxHeartbeats 4000000 in
set_option maxRecDepth 100000 in
theorem c_X7_number_4 (l : Launch) (D : va_G) (cI cL : ClassId) (ad zz : Nat → Nat) (hJ : jD ad) (σ : Nat → Nat → Int32) (τ : Nat → Nat → Int64) (hI9 : jI9 σ) (hI91 : jI91 σ) (hI92 : jI92 σ) : jM l yX7_number cX7_number 4 (some .int) ({ frames := 1, cells := 0, slots := 0, locals := 21 }) D cI cL ad zz [.ref (ad 9), .int 4] σ τ (fun r σ' τ' => τ = τ' ∧ (∀ i : Nat, (i < 9 ∨ 9 < i) → σ' i = σ i) ∧ (∀ k : Nat, (k < 1 ∨ 1 < k) ∧ (k < 2 ∨ 2 < k) → σ' 9 k = σ 9 k) ∧ (jI9 σ') ∧ (jI91 σ') ∧ (jI92 σ') ∧ ((0 ≤ (σ 9 2).toInt ∧ 0 ≤ (σ' 9 2).toInt) ∨ ((σ 9 2).toInt = (-1))) ∧ ((True ∧ (0 ≤ r.toInt ∧ r.toInt ≤ 9999)))) := by
  refine jM.of hJ (by decide +kernel) (nt := .int) rfl (Nat.le_of_ble_eq_true rfl) ?_
  intro p e s m args below meth c Q ls hC hret hl hP
  obtain ⟨hx, hb, hr, hml, hown, hts, hK, -, hlocks, hZ⟩ := hC
  have hown : s.vm.findClass RX7 = some m.cls := hown
  have hS : va_S (jA ad) s.heap s.heap [] := va_S.rf
  have hA : ∀ q, jA ad q → jA ad q := fun _ h => h
  have hl : lv_has ls 4 [(0, .ref (ad 9)), (1, .int 4)] := hl
  obtain ⟨i1, w2, w3⟩ : (0 ≤ (σ 9 0).toInt ∧ (σ 9 0).toInt ≤ 80) ∧ (∀ k : Nat, k < 80 → 0 ≤ (σ 10 k).toInt ∧ (σ 10 k).toInt ≤ 255) ∧ (∀ k : Nat, k < 8 → 0 ≤ (σ 11 k).toInt ∧ (σ 11 k).toInt ≤ 3) := id hI9
  obtain ⟨i4, i5⟩ : (0 ≤ (σ 9 1).toInt) ∧ ((σ 9 1).toInt ≤ (σ 9 0).toInt) := id hI91
  have i6 : (-1) ≤ (σ 9 2).toInt := hI92
  refine lv_aload_n hx hb dX7_number_0 rfl (lv_at hl 0 rfl) ?_
  refine jcallV (As := []) (rest := []) ⟨hx, hb, hml, hown, hts⟩ hK hP hA hS hZ (c_X7_sign_9 l D cI cL ad zz hJ σ τ hI9) cw_RX7_35 (jc_9 cI cL ad σ τ) rfl ⟨Nat.le_of_ble_eq_true rfl, Nat.le_of_ble_eq_true rfl⟩ rfl rfl rfl hl.1 rfl (Nat.le_of_ble_eq_true rfl) dX7_number_1 ⟨Nat.zero_le _, Nat.zero_le _⟩ (fun r8 σ7 τ7 H locs h7 hP hS => ?_)
  obtain ⟨⟨rfl, rfl⟩, h7⟩ := h7
  rcases h7 with h9 | h10
  · obtain ⟨q13, k11, k12⟩ := h9
    have q14 : r8 = (σ 10 (σ 9 1).toNatClampNeg) := q13.trans rfl
    have q14 := q14.symm
    subst q14
    refine jcallS (As := [.int (σ 10 (σ 9 1).toNatClampNeg)]) (rest := []) ⟨hx, hb, hml, hown, hts⟩ hK hP hA hS hZ (c_X7_isDigit l D cI cL ad zz hJ σ τ (σ 10 (σ 9 1).toNatClampNeg) ((σ 10 (σ 9 1).toNatClampNeg).toInt) rfl) cw_RX7_39 ⟨Nat.le_of_ble_eq_true rfl, Nat.le_of_ble_eq_true rfl⟩ rfl rfl rfl hl.1 rfl (Nat.le_of_ble_eq_true rfl) dX7_number_4 ⟨Nat.zero_le _, Nat.zero_le _⟩ (fun r16 σ15 τ15 H locs h15 hP hS => ?_)
    obtain ⟨⟨rfl, rfl⟩, h15⟩ := h15
    rcases h15 with h17 | h18
    · obtain ⟨q20, k19⟩ := h17
      have q20 := q20.symm
      subst q20
      refine lv_if_ne (tgt := 18) hx hb dX7_number_7 (of_decide_eq_true rfl) (fun _ => ?_) (fun c => absurd c (of_decide_eq_true rfl))
      refine lv_iconst (v := 0) hx hb dX7_number_18 (of_decide_eq_true rfl) ?_
      refine lv_istore_n (lv' := [(2, .int 0), (0, .ref (ad 9)), (1, .int 4)]) hx hb dX7_number_19 rfl hl (of_decide_eq_true rfl) rfl (fun ls hl => ?_)
      refine lv_iconst (v := 0) hx hb dX7_number_20 (of_decide_eq_true rfl) ?_
      refine lv_istore_n (lv' := [(3, .int 0), (2, .int 0), (0, .ref (ad 9)), (1, .int 4)]) hx hb dX7_number_21 rfl hl (of_decide_eq_true rfl) rfl (fun ls hl => ?_)
      refine lv_iload_n hx hb dX7_number_22 rfl (lv_at hl 0 rfl) ?_
      refine lv_iload_n hx hb dX7_number_23 rfl (lv_at hl 3 rfl) ?_
      refine lv_icmp_ge (tgt := 68) hx hb dX7_number_24 (of_decide_eq_true rfl) (fun c => absurd c (of_decide_eq_true rfl)) (fun _ => ?_)
      refine lv_aload_n hx hb dX7_number_27 rfl (lv_at hl 2 rfl) ?_
      refine jcallV (As := []) (rest := []) ⟨hx, hb, hml, hown, hts⟩ hK hP hA hS hZ (c_X7_sign_9 l D cI cL ad zz hJ σ τ hI9) cw_RX7_35 (jc_9 cI cL ad σ τ) rfl ⟨Nat.le_of_ble_eq_true rfl, Nat.le_of_ble_eq_true rfl⟩ rfl rfl rfl hl.1 rfl (Nat.le_of_ble_eq_true rfl) dX7_number_28 ⟨Nat.zero_le _, Nat.zero_le _⟩ (fun r22 σ21 τ21 H locs h21 hP hS => ?_)
      obtain ⟨⟨rfl, rfl⟩, h21⟩ := h21
      rcases h21 with h23 | h24
      · obtain ⟨q27, k25, k26⟩ := h23
        have q28 : r22 = (σ 10 (σ 9 1).toNatClampNeg) := q27.trans rfl
        have q28 := q28.symm
        subst q28
        refine jcallS (As := [.int (σ 10 (σ 9 1).toNatClampNeg)]) (rest := []) ⟨hx, hb, hml, hown, hts⟩ hK hP hA hS hZ (c_X7_isDigit l D cI cL ad zz hJ σ τ (σ 10 (σ 9 1).toNatClampNeg) ((σ 10 (σ 9 1).toNatClampNeg).toInt) rfl) cw_RX7_39 ⟨Nat.le_of_ble_eq_true rfl, Nat.le_of_ble_eq_true rfl⟩ rfl rfl rfl hl.1 rfl (Nat.le_of_ble_eq_true rfl) dX7_number_31 ⟨Nat.zero_le _, Nat.zero_le _⟩ (fun r30 σ29 τ29 H locs h29 hP hS => ?_)
        obtain ⟨⟨rfl, rfl⟩, h29⟩ := h29
        rcases h29 with h31 | h32
        · obtain ⟨q34, k33⟩ := h31
          have q34 := q34.symm
          subst q34
          refine lv_if_eq (tgt := 68) hx hb dX7_number_34 (of_decide_eq_true rfl) (fun c => absurd c (of_decide_eq_true rfl)) (fun _ => ?_)
          refine lv_iload_n hx hb dX7_number_37 rfl (lv_at hl 1 rfl) ?_
          refine lv_bipush (v := 10) hx hb dX7_number_38 (of_decide_eq_true rfl) ?_
          refine lv_imul hx hb dX7_number_40 ?_
          refine jtopr (y := 0) (of_decide_eq_true rfl) ?_
          refine lv_aload_n hx hb dX7_number_41 rfl (lv_at hl 2 rfl) ?_
          refine va_get (D := D) hx hb hts inlX7 hown hK hP 9 (jc_9 cI cL ad σ τ) rfl 3 (of_decide_eq_true rfl) (hts _ kw_3_20) (fun _ h9 => h9) rfl dX7_number_42 ?_
          refine lv_aload_n hx hb dX7_number_45 rfl (lv_at hl 2 rfl) ?_
          refine lv_dup hx hb dX7_number_46 rfl ?_
          refine va_get (D := D) hx hb hts inlX7 hown hK hP 9 (jc_9 cI cL ad σ τ) rfl 1 (of_decide_eq_true rfl) (hts _ kw_13_17) (fun _ h9 => h9) rfl dX7_number_47 ?_
          refine lv_dup_x1 hx hb dX7_number_50 rfl rfl ?_
          refine lv_iconst (v := 1) hx hb dX7_number_51 (of_decide_eq_true rfl) ?_
          have g35 := jrg (rfl : (σ 9 1).toInt = (σ 9 1).toInt)
          refine lv_iadd hx hb dX7_number_52 ?_
          refine lv_topi (fun x36 ex36 => ?_)
          exact by
           have tx36 : x36.toInt = (σ 9 1).toInt + 1 := (jadd ex36 rfl jz_1 (by omega) (by omega)).trans (by omega)
           refine jput (ty := .int) hx hb hts inlX7 tyX7 tyX7_ok nmX7 hown hK hP hJ hA hS (jc_9 cI cL ad σ τ) rfl (k := 1) (of_decide_eq_true rfl) (Nat.le_of_ble_eq_true rfl) (jp_9_1 cI cL ad σ τ x36) (hts _ kw_13_17) (fun _ h9 => h9) rfl (by decide +kernel) rfl rfl dX7_number_53 (fun σ37 H locs eσ37 hP hS => ?_)
           refine jald hx hb hK hP (jc_10 cI cL ad σ37 τ) (jin rfl (by omega) (by omega)) dX7_number_56 ?_
           refine jtopr (y := (σ 10 (σ 9 1).toNatClampNeg)) (by rw [jnp 10 eσ37 (of_decide_eq_true rfl)]) ?_
           refine lv_iadd hx hb dX7_number_57 ?_
           refine jtopr (y := (σ 10 (σ 9 1).toNatClampNeg)) (by rw [Int32.zero_add]) ?_
           refine lv_bipush (v := 48) hx hb dX7_number_58 (of_decide_eq_true rfl) ?_
           have g38 := jrg (rfl : (σ 10 (σ 9 1).toNatClampNeg).toInt = (σ 10 (σ 9 1).toNatClampNeg).toInt)
           refine lv_isub hx hb dX7_number_60 ?_
           exact by
            refine lv_topi (fun x39 ex39 => ?_)
            have tx39 : x39.toInt = (σ 10 (σ 9 1).toNatClampNeg).toInt - 48 := (jsub ex39 rfl jz_48 (by omega) (by omega)).trans (by omega)
            refine lv_istore_n (lv' := [(2, .int x39), (3, .int 0), (0, .ref (ad 9)), (1, .int 4)]) hx hb dX7_number_61 rfl hl (of_decide_eq_true rfl) rfl (fun ls hl => ?_)
            refine lv_iinc (v := 1) (lv' := [(3, .int 1), (2, .int x39), (0, .ref (ad 9)), (1, .int 4)]) hx hb dX7_number_62 hl (k := 1) rfl (of_decide_eq_true rfl) (of_decide_eq_true rfl) rfl (fun ls hl => ?_)
            refine lv_goto (tgt := 22) hx hb dX7_number_65 (of_decide_eq_true rfl) ?_
            refine lv_iload_n hx hb dX7_number_22 rfl (lv_at hl 0 rfl) ?_
            refine lv_iload_n hx hb dX7_number_23 rfl (lv_at hl 3 rfl) ?_
            refine lv_icmp_ge (tgt := 68) hx hb dX7_number_24 (of_decide_eq_true rfl) (fun c => absurd c (of_decide_eq_true rfl)) (fun _ => ?_)
            refine lv_aload_n hx hb dX7_number_27 rfl (lv_at hl 2 rfl) ?_
            exact by
             have I40 : jI9 σ37 := jI9_fr (jkp 0 eσ37 (of_decide_eq_true rfl)) (jnp 10 eσ37 (of_decide_eq_true rfl)) (jnp 11 eσ37 (of_decide_eq_true rfl)) hI9
             have z41 : (σ37 9 1).toInt = (σ 9 1).toInt + 1 := ((congrArg Int32.toInt (show σ37 9 1 = x36 from (jsp eσ37))).trans tx36)
             have z42 : (σ37 9 0).toInt = (σ 9 0).toInt := (congrArg Int32.toInt (show σ37 9 0 = (σ 9 0) from (jkp 0 eσ37 (of_decide_eq_true rfl))))
             refine jcallV (As := []) (rest := []) ⟨hx, hb, hml, hown, hts⟩ hK hP hA hS hZ (c_X7_sign_9 l D cI cL ad zz hJ σ37 τ I40) cw_RX7_35 (jc_9 cI cL ad σ37 τ) rfl ⟨Nat.le_of_ble_eq_true rfl, Nat.le_of_ble_eq_true rfl⟩ rfl rfl rfl hl.1 rfl (Nat.le_of_ble_eq_true rfl) dX7_number_28 ⟨Nat.zero_le _, Nat.zero_le _⟩ (fun r44 σ43 τ43 H locs h43 hP hS => ?_)
             obtain ⟨⟨rfl, rfl⟩, h43⟩ := h43
             rcases h43 with h45 | h46
             · obtain ⟨q49, k47, k48⟩ := h45
               have q50 : r44 = (σ 10 x36.toNatClampNeg) := q49.trans (by rw [(show σ37 9 1 = x36 from (jsp eσ37)), jnp 10 eσ37 (of_decide_eq_true rfl)])
               have q50e : (σ37 10 (σ37 9 1).toNatClampNeg).toInt = (σ 10 x36.toNatClampNeg).toInt := by rw [← q49, ← q50]
               exact by
                have q50 := q50.symm
                subst q50
                refine jcallS (As := [.int (σ 10 x36.toNatClampNeg)]) (rest := []) ⟨hx, hb, hml, hown, hts⟩ hK hP hA hS hZ (c_X7_isDigit l D cI cL ad zz hJ σ37 τ (σ 10 x36.toNatClampNeg) ((σ 10 x36.toNatClampNeg).toInt) rfl) cw_RX7_39 ⟨Nat.le_of_ble_eq_true rfl, Nat.le_of_ble_eq_true rfl⟩ rfl rfl rfl hl.1 rfl (Nat.le_of_ble_eq_true rfl) dX7_number_31 ⟨Nat.zero_le _, Nat.zero_le _⟩ (fun r52 σ51 τ51 H locs h51 hP hS => ?_)
                obtain ⟨⟨rfl, rfl⟩, h51⟩ := h51
                rcases h51 with h53 | h54
                · obtain ⟨q56, k55⟩ := h53
                  have q56 := q56.symm
                  subst q56
                  refine lv_if_eq (tgt := 68) hx hb dX7_number_34 (of_decide_eq_true rfl) (fun c => absurd c (of_decide_eq_true rfl)) (fun _ => ?_)
                  refine lv_iload_n hx hb dX7_number_37 rfl (lv_at hl 1 rfl) ?_
                  refine lv_bipush (v := 10) hx hb dX7_number_38 (of_decide_eq_true rfl) ?_
                  refine lv_imul hx hb dX7_number_40 ?_
                  refine lv_topi (fun x57 ex57 => ?_)
                  exact by
                   have tx57 : x57.toInt = 10 * (σ 10 (σ 9 1).toNatClampNeg).toInt - 480 := (jmul ex57 tx39 jz_10 (by omega) (by omega)).trans (by omega)
                   refine lv_aload_n hx hb dX7_number_41 rfl (lv_at hl 2 rfl) ?_
                   refine va_get (D := D) hx hb hts inlX7 hown hK hP 9 (jc_9 cI cL ad σ37 τ) rfl 3 (of_decide_eq_true rfl) (hts _ kw_3_20) (fun _ h9 => h9) rfl dX7_number_42 ?_
                   refine lv_aload_n hx hb dX7_number_45 rfl (lv_at hl 2 rfl) ?_
                   refine lv_dup hx hb dX7_number_46 rfl ?_
                   refine va_get (D := D) hx hb hts inlX7 hown hK hP 9 (jc_9 cI cL ad σ37 τ) rfl 1 (of_decide_eq_true rfl) (hts _ kw_13_17) (fun _ h9 => h9) rfl dX7_number_47 ?_
                   have m58 : σ37 9 1 = x36 := (jsp eσ37)
                   refine jtopr m58 ?_
                   refine lv_dup_x1 hx hb dX7_number_50 rfl rfl ?_
                   refine lv_iconst (v := 1) hx hb dX7_number_51 (of_decide_eq_true rfl) ?_
                   refine lv_iadd hx hb dX7_number_52 ?_
                   refine lv_topi (fun x59 ex59 => ?_)
                   exact by
                    have tx59 : x59.toInt = (σ 9 1).toInt + 2 := (jadd ex59 tx36 jz_1 (by omega) (by omega)).trans (by omega)
                    refine jput (ty := .int) hx hb hts inlX7 tyX7 tyX7_ok nmX7 hown hK hP hJ hA hS (jc_9 cI cL ad σ37 τ) rfl (k := 1) (of_decide_eq_true rfl) (Nat.le_of_ble_eq_true rfl) (jp_9_1 cI cL ad σ37 τ x59) (hts _ kw_13_17) (fun _ h9 => h9) rfl (by decide +kernel) rfl rfl dX7_number_53 (fun σ60 H locs eσ60 hP hS => ?_)
                    refine jald hx hb hK hP (jc_10 cI cL ad σ60 τ) (jin tx36 (by omega) (by omega)) dX7_number_56 ?_
                    refine jtopr (y := (σ 10 x36.toNatClampNeg)) (by rw [jnp 10 eσ60 (of_decide_eq_true rfl), jnp 10 eσ37 (of_decide_eq_true rfl)]) ?_
                    have g61 := jrg (rfl : (σ 10 x36.toNatClampNeg).toInt = (σ 10 x36.toNatClampNeg).toInt)
                    refine lv_iadd hx hb dX7_number_57 ?_
                    refine lv_topi (fun x62 ex62 => ?_)
                    have tx62 : x62.toInt = 10 * (σ 10 (σ 9 1).toNatClampNeg).toInt + (σ 10 x36.toNatClampNeg).toInt - 480 := (jadd ex62 tx57 rfl (by omega) (by omega)).trans (by omega)
                    refine lv_bipush (v := 48) hx hb dX7_number_58 (of_decide_eq_true rfl) ?_
                    exact by
                     refine lv_isub hx hb dX7_number_60 ?_
                     refine lv_topi (fun x63 ex63 => ?_)
                     have tx63 : x63.toInt = 10 * (σ 10 (σ 9 1).toNatClampNeg).toInt + (σ 10 x36.toNatClampNeg).toInt - 528 := (jsub ex63 tx62 jz_48 (by omega) (by omega)).trans (by omega)
                     refine lv_istore_n (lv' := [(2, .int x63), (3, .int 1), (0, .ref (ad 9)), (1, .int 4)]) hx hb dX7_number_61 rfl hl (of_decide_eq_true rfl) rfl (fun ls hl => ?_)
                     refine lv_iinc (v := 2) (lv' := [(3, .int 2), (2, .int x63), (0, .ref (ad 9)), (1, .int 4)]) hx hb dX7_number_62 hl (k := 1) rfl (of_decide_eq_true rfl) (of_decide_eq_true rfl) rfl (fun ls hl => ?_)
                     refine lv_goto (tgt := 22) hx hb dX7_number_65 (of_decide_eq_true rfl) ?_
                     refine lv_iload_n hx hb dX7_number_22 rfl (lv_at hl 0 rfl) ?_
                     refine lv_iload_n hx hb dX7_number_23 rfl (lv_at hl 3 rfl) ?_
                     refine lv_icmp_ge (tgt := 68) hx hb dX7_number_24 (of_decide_eq_true rfl) (fun c => absurd c (of_decide_eq_true rfl)) (fun _ => ?_)
                     exact by
                      refine lv_aload_n hx hb dX7_number_27 rfl (lv_at hl 2 rfl) ?_
                      have I64 : jI9 σ60 := jI9_fr (jkp 0 eσ60 (of_decide_eq_true rfl)) (jnp 10 eσ60 (of_decide_eq_true rfl)) (jnp 11 eσ60 (of_decide_eq_true rfl)) I40
                      have z65 : (σ60 9 1).toInt = (σ 9 1).toInt + 2 := ((congrArg Int32.toInt (show σ60 9 1 = x59 from (jsp eσ60))).trans tx59)
                      have z66 : (σ60 9 0).toInt = (σ 9 0).toInt := (congrArg Int32.toInt (show σ60 9 0 = (σ 9 0) from ((jkp 0 eσ60 (of_decide_eq_true rfl)).trans (jkp 0 eσ37 (of_decide_eq_true rfl)))))
                      refine jcallV (As := []) (rest := []) ⟨hx, hb, hml, hown, hts⟩ hK hP hA hS hZ (c_X7_sign_9 l D cI cL ad zz hJ σ60 τ I64) cw_RX7_35 (jc_9 cI cL ad σ60 τ) rfl ⟨Nat.le_of_ble_eq_true rfl, Nat.le_of_ble_eq_true rfl⟩ rfl rfl rfl hl.1 rfl (Nat.le_of_ble_eq_true rfl) dX7_number_28 ⟨Nat.zero_le _, Nat.zero_le _⟩ (fun r68 σ67 τ67 H locs h67 hP hS => ?_)
                      obtain ⟨⟨rfl, rfl⟩, h67⟩ := h67
                      rcases h67 with h69 | h70
                      · obtain ⟨q73, k71, k72⟩ := h69
                        have q74 : r68 = (σ 10 x59.toNatClampNeg) := q73.trans (by rw [(show σ60 9 1 = x59 from (jsp eσ60)), jnp 10 eσ60 (of_decide_eq_true rfl), jnp 10 eσ37 (of_decide_eq_true rfl)])
                        exact by
                         have q74e : (σ60 10 (σ60 9 1).toNatClampNeg).toInt = (σ 10 x59.toNatClampNeg).toInt := by rw [← q73, ← q74]
                         have q74 := q74.symm
                         subst q74
                         refine jcallS (As := [.int (σ 10 x59.toNatClampNeg)]) (rest := []) ⟨hx, hb, hml, hown, hts⟩ hK hP hA hS hZ (c_X7_isDigit l D cI cL ad zz hJ σ60 τ (σ 10 x59.toNatClampNeg) ((σ 10 x59.toNatClampNeg).toInt) rfl) cw_RX7_39 ⟨Nat.le_of_ble_eq_true rfl, Nat.le_of_ble_eq_true rfl⟩ rfl rfl rfl hl.1 rfl (Nat.le_of_ble_eq_true rfl) dX7_number_31 ⟨Nat.zero_le _, Nat.zero_le _⟩ (fun r76 σ75 τ75 H locs h75 hP hS => ?_)
                         obtain ⟨⟨rfl, rfl⟩, h75⟩ := h75
                         rcases h75 with h77 | h78
                         · obtain ⟨q80, k79⟩ := h77
                           have q80 := q80.symm
                           subst q80
                           refine lv_if_eq (tgt := 68) hx hb dX7_number_34 (of_decide_eq_true rfl) (fun c => absurd c (of_decide_eq_true rfl)) (fun _ => ?_)
                           refine lv_iload_n hx hb dX7_number_37 rfl (lv_at hl 1 rfl) ?_
                           refine lv_bipush (v := 10) hx hb dX7_number_38 (of_decide_eq_true rfl) ?_
                           refine lv_imul hx hb dX7_number_40 ?_
                           refine lv_topi (fun x81 ex81 => ?_)
                           exact by
                            have tx81 : x81.toInt = 100 * (σ 10 (σ 9 1).toNatClampNeg).toInt + 10 * (σ 10 x36.toNatClampNeg).toInt - 5280 := (jmul ex81 tx63 jz_10 (by omega) (by omega)).trans (by omega)
                            refine lv_aload_n hx hb dX7_number_41 rfl (lv_at hl 2 rfl) ?_
                            refine va_get (D := D) hx hb hts inlX7 hown hK hP 9 (jc_9 cI cL ad σ60 τ) rfl 3 (of_decide_eq_true rfl) (hts _ kw_3_20) (fun _ h9 => h9) rfl dX7_number_42 ?_
                            refine lv_aload_n hx hb dX7_number_45 rfl (lv_at hl 2 rfl) ?_
                            refine lv_dup hx hb dX7_number_46 rfl ?_
                            refine va_get (D := D) hx hb hts inlX7 hown hK hP 9 (jc_9 cI cL ad σ60 τ) rfl 1 (of_decide_eq_true rfl) (hts _ kw_13_17) (fun _ h9 => h9) rfl dX7_number_47 ?_
                            have m82 : σ60 9 1 = x59 := (jsp eσ60)
                            refine jtopr m82 ?_
                            refine lv_dup_x1 hx hb dX7_number_50 rfl rfl ?_
                            refine lv_iconst (v := 1) hx hb dX7_number_51 (of_decide_eq_true rfl) ?_
                            refine lv_iadd hx hb dX7_number_52 ?_
                            refine lv_topi (fun x83 ex83 => ?_)
                            exact by
                             have tx83 : x83.toInt = (σ 9 1).toInt + 3 := (jadd ex83 tx59 jz_1 (by omega) (by omega)).trans (by omega)
                             refine jput (ty := .int) hx hb hts inlX7 tyX7 tyX7_ok nmX7 hown hK hP hJ hA hS (jc_9 cI cL ad σ60 τ) rfl (k := 1) (of_decide_eq_true rfl) (Nat.le_of_ble_eq_true rfl) (jp_9_1 cI cL ad σ60 τ x83) (hts _ kw_13_17) (fun _ h9 => h9) rfl (by decide +kernel) rfl rfl dX7_number_53 (fun σ84 H locs eσ84 hP hS => ?_)
                             refine jald hx hb hK hP (jc_10 cI cL ad σ84 τ) (jin tx59 (by omega) (by omega)) dX7_number_56 ?_
                             refine jtopr (y := (σ 10 x59.toNatClampNeg)) (by rw [jnp 10 eσ84 (of_decide_eq_true rfl), jnp 10 eσ60 (of_decide_eq_true rfl), jnp 10 eσ37 (of_decide_eq_true rfl)]) ?_
                             have g85 := jrg (rfl : (σ 10 x59.toNatClampNeg).toInt = (σ 10 x59.toNatClampNeg).toInt)
                             refine lv_iadd hx hb dX7_number_57 ?_
                             refine lv_topi (fun x86 ex86 => ?_)
                             have tx86 : x86.toInt = 100 * (σ 10 (σ 9 1).toNatClampNeg).toInt + 10 * (σ 10 x36.toNatClampNeg).toInt + (σ 10 x59.toNatClampNeg).toInt - 5280 := (jadd ex86 tx81 rfl (by omega) (by omega)).trans (by omega)
                             refine lv_bipush (v := 48) hx hb dX7_number_58 (of_decide_eq_true rfl) ?_
                             exact by
                              refine lv_isub hx hb dX7_number_60 ?_
                              refine lv_topi (fun x87 ex87 => ?_)
                              have tx87 : x87.toInt = 100 * (σ 10 (σ 9 1).toNatClampNeg).toInt + 10 * (σ 10 x36.toNatClampNeg).toInt + (σ 10 x59.toNatClampNeg).toInt - 5328 := (jsub ex87 tx86 jz_48 (by omega) (by omega)).trans (by omega)
                              refine lv_istore_n (lv' := [(2, .int x87), (3, .int 2), (0, .ref (ad 9)), (1, .int 4)]) hx hb dX7_number_61 rfl hl (of_decide_eq_true rfl) rfl (fun ls hl => ?_)
                              refine lv_iinc (v := 3) (lv' := [(3, .int 3), (2, .int x87), (0, .ref (ad 9)), (1, .int 4)]) hx hb dX7_number_62 hl (k := 1) rfl (of_decide_eq_true rfl) (of_decide_eq_true rfl) rfl (fun ls hl => ?_)
                              refine lv_goto (tgt := 22) hx hb dX7_number_65 (of_decide_eq_true rfl) ?_
                              refine lv_iload_n hx hb dX7_number_22 rfl (lv_at hl 0 rfl) ?_
                              refine lv_iload_n hx hb dX7_number_23 rfl (lv_at hl 3 rfl) ?_
                              refine lv_icmp_ge (tgt := 68) hx hb dX7_number_24 (of_decide_eq_true rfl) (fun c => absurd c (of_decide_eq_true rfl)) (fun _ => ?_)
                              exact by
                               refine lv_aload_n hx hb dX7_number_27 rfl (lv_at hl 2 rfl) ?_
                               have I88 : jI9 σ84 := jI9_fr (jkp 0 eσ84 (of_decide_eq_true rfl)) (jnp 10 eσ84 (of_decide_eq_true rfl)) (jnp 11 eσ84 (of_decide_eq_true rfl)) I64
                               have z89 : (σ84 9 1).toInt = (σ 9 1).toInt + 3 := ((congrArg Int32.toInt (show σ84 9 1 = x83 from (jsp eσ84))).trans tx83)
                               have z90 : (σ84 9 0).toInt = (σ 9 0).toInt := (congrArg Int32.toInt (show σ84 9 0 = (σ 9 0) from ((jkp 0 eσ84 (of_decide_eq_true rfl)).trans ((jkp 0 eσ60 (of_decide_eq_true rfl)).trans (jkp 0 eσ37 (of_decide_eq_true rfl))))))
                               refine jcallV (As := []) (rest := []) ⟨hx, hb, hml, hown, hts⟩ hK hP hA hS hZ (c_X7_sign_9 l D cI cL ad zz hJ σ84 τ I88) cw_RX7_35 (jc_9 cI cL ad σ84 τ) rfl ⟨Nat.le_of_ble_eq_true rfl, Nat.le_of_ble_eq_true rfl⟩ rfl rfl rfl hl.1 rfl (Nat.le_of_ble_eq_true rfl) dX7_number_28 ⟨Nat.zero_le _, Nat.zero_le _⟩ (fun r92 σ91 τ91 H locs h91 hP hS => ?_)
                               obtain ⟨⟨rfl, rfl⟩, h91⟩ := h91
                               rcases h91 with h93 | h94
                               · obtain ⟨q97, k95, k96⟩ := h93
                                 have q98 : r92 = (σ 10 x83.toNatClampNeg) := q97.trans (by rw [(show σ84 9 1 = x83 from (jsp eσ84)), jnp 10 eσ84 (of_decide_eq_true rfl), jnp 10 eσ60 (of_decide_eq_true rfl), jnp 10 eσ37 (of_decide_eq_true rfl)])
                                 exact by
                                  have q98e : (σ84 10 (σ84 9 1).toNatClampNeg).toInt = (σ 10 x83.toNatClampNeg).toInt := by rw [← q97, ← q98]
                                  have q98 := q98.symm
                                  subst q98
                                  refine jcallS (As := [.int (σ 10 x83.toNatClampNeg)]) (rest := []) ⟨hx, hb, hml, hown, hts⟩ hK hP hA hS hZ (c_X7_isDigit l D cI cL ad zz hJ σ84 τ (σ 10 x83.toNatClampNeg) ((σ 10 x83.toNatClampNeg).toInt) rfl) cw_RX7_39 ⟨Nat.le_of_ble_eq_true rfl, Nat.le_of_ble_eq_true rfl⟩ rfl rfl rfl hl.1 rfl (Nat.le_of_ble_eq_true rfl) dX7_number_31 ⟨Nat.zero_le _, Nat.zero_le _⟩ (fun r100 σ99 τ99 H locs h99 hP hS => ?_)
                                  obtain ⟨⟨rfl, rfl⟩, h99⟩ := h99
                                  rcases h99 with h101 | h102
                                  · obtain ⟨q104, k103⟩ := h101
                                    have q104 := q104.symm
                                    subst q104
                                    refine lv_if_eq (tgt := 68) hx hb dX7_number_34 (of_decide_eq_true rfl) (fun c => absurd c (of_decide_eq_true rfl)) (fun _ => ?_)
                                    refine lv_iload_n hx hb dX7_number_37 rfl (lv_at hl 1 rfl) ?_
                                    refine lv_bipush (v := 10) hx hb dX7_number_38 (of_decide_eq_true rfl) ?_
                                    refine lv_imul hx hb dX7_number_40 ?_
                                    refine lv_topi (fun x105 ex105 => ?_)
                                    exact by
                                     have tx105 : x105.toInt = 1000 * (σ 10 (σ 9 1).toNatClampNeg).toInt + 100 * (σ 10 x36.toNatClampNeg).toInt + 10 * (σ 10 x59.toNatClampNeg).toInt - 53280 := (jmul ex105 tx87 jz_10 (by omega) (by omega)).trans (by omega)
                                     refine lv_aload_n hx hb dX7_number_41 rfl (lv_at hl 2 rfl) ?_
                                     refine va_get (D := D) hx hb hts inlX7 hown hK hP 9 (jc_9 cI cL ad σ84 τ) rfl 3 (of_decide_eq_true rfl) (hts _ kw_3_20) (fun _ h9 => h9) rfl dX7_number_42 ?_
                                     refine lv_aload_n hx hb dX7_number_45 rfl (lv_at hl 2 rfl) ?_
                                     refine lv_dup hx hb dX7_number_46 rfl ?_
                                     refine va_get (D := D) hx hb hts inlX7 hown hK hP 9 (jc_9 cI cL ad σ84 τ) rfl 1 (of_decide_eq_true rfl) (hts _ kw_13_17) (fun _ h9 => h9) rfl dX7_number_47 ?_
                                     have m106 : σ84 9 1 = x83 := (jsp eσ84)
                                     refine jtopr m106 ?_
                                     refine lv_dup_x1 hx hb dX7_number_50 rfl rfl ?_
                                     refine lv_iconst (v := 1) hx hb dX7_number_51 (of_decide_eq_true rfl) ?_
                                     refine lv_iadd hx hb dX7_number_52 ?_
                                     refine lv_topi (fun x107 ex107 => ?_)
                                     exact by
                                      have tx107 : x107.toInt = (σ 9 1).toInt + 4 := (jadd ex107 tx83 jz_1 (by omega) (by omega)).trans (by omega)
                                      refine jput (ty := .int) hx hb hts inlX7 tyX7 tyX7_ok nmX7 hown hK hP hJ hA hS (jc_9 cI cL ad σ84 τ) rfl (k := 1) (of_decide_eq_true rfl) (Nat.le_of_ble_eq_true rfl) (jp_9_1 cI cL ad σ84 τ x107) (hts _ kw_13_17) (fun _ h9 => h9) rfl (by decide +kernel) rfl rfl dX7_number_53 (fun σ108 H locs eσ108 hP hS => ?_)
                                      refine jald hx hb hK hP (jc_10 cI cL ad σ108 τ) (jin tx83 (by omega) (by omega)) dX7_number_56 ?_
                                      refine jtopr (y := (σ 10 x83.toNatClampNeg)) (by rw [jnp 10 eσ108 (of_decide_eq_true rfl), jnp 10 eσ84 (of_decide_eq_true rfl), jnp 10 eσ60 (of_decide_eq_true rfl), jnp 10 eσ37 (of_decide_eq_true rfl)]) ?_
                                      have g109 := jrg (rfl : (σ 10 x83.toNatClampNeg).toInt = (σ 10 x83.toNatClampNeg).toInt)
                                      refine lv_iadd hx hb dX7_number_57 ?_
                                      refine lv_topi (fun x110 ex110 => ?_)
                                      have tx110 : x110.toInt = 1000 * (σ 10 (σ 9 1).toNatClampNeg).toInt + 100 * (σ 10 x36.toNatClampNeg).toInt + 10 * (σ 10 x59.toNatClampNeg).toInt + (σ 10 x83.toNatClampNeg).toInt - 53280 := (jadd ex110 tx105 rfl (by omega) (by omega)).trans (by omega)
                                      refine lv_bipush (v := 48) hx hb dX7_number_58 (of_decide_eq_true rfl) ?_
                                      exact by
                                       refine lv_isub hx hb dX7_number_60 ?_
                                       refine lv_topi (fun x111 ex111 => ?_)
                                       have tx111 : x111.toInt = 1000 * (σ 10 (σ 9 1).toNatClampNeg).toInt + 100 * (σ 10 x36.toNatClampNeg).toInt + 10 * (σ 10 x59.toNatClampNeg).toInt + (σ 10 x83.toNatClampNeg).toInt - 53328 := (jsub ex111 tx110 jz_48 (by omega) (by omega)).trans (by omega)
                                       refine lv_istore_n (lv' := [(2, .int x111), (3, .int 3), (0, .ref (ad 9)), (1, .int 4)]) hx hb dX7_number_61 rfl hl (of_decide_eq_true rfl) rfl (fun ls hl => ?_)
                                       refine lv_iinc (v := 4) (lv' := [(3, .int 4), (2, .int x111), (0, .ref (ad 9)), (1, .int 4)]) hx hb dX7_number_62 hl (k := 1) rfl (of_decide_eq_true rfl) (of_decide_eq_true rfl) rfl (fun ls hl => ?_)
                                       refine lv_goto (tgt := 22) hx hb dX7_number_65 (of_decide_eq_true rfl) ?_
                                       refine lv_iload_n hx hb dX7_number_22 rfl (lv_at hl 0 rfl) ?_
                                       refine lv_iload_n hx hb dX7_number_23 rfl (lv_at hl 3 rfl) ?_
                                       refine lv_icmp_ge (tgt := 68) hx hb dX7_number_24 (of_decide_eq_true rfl) (fun _ => ?_) (fun c => absurd (of_decide_eq_true rfl) c)
                                       exact by
                                        refine lv_iload_n hx hb dX7_number_68 rfl (lv_at hl 1 rfl) ?_
                                        have I112 : jI9 σ108 := jI9_fr (jkp 0 eσ108 (of_decide_eq_true rfl)) (jnp 10 eσ108 (of_decide_eq_true rfl)) (jnp 11 eσ108 (of_decide_eq_true rfl)) I88
                                        have z113 : (σ108 9 1).toInt = (σ 9 1).toInt + 4 := ((congrArg Int32.toInt (show σ108 9 1 = x107 from (jsp eσ108))).trans tx107)
                                        have z114 : (σ108 9 0).toInt = (σ 9 0).toInt := (congrArg Int32.toInt (show σ108 9 0 = (σ 9 0) from ((jkp 0 eσ108 (of_decide_eq_true rfl)).trans ((jkp 0 eσ84 (of_decide_eq_true rfl)).trans ((jkp 0 eσ60 (of_decide_eq_true rfl)).trans (jkp 0 eσ37 (of_decide_eq_true rfl)))))))
                                        have I115 : jI91 σ108 := ⟨(by omega), (by omega)⟩
                                        have I116 : jI92 σ108 := jI92_fr ((jkp 2 eσ108 (of_decide_eq_true rfl)).trans ((jkp 2 eσ84 (of_decide_eq_true rfl)).trans ((jkp 2 eσ60 (of_decide_eq_true rfl)).trans (jkp 2 eσ37 (of_decide_eq_true rfl))))) hI92
                                        have z117 : (σ108 9 2).toInt = (σ 9 2).toInt := (congrArg Int32.toInt (show σ108 9 2 = (σ 9 2) from ((jkp 2 eσ108 (of_decide_eq_true rfl)).trans ((jkp 2 eσ84 (of_decide_eq_true rfl)).trans ((jkp 2 eσ60 (of_decide_eq_true rfl)).trans (jkp 2 eσ37 (of_decide_eq_true rfl)))))))
                                        exact by exact hret x111 σ108 τ _ _ _ _ rfl ⟨rfl, (fun i hi => ((jnp i eσ108 (imp_37 i hi)).trans ((jnp i eσ84 (imp_37 i hi)).trans ((jnp i eσ60 (imp_37 i hi)).trans (jnp i eσ37 (imp_37 i hi)))))), (fun i hi => ((jkp i eσ108 (imp_39 i hi)).trans ((jkp i eσ84 (imp_39 i hi)).trans ((jkp i eσ60 (imp_39 i hi)).trans (jkp i eσ37 (imp_39 i hi)))))), I112, I115, I116, (by omega), ⟨trivial, (by have h9 := tx111; omega)⟩⟩ hP hS dX7_number_69
                                  · obtain ⟨q119, k118⟩ := h102
                                    exact by
                                     have q119 := q119.symm
                                     subst q119
                                     refine lv_if_eq (tgt := 68) hx hb dX7_number_34 (of_decide_eq_true rfl) (fun _ => ?_) (fun c => absurd (of_decide_eq_true rfl) c)
                                     refine lv_iload_n hx hb dX7_number_68 rfl (lv_at hl 1 rfl) ?_
                                     have I120 : jI91 σ84 := ⟨(by omega), (by omega)⟩
                                     have I121 : jI92 σ84 := jI92_fr ((jkp 2 eσ84 (of_decide_eq_true rfl)).trans ((jkp 2 eσ60 (of_decide_eq_true rfl)).trans (jkp 2 eσ37 (of_decide_eq_true rfl)))) hI92
                                     have z122 : (σ84 9 2).toInt = (σ 9 2).toInt := (congrArg Int32.toInt (show σ84 9 2 = (σ 9 2) from ((jkp 2 eσ84 (of_decide_eq_true rfl)).trans ((jkp 2 eσ60 (of_decide_eq_true rfl)).trans (jkp 2 eσ37 (of_decide_eq_true rfl))))))
                                     exact by exact hret x87 σ84 τ _ _ _ _ rfl ⟨rfl, (fun i hi => ((jnp i eσ84 (imp_37 i hi)).trans ((jnp i eσ60 (imp_37 i hi)).trans (jnp i eσ37 (imp_37 i hi))))), (fun i hi => ((jkp i eσ84 (imp_39 i hi)).trans ((jkp i eσ60 (imp_39 i hi)).trans (jkp i eσ37 (imp_39 i hi))))), I88, I120, I121, (by omega), ⟨trivial, (by have h9 := tx87; omega)⟩⟩ hP hS dX7_number_69
                               · obtain ⟨q124, k123⟩ := h94
                                 exact by
                                  have q124 := q124.symm
                                  subst q124
                                  refine jcallS (As := [.int (-1)]) (rest := []) ⟨hx, hb, hml, hown, hts⟩ hK hP hA hS hZ (c_X7_isDigit l D cI cL ad zz hJ σ84 τ (-1) ((-1)) jz_m1) cw_RX7_39 ⟨Nat.le_of_ble_eq_true rfl, Nat.le_of_ble_eq_true rfl⟩ rfl rfl rfl hl.1 rfl (Nat.le_of_ble_eq_true rfl) dX7_number_31 ⟨Nat.zero_le _, Nat.zero_le _⟩ (fun r126 σ125 τ125 H locs h125 hP hS => ?_)
                                  obtain ⟨⟨rfl, rfl⟩, h125⟩ := h125
                                  rcases h125 with h127 | h128
                                  · obtain ⟨q130, k129⟩ := h127
                                    exact absurd (by omega : False) id
                                  · obtain ⟨q132, k131⟩ := h128
                                    have q132 := q132.symm
                                    subst q132
                                    refine lv_if_eq (tgt := 68) hx hb dX7_number_34 (of_decide_eq_true rfl) (fun _ => ?_) (fun c => absurd (of_decide_eq_true rfl) c)
                                    refine lv_iload_n hx hb dX7_number_68 rfl (lv_at hl 1 rfl) ?_
                                    exact by
                                     have I133 : jI91 σ84 := ⟨(by omega), (by omega)⟩
                                     have I134 : jI92 σ84 := jI92_fr ((jkp 2 eσ84 (of_decide_eq_true rfl)).trans ((jkp 2 eσ60 (of_decide_eq_true rfl)).trans (jkp 2 eσ37 (of_decide_eq_true rfl)))) hI92
                                     have z135 : (σ84 9 2).toInt = (σ 9 2).toInt := (congrArg Int32.toInt (show σ84 9 2 = (σ 9 2) from ((jkp 2 eσ84 (of_decide_eq_true rfl)).trans ((jkp 2 eσ60 (of_decide_eq_true rfl)).trans (jkp 2 eσ37 (of_decide_eq_true rfl))))))
                                     exact by exact hret x87 σ84 τ _ _ _ _ rfl ⟨rfl, (fun i hi => ((jnp i eσ84 (imp_37 i hi)).trans ((jnp i eσ60 (imp_37 i hi)).trans (jnp i eσ37 (imp_37 i hi))))), (fun i hi => ((jkp i eσ84 (imp_39 i hi)).trans ((jkp i eσ60 (imp_39 i hi)).trans (jkp i eσ37 (imp_39 i hi))))), I88, I133, I134, (by omega), ⟨trivial, (by have h9 := tx87; omega)⟩⟩ hP hS dX7_number_69
                         · obtain ⟨q137, k136⟩ := h78
                           have q137 := q137.symm
                           subst q137
                           refine lv_if_eq (tgt := 68) hx hb dX7_number_34 (of_decide_eq_true rfl) (fun _ => ?_) (fun c => absurd (of_decide_eq_true rfl) c)
                           refine lv_iload_n hx hb dX7_number_68 rfl (lv_at hl 1 rfl) ?_
                           exact by
                            have I138 : jI91 σ60 := ⟨(by omega), (by omega)⟩
                            have I139 : jI92 σ60 := jI92_fr ((jkp 2 eσ60 (of_decide_eq_true rfl)).trans (jkp 2 eσ37 (of_decide_eq_true rfl))) hI92
                            have z140 : (σ60 9 2).toInt = (σ 9 2).toInt := (congrArg Int32.toInt (show σ60 9 2 = (σ 9 2) from ((jkp 2 eσ60 (of_decide_eq_true rfl)).trans (jkp 2 eσ37 (of_decide_eq_true rfl)))))
                            exact by exact hret x63 σ60 τ _ _ _ _ rfl ⟨rfl, (fun i hi => ((jnp i eσ60 (imp_37 i hi)).trans (jnp i eσ37 (imp_37 i hi)))), (fun i hi => ((jkp i eσ60 (imp_39 i hi)).trans (jkp i eσ37 (imp_39 i hi)))), I64, I138, I139, (by omega), ⟨trivial, (by have h9 := tx63; omega)⟩⟩ hP hS dX7_number_69
                      · obtain ⟨q142, k141⟩ := h70
                        have q142 := q142.symm
                        subst q142
                        refine jcallS (As := [.int (-1)]) (rest := []) ⟨hx, hb, hml, hown, hts⟩ hK hP hA hS hZ (c_X7_isDigit l D cI cL ad zz hJ σ60 τ (-1) ((-1)) jz_m1) cw_RX7_39 ⟨Nat.le_of_ble_eq_true rfl, Nat.le_of_ble_eq_true rfl⟩ rfl rfl rfl hl.1 rfl (Nat.le_of_ble_eq_true rfl) dX7_number_31 ⟨Nat.zero_le _, Nat.zero_le _⟩ (fun r144 σ143 τ143 H locs h143 hP hS => ?_)
                        obtain ⟨⟨rfl, rfl⟩, h143⟩ := h143
                        rcases h143 with h145 | h146
                        · obtain ⟨q148, k147⟩ := h145
                          exact absurd (by omega : False) id
                        · obtain ⟨q150, k149⟩ := h146
                          have q150 := q150.symm
                          subst q150
                          refine lv_if_eq (tgt := 68) hx hb dX7_number_34 (of_decide_eq_true rfl) (fun _ => ?_) (fun c => absurd (of_decide_eq_true rfl) c)
                          refine lv_iload_n hx hb dX7_number_68 rfl (lv_at hl 1 rfl) ?_
                          exact by
                           have I151 : jI91 σ60 := ⟨(by omega), (by omega)⟩
                           have I152 : jI92 σ60 := jI92_fr ((jkp 2 eσ60 (of_decide_eq_true rfl)).trans (jkp 2 eσ37 (of_decide_eq_true rfl))) hI92
                           have z153 : (σ60 9 2).toInt = (σ 9 2).toInt := (congrArg Int32.toInt (show σ60 9 2 = (σ 9 2) from ((jkp 2 eσ60 (of_decide_eq_true rfl)).trans (jkp 2 eσ37 (of_decide_eq_true rfl)))))
                           exact by exact hret x63 σ60 τ _ _ _ _ rfl ⟨rfl, (fun i hi => ((jnp i eσ60 (imp_37 i hi)).trans (jnp i eσ37 (imp_37 i hi)))), (fun i hi => ((jkp i eσ60 (imp_39 i hi)).trans (jkp i eσ37 (imp_39 i hi)))), I64, I151, I152, (by omega), ⟨trivial, (by have h9 := tx63; omega)⟩⟩ hP hS dX7_number_69
                · obtain ⟨q155, k154⟩ := h54
                  have q155 := q155.symm
                  subst q155
                  refine lv_if_eq (tgt := 68) hx hb dX7_number_34 (of_decide_eq_true rfl) (fun _ => ?_) (fun c => absurd (of_decide_eq_true rfl) c)
                  refine lv_iload_n hx hb dX7_number_68 rfl (lv_at hl 1 rfl) ?_
                  exact by
                   have I156 : jI91 σ37 := ⟨(by omega), (by omega)⟩
                   have I157 : jI92 σ37 := jI92_fr (jkp 2 eσ37 (of_decide_eq_true rfl)) hI92
                   have z158 : (σ37 9 2).toInt = (σ 9 2).toInt := (congrArg Int32.toInt (show σ37 9 2 = (σ 9 2) from (jkp 2 eσ37 (of_decide_eq_true rfl))))
                   exact by exact hret x39 σ37 τ _ _ _ _ rfl ⟨rfl, (fun i hi => (jnp i eσ37 (imp_37 i hi))), (fun i hi => (jkp i eσ37 (imp_39 i hi))), I40, I156, I157, (by omega), ⟨trivial, (by have h9 := tx39; omega)⟩⟩ hP hS dX7_number_69
             · obtain ⟨q160, k159⟩ := h46
               have q160 := q160.symm
               subst q160
               refine jcallS (As := [.int (-1)]) (rest := []) ⟨hx, hb, hml, hown, hts⟩ hK hP hA hS hZ (c_X7_isDigit l D cI cL ad zz hJ σ37 τ (-1) ((-1)) jz_m1) cw_RX7_39 ⟨Nat.le_of_ble_eq_true rfl, Nat.le_of_ble_eq_true rfl⟩ rfl rfl rfl hl.1 rfl (Nat.le_of_ble_eq_true rfl) dX7_number_31 ⟨Nat.zero_le _, Nat.zero_le _⟩ (fun r162 σ161 τ161 H locs h161 hP hS => ?_)
               obtain ⟨⟨rfl, rfl⟩, h161⟩ := h161
               rcases h161 with h163 | h164
               · obtain ⟨q166, k165⟩ := h163
                 exact absurd (by omega : False) id
               · obtain ⟨q168, k167⟩ := h164
                 have q168 := q168.symm
                 subst q168
                 refine lv_if_eq (tgt := 68) hx hb dX7_number_34 (of_decide_eq_true rfl) (fun _ => ?_) (fun c => absurd (of_decide_eq_true rfl) c)
                 refine lv_iload_n hx hb dX7_number_68 rfl (lv_at hl 1 rfl) ?_
                 exact by
                  have I169 : jI91 σ37 := ⟨(by omega), (by omega)⟩
                  have I170 : jI92 σ37 := jI92_fr (jkp 2 eσ37 (of_decide_eq_true rfl)) hI92
                  have z171 : (σ37 9 2).toInt = (σ 9 2).toInt := (congrArg Int32.toInt (show σ37 9 2 = (σ 9 2) from (jkp 2 eσ37 (of_decide_eq_true rfl))))
                  exact by exact hret x39 σ37 τ _ _ _ _ rfl ⟨rfl, (fun i hi => (jnp i eσ37 (imp_37 i hi))), (fun i hi => (jkp i eσ37 (imp_39 i hi))), I40, I169, I170, (by omega), ⟨trivial, (by have h9 := tx39; omega)⟩⟩ hP hS dX7_number_69
        · obtain ⟨q173, k172⟩ := h32
          exact absurd (by omega : False) id
      · obtain ⟨q175, k174⟩ := h24
        exact absurd (by omega : False) id
    · obtain ⟨q177, k176⟩ := h18
      have q177 := q177.symm
      subst q177
      refine lv_if_ne (tgt := 18) hx hb dX7_number_7 (of_decide_eq_true rfl) (fun c => absurd (of_decide_eq_true rfl) c) (fun _ => ?_)
      refine lv_aload_n hx hb dX7_number_10 rfl (lv_at hl 0 rfl) ?_
      refine lv_aload_n hx hb dX7_number_11 rfl (lv_at hl 0 rfl) ?_
      refine va_get (D := D) hx hb hts inlX7 hown hK hP 9 (jc_9 cI cL ad σ τ) rfl 1 (of_decide_eq_true rfl) (hts _ kw_13_17) (fun _ h9 => h9) rfl dX7_number_12 ?_
      exact by
       refine jcallVv (As := [.int (σ 9 1)]) (rest := []) ⟨hx, hb, hml, hown, hts⟩ hK hP hA hS hZ (c_X7_fail_9 l D cI cL ad zz hJ σ τ (σ 9 1) ((σ 9 1).toInt) rfl hI92 (by omega)) cw_RX7_43 (jc_9 cI cL ad σ τ) rfl ⟨Nat.le_of_ble_eq_true rfl, Nat.le_of_ble_eq_true rfl⟩ rfl rfl rfl hl.1 rfl (Nat.le_of_ble_eq_true rfl) dX7_number_15 ⟨Nat.zero_le _, Nat.zero_le _⟩ (fun σ178 τ178 H locs h178 hP hS => ?_)
       obtain ⟨rfl, f180, f181, h178⟩ := h178
       obtain ⟨k183, k184, h178⟩ := h178
       refine lv_iconst (v := 0) hx hb dX7_number_18 (of_decide_eq_true rfl) ?_
       refine lv_istore_n (lv' := [(2, .int 0), (0, .ref (ad 9)), (1, .int 4)]) hx hb dX7_number_19 rfl hl (of_decide_eq_true rfl) rfl (fun ls hl => ?_)
       refine lv_iconst (v := 0) hx hb dX7_number_20 (of_decide_eq_true rfl) ?_
       refine lv_istore_n (lv' := [(3, .int 0), (2, .int 0), (0, .ref (ad 9)), (1, .int 4)]) hx hb dX7_number_21 rfl hl (of_decide_eq_true rfl) rfl (fun ls hl => ?_)
       refine lv_iload_n hx hb dX7_number_22 rfl (lv_at hl 0 rfl) ?_
       refine lv_iload_n hx hb dX7_number_23 rfl (lv_at hl 3 rfl) ?_
       refine lv_icmp_ge (tgt := 68) hx hb dX7_number_24 (of_decide_eq_true rfl) (fun c => absurd c (of_decide_eq_true rfl)) (fun _ => ?_)
       refine lv_aload_n hx hb dX7_number_27 rfl (lv_at hl 2 rfl) ?_
       have I185 : jI9 σ178 := jI9_fr (f181 0 (of_decide_eq_true rfl)) (f180 10 (of_decide_eq_true rfl)) (f180 11 (of_decide_eq_true rfl)) hI9
       have z186 : (σ178 9 1).toInt = (σ 9 1).toInt := (congrArg Int32.toInt (show σ178 9 1 = (σ 9 1) from (f181 1 (of_decide_eq_true rfl))))
       have z187 : (σ178 9 0).toInt = (σ 9 0).toInt := (congrArg Int32.toInt (show σ178 9 0 = (σ 9 0) from (f181 0 (of_decide_eq_true rfl))))
       refine jcallV (As := []) (rest := []) ⟨hx, hb, hml, hown, hts⟩ hK hP hA hS hZ (c_X7_sign_9 l D cI cL ad zz hJ σ178 τ I185) cw_RX7_35 (jc_9 cI cL ad σ178 τ) rfl ⟨Nat.le_of_ble_eq_true rfl, Nat.le_of_ble_eq_true rfl⟩ rfl rfl rfl hl.1 rfl (Nat.le_of_ble_eq_true rfl) dX7_number_28 ⟨Nat.zero_le _, Nat.zero_le _⟩ (fun r189 σ188 τ188 H locs h188 hP hS => ?_)
       obtain ⟨⟨rfl, rfl⟩, h188⟩ := h188
       rcases h188 with h190 | h191
       · obtain ⟨q194, k192, k193⟩ := h190
         exact by
          have q195 : r189 = (σ 10 (σ 9 1).toNatClampNeg) := q194.trans (by rw [(show σ178 9 1 = (σ 9 1) from (f181 1 (of_decide_eq_true rfl))), f180 10 (of_decide_eq_true rfl)])
          have q195e : (σ178 10 (σ178 9 1).toNatClampNeg).toInt = (σ 10 (σ 9 1).toNatClampNeg).toInt := by rw [← q194, ← q195]
          have q195 := q195.symm
          subst q195
          refine jcallS (As := [.int (σ 10 (σ 9 1).toNatClampNeg)]) (rest := []) ⟨hx, hb, hml, hown, hts⟩ hK hP hA hS hZ (c_X7_isDigit l D cI cL ad zz hJ σ178 τ (σ 10 (σ 9 1).toNatClampNeg) ((σ 10 (σ 9 1).toNatClampNeg).toInt) rfl) cw_RX7_39 ⟨Nat.le_of_ble_eq_true rfl, Nat.le_of_ble_eq_true rfl⟩ rfl rfl rfl hl.1 rfl (Nat.le_of_ble_eq_true rfl) dX7_number_31 ⟨Nat.zero_le _, Nat.zero_le _⟩ (fun r197 σ196 τ196 H locs h196 hP hS => ?_)
          obtain ⟨⟨rfl, rfl⟩, h196⟩ := h196
          rcases h196 with h198 | h199
          · obtain ⟨q201, k200⟩ := h198
            exact absurd (by omega : False) id
          · obtain ⟨q203, k202⟩ := h199
            have q203 := q203.symm
            subst q203
            refine lv_if_eq (tgt := 68) hx hb dX7_number_34 (of_decide_eq_true rfl) (fun _ => ?_) (fun c => absurd (of_decide_eq_true rfl) c)
            refine lv_iload_n hx hb dX7_number_68 rfl (lv_at hl 1 rfl) ?_
            have I204 : jI91 σ178 := jI91_fr (f181 0 (of_decide_eq_true rfl)) (f181 1 (of_decide_eq_true rfl)) hI91
            have I205 : jI92 σ178 := (show (-1) ≤ (σ178 9 2).toInt by omega)
            exact by exact hret 0 σ178 τ _ _ _ _ rfl ⟨rfl, (fun i hi => (f180 i hi)), (fun i hi => (f181 i (imp_43 i hi))), I185, I204, I205, (by omega), ⟨trivial, (by have h9 := jz_0; omega)⟩⟩ hP hS dX7_number_69
       · obtain ⟨q207, k206⟩ := h191
         have q207 := q207.symm
         subst q207
         refine jcallS (As := [.int (-1)]) (rest := []) ⟨hx, hb, hml, hown, hts⟩ hK hP hA hS hZ (c_X7_isDigit l D cI cL ad zz hJ σ178 τ (-1) ((-1)) jz_m1) cw_RX7_39 ⟨Nat.le_of_ble_eq_true rfl, Nat.le_of_ble_eq_true rfl⟩ rfl rfl rfl hl.1 rfl (Nat.le_of_ble_eq_true rfl) dX7_number_31 ⟨Nat.zero_le _, Nat.zero_le _⟩ (fun r209 σ208 τ208 H locs h208 hP hS => ?_)
         obtain ⟨⟨rfl, rfl⟩, h208⟩ := h208
         rcases h208 with h210 | h211
         · obtain ⟨q213, k212⟩ := h210
           exact absurd (by omega : False) id
         · obtain ⟨q215, k214⟩ := h211
           have q215 := q215.symm
           subst q215
           refine lv_if_eq (tgt := 68) hx hb dX7_number_34 (of_decide_eq_true rfl) (fun _ => ?_) (fun c => absurd (of_decide_eq_true rfl) c)
           refine lv_iload_n hx hb dX7_number_68 rfl (lv_at hl 1 rfl) ?_
           have I216 : jI91 σ178 := jI91_fr (f181 0 (of_decide_eq_true rfl)) (f181 1 (of_decide_eq_true rfl)) hI91
           have I217 : jI92 σ178 := (show (-1) ≤ (σ178 9 2).toInt by omega)
           exact by exact hret 0 σ178 τ _ _ _ _ rfl ⟨rfl, (fun i hi => (f180 i hi)), (fun i hi => (f181 i (imp_43 i hi))), I185, I216, I217, (by omega), ⟨trivial, (by have h9 := jz_0; omega)⟩⟩ hP hS dX7_number_69
  · obtain ⟨q219, k218⟩ := h10
    have q219 := q219.symm
    subst q219
    refine jcallS (As := [.int (-1)]) (rest := []) ⟨hx, hb, hml, hown, hts⟩ hK hP hA hS hZ (c_X7_isDigit l D cI cL ad zz hJ σ τ (-1) ((-1)) jz_m1) cw_RX7_39 ⟨Nat.le_of_ble_eq_true rfl, Nat.le_of_ble_eq_true rfl⟩ rfl rfl rfl hl.1 rfl (Nat.le_of_ble_eq_true rfl) dX7_number_4 ⟨Nat.zero_le _, Nat.zero_le _⟩ (fun r221 σ220 τ220 H locs h220 hP hS => ?_)
    obtain ⟨⟨rfl, rfl⟩, h220⟩ := h220
    rcases h220 with h222 | h223
    · obtain ⟨q225, k224⟩ := h222
      exact absurd (by omega : False) id
    · obtain ⟨q227, k226⟩ := h223
      have q227 := q227.symm
      subst q227
      refine lv_if_ne (tgt := 18) hx hb dX7_number_7 (of_decide_eq_true rfl) (fun c => absurd (of_decide_eq_true rfl) c) (fun _ => ?_)
      refine lv_aload_n hx hb dX7_number_10 rfl (lv_at hl 0 rfl) ?_
      refine lv_aload_n hx hb dX7_number_11 rfl (lv_at hl 0 rfl) ?_
      refine va_get (D := D) hx hb hts inlX7 hown hK hP 9 (jc_9 cI cL ad σ τ) rfl 1 (of_decide_eq_true rfl) (hts _ kw_13_17) (fun _ h9 => h9) rfl dX7_number_12 ?_
      exact by
       refine jcallVv (As := [.int (σ 9 1)]) (rest := []) ⟨hx, hb, hml, hown, hts⟩ hK hP hA hS hZ (c_X7_fail_9 l D cI cL ad zz hJ σ τ (σ 9 1) ((σ 9 1).toInt) rfl hI92 (by omega)) cw_RX7_43 (jc_9 cI cL ad σ τ) rfl ⟨Nat.le_of_ble_eq_true rfl, Nat.le_of_ble_eq_true rfl⟩ rfl rfl rfl hl.1 rfl (Nat.le_of_ble_eq_true rfl) dX7_number_15 ⟨Nat.zero_le _, Nat.zero_le _⟩ (fun σ228 τ228 H locs h228 hP hS => ?_)
       obtain ⟨rfl, f230, f231, h228⟩ := h228
       obtain ⟨k233, k234, h228⟩ := h228
       refine lv_iconst (v := 0) hx hb dX7_number_18 (of_decide_eq_true rfl) ?_
       refine lv_istore_n (lv' := [(2, .int 0), (0, .ref (ad 9)), (1, .int 4)]) hx hb dX7_number_19 rfl hl (of_decide_eq_true rfl) rfl (fun ls hl => ?_)
       refine lv_iconst (v := 0) hx hb dX7_number_20 (of_decide_eq_true rfl) ?_
       refine lv_istore_n (lv' := [(3, .int 0), (2, .int 0), (0, .ref (ad 9)), (1, .int 4)]) hx hb dX7_number_21 rfl hl (of_decide_eq_true rfl) rfl (fun ls hl => ?_)
       refine lv_iload_n hx hb dX7_number_22 rfl (lv_at hl 0 rfl) ?_
       refine lv_iload_n hx hb dX7_number_23 rfl (lv_at hl 3 rfl) ?_
       refine lv_icmp_ge (tgt := 68) hx hb dX7_number_24 (of_decide_eq_true rfl) (fun c => absurd c (of_decide_eq_true rfl)) (fun _ => ?_)
       refine lv_aload_n hx hb dX7_number_27 rfl (lv_at hl 2 rfl) ?_
       have I235 : jI9 σ228 := jI9_fr (f231 0 (of_decide_eq_true rfl)) (f230 10 (of_decide_eq_true rfl)) (f230 11 (of_decide_eq_true rfl)) hI9
       have z236 : (σ228 9 1).toInt = (σ 9 1).toInt := (congrArg Int32.toInt (show σ228 9 1 = (σ 9 1) from (f231 1 (of_decide_eq_true rfl))))
       have z237 : (σ228 9 0).toInt = (σ 9 0).toInt := (congrArg Int32.toInt (show σ228 9 0 = (σ 9 0) from (f231 0 (of_decide_eq_true rfl))))
       refine jcallV (As := []) (rest := []) ⟨hx, hb, hml, hown, hts⟩ hK hP hA hS hZ (c_X7_sign_9 l D cI cL ad zz hJ σ228 τ I235) cw_RX7_35 (jc_9 cI cL ad σ228 τ) rfl ⟨Nat.le_of_ble_eq_true rfl, Nat.le_of_ble_eq_true rfl⟩ rfl rfl rfl hl.1 rfl (Nat.le_of_ble_eq_true rfl) dX7_number_28 ⟨Nat.zero_le _, Nat.zero_le _⟩ (fun r239 σ238 τ238 H locs h238 hP hS => ?_)
       obtain ⟨⟨rfl, rfl⟩, h238⟩ := h238
       rcases h238 with h240 | h241
       · obtain ⟨q244, k242, k243⟩ := h240
         exact by
          have q245 : r239 = (σ 10 (σ 9 1).toNatClampNeg) := q244.trans (by rw [(show σ228 9 1 = (σ 9 1) from (f231 1 (of_decide_eq_true rfl))), f230 10 (of_decide_eq_true rfl)])
          have q245e : (σ228 10 (σ228 9 1).toNatClampNeg).toInt = (σ 10 (σ 9 1).toNatClampNeg).toInt := by rw [← q244, ← q245]
          have q245 := q245.symm
          subst q245
          refine jcallS (As := [.int (σ 10 (σ 9 1).toNatClampNeg)]) (rest := []) ⟨hx, hb, hml, hown, hts⟩ hK hP hA hS hZ (c_X7_isDigit l D cI cL ad zz hJ σ228 τ (σ 10 (σ 9 1).toNatClampNeg) ((σ 10 (σ 9 1).toNatClampNeg).toInt) rfl) cw_RX7_39 ⟨Nat.le_of_ble_eq_true rfl, Nat.le_of_ble_eq_true rfl⟩ rfl rfl rfl hl.1 rfl (Nat.le_of_ble_eq_true rfl) dX7_number_31 ⟨Nat.zero_le _, Nat.zero_le _⟩ (fun r247 σ246 τ246 H locs h246 hP hS => ?_)
          obtain ⟨⟨rfl, rfl⟩, h246⟩ := h246
          rcases h246 with h248 | h249
          · obtain ⟨q251, k250⟩ := h248
            have q251 := q251.symm
            subst q251
            refine lv_if_eq (tgt := 68) hx hb dX7_number_34 (of_decide_eq_true rfl) (fun c => absurd c (of_decide_eq_true rfl)) (fun _ => ?_)
            refine lv_iload_n hx hb dX7_number_37 rfl (lv_at hl 1 rfl) ?_
            refine lv_bipush (v := 10) hx hb dX7_number_38 (of_decide_eq_true rfl) ?_
            refine lv_imul hx hb dX7_number_40 ?_
            refine jtopr (y := 0) (of_decide_eq_true rfl) ?_
            refine lv_aload_n hx hb dX7_number_41 rfl (lv_at hl 2 rfl) ?_
            refine va_get (D := D) hx hb hts inlX7 hown hK hP 9 (jc_9 cI cL ad σ228 τ) rfl 3 (of_decide_eq_true rfl) (hts _ kw_3_20) (fun _ h9 => h9) rfl dX7_number_42 ?_
            refine lv_aload_n hx hb dX7_number_45 rfl (lv_at hl 2 rfl) ?_
            refine lv_dup hx hb dX7_number_46 rfl ?_
            refine va_get (D := D) hx hb hts inlX7 hown hK hP 9 (jc_9 cI cL ad σ228 τ) rfl 1 (of_decide_eq_true rfl) (hts _ kw_13_17) (fun _ h9 => h9) rfl dX7_number_47 ?_
            have m252 : σ228 9 1 = (σ 9 1) := (f231 1 (of_decide_eq_true rfl))
            refine jtopr m252 ?_
            refine lv_dup_x1 hx hb dX7_number_50 rfl rfl ?_
            refine lv_iconst (v := 1) hx hb dX7_number_51 (of_decide_eq_true rfl) ?_
            have g253 := jrg (rfl : (σ 9 1).toInt = (σ 9 1).toInt)
            refine lv_iadd hx hb dX7_number_52 ?_
            refine lv_topi (fun x254 ex254 => ?_)
            exact by
             have tx254 : x254.toInt = (σ 9 1).toInt + 1 := (jadd ex254 rfl jz_1 (by omega) (by omega)).trans (by omega)
             refine jput (ty := .int) hx hb hts inlX7 tyX7 tyX7_ok nmX7 hown hK hP hJ hA hS (jc_9 cI cL ad σ228 τ) rfl (k := 1) (of_decide_eq_true rfl) (Nat.le_of_ble_eq_true rfl) (jp_9_1 cI cL ad σ228 τ x254) (hts _ kw_13_17) (fun _ h9 => h9) rfl (by decide +kernel) rfl rfl dX7_number_53 (fun σ255 H locs eσ255 hP hS => ?_)
             refine jald hx hb hK hP (jc_10 cI cL ad σ255 τ) (jin rfl (by omega) (by omega)) dX7_number_56 ?_
             refine jtopr (y := (σ 10 (σ 9 1).toNatClampNeg)) (by rw [jnp 10 eσ255 (of_decide_eq_true rfl), f230 10 (of_decide_eq_true rfl)]) ?_
             refine lv_iadd hx hb dX7_number_57 ?_
             refine jtopr (y := (σ 10 (σ 9 1).toNatClampNeg)) (by rw [Int32.zero_add]) ?_
             refine lv_bipush (v := 48) hx hb dX7_number_58 (of_decide_eq_true rfl) ?_
             have g256 := jrg (rfl : (σ 10 (σ 9 1).toNatClampNeg).toInt = (σ 10 (σ 9 1).toNatClampNeg).toInt)
             refine lv_isub hx hb dX7_number_60 ?_
             exact by
              refine lv_topi (fun x257 ex257 => ?_)
              have tx257 : x257.toInt = (σ 10 (σ 9 1).toNatClampNeg).toInt - 48 := (jsub ex257 rfl jz_48 (by omega) (by omega)).trans (by omega)
              refine lv_istore_n (lv' := [(2, .int x257), (3, .int 0), (0, .ref (ad 9)), (1, .int 4)]) hx hb dX7_number_61 rfl hl (of_decide_eq_true rfl) rfl (fun ls hl => ?_)
              refine lv_iinc (v := 1) (lv' := [(3, .int 1), (2, .int x257), (0, .ref (ad 9)), (1, .int 4)]) hx hb dX7_number_62 hl (k := 1) rfl (of_decide_eq_true rfl) (of_decide_eq_true rfl) rfl (fun ls hl => ?_)
              refine lv_goto (tgt := 22) hx hb dX7_number_65 (of_decide_eq_true rfl) ?_
              refine lv_iload_n hx hb dX7_number_22 rfl (lv_at hl 0 rfl) ?_
              refine lv_iload_n hx hb dX7_number_23 rfl (lv_at hl 3 rfl) ?_
              refine lv_icmp_ge (tgt := 68) hx hb dX7_number_24 (of_decide_eq_true rfl) (fun c => absurd c (of_decide_eq_true rfl)) (fun _ => ?_)
              refine lv_aload_n hx hb dX7_number_27 rfl (lv_at hl 2 rfl) ?_
              exact by
               have I258 : jI9 σ255 := jI9_fr (jkp 0 eσ255 (of_decide_eq_true rfl)) (jnp 10 eσ255 (of_decide_eq_true rfl)) (jnp 11 eσ255 (of_decide_eq_true rfl)) I235
               have z259 : (σ255 9 1).toInt = (σ 9 1).toInt + 1 := ((congrArg Int32.toInt (show σ255 9 1 = x254 from (jsp eσ255))).trans tx254)
               have z260 : (σ255 9 0).toInt = (σ 9 0).toInt := (congrArg Int32.toInt (show σ255 9 0 = (σ 9 0) from ((jkp 0 eσ255 (of_decide_eq_true rfl)).trans (f231 0 (of_decide_eq_true rfl)))))
               refine jcallV (As := []) (rest := []) ⟨hx, hb, hml, hown, hts⟩ hK hP hA hS hZ (c_X7_sign_9 l D cI cL ad zz hJ σ255 τ I258) cw_RX7_35 (jc_9 cI cL ad σ255 τ) rfl ⟨Nat.le_of_ble_eq_true rfl, Nat.le_of_ble_eq_true rfl⟩ rfl rfl rfl hl.1 rfl (Nat.le_of_ble_eq_true rfl) dX7_number_28 ⟨Nat.zero_le _, Nat.zero_le _⟩ (fun r262 σ261 τ261 H locs h261 hP hS => ?_)
               obtain ⟨⟨rfl, rfl⟩, h261⟩ := h261
               rcases h261 with h263 | h264
               · obtain ⟨q267, k265, k266⟩ := h263
                 exact absurd (by omega : False) id
               · obtain ⟨q269, k268⟩ := h264
                 have q269 := q269.symm
                 subst q269
                 refine jcallS (As := [.int (-1)]) (rest := []) ⟨hx, hb, hml, hown, hts⟩ hK hP hA hS hZ (c_X7_isDigit l D cI cL ad zz hJ σ255 τ (-1) ((-1)) jz_m1) cw_RX7_39 ⟨Nat.le_of_ble_eq_true rfl, Nat.le_of_ble_eq_true rfl⟩ rfl rfl rfl hl.1 rfl (Nat.le_of_ble_eq_true rfl) dX7_number_31 ⟨Nat.zero_le _, Nat.zero_le _⟩ (fun r271 σ270 τ270 H locs h270 hP hS => ?_)
                 obtain ⟨⟨rfl, rfl⟩, h270⟩ := h270
                 rcases h270 with h272 | h273
                 · obtain ⟨q275, k274⟩ := h272
                   exact absurd (by omega : False) id
                 · obtain ⟨q277, k276⟩ := h273
                   have q277 := q277.symm
                   subst q277
                   refine lv_if_eq (tgt := 68) hx hb dX7_number_34 (of_decide_eq_true rfl) (fun _ => ?_) (fun c => absurd (of_decide_eq_true rfl) c)
                   refine lv_iload_n hx hb dX7_number_68 rfl (lv_at hl 1 rfl) ?_
                   exact by
                    have I278 : jI91 σ255 := ⟨(by omega), (by omega)⟩
                    have z279 : (σ255 9 2).toInt = (σ228 9 2).toInt := (congrArg Int32.toInt (show σ255 9 2 = (σ228 9 2) from (jkp 2 eσ255 (of_decide_eq_true rfl))))
                    have I280 : jI92 σ255 := (show (-1) ≤ (σ255 9 2).toInt by omega)
                    exact by exact hret x257 σ255 τ _ _ _ _ rfl ⟨rfl, (fun i hi => ((jnp i eσ255 (imp_37 i hi)).trans (f230 i hi))), (fun i hi => ((jkp i eσ255 (imp_39 i hi)).trans (f231 i (imp_43 i hi)))), I258, I278, I280, (by omega), ⟨trivial, (by have h9 := tx257; omega)⟩⟩ hP hS dX7_number_69
          · obtain ⟨q282, k281⟩ := h249
            have q282 := q282.symm
            subst q282
            refine lv_if_eq (tgt := 68) hx hb dX7_number_34 (of_decide_eq_true rfl) (fun _ => ?_) (fun c => absurd (of_decide_eq_true rfl) c)
            refine lv_iload_n hx hb dX7_number_68 rfl (lv_at hl 1 rfl) ?_
            have I283 : jI91 σ228 := jI91_fr (f231 0 (of_decide_eq_true rfl)) (f231 1 (of_decide_eq_true rfl)) hI91
            have I284 : jI92 σ228 := (show (-1) ≤ (σ228 9 2).toInt by omega)
            exact by exact hret 0 σ228 τ _ _ _ _ rfl ⟨rfl, (fun i hi => (f230 i hi)), (fun i hi => (f231 i (imp_43 i hi))), I235, I283, I284, (by omega), ⟨trivial, (by have h9 := jz_0; omega)⟩⟩ hP hS dX7_number_69
       · obtain ⟨q286, k285⟩ := h241
         have q286 := q286.symm
         subst q286
         refine jcallS (As := [.int (-1)]) (rest := []) ⟨hx, hb, hml, hown, hts⟩ hK hP hA hS hZ (c_X7_isDigit l D cI cL ad zz hJ σ228 τ (-1) ((-1)) jz_m1) cw_RX7_39 ⟨Nat.le_of_ble_eq_true rfl, Nat.le_of_ble_eq_true rfl⟩ rfl rfl rfl hl.1 rfl (Nat.le_of_ble_eq_true rfl) dX7_number_31 ⟨Nat.zero_le _, Nat.zero_le _⟩ (fun r288 σ287 τ287 H locs h287 hP hS => ?_)
         obtain ⟨⟨rfl, rfl⟩, h287⟩ := h287
         rcases h287 with h289 | h290
         · obtain ⟨q292, k291⟩ := h289
           exact absurd (by omega : False) id
         · obtain ⟨q294, k293⟩ := h290
           have q294 := q294.symm
           subst q294
           refine lv_if_eq (tgt := 68) hx hb dX7_number_34 (of_decide_eq_true rfl) (fun _ => ?_) (fun c => absurd (of_decide_eq_true rfl) c)
           refine lv_iload_n hx hb dX7_number_68 rfl (lv_at hl 1 rfl) ?_
           have I295 : jI91 σ228 := jI91_fr (f231 0 (of_decide_eq_true rfl)) (f231 1 (of_decide_eq_true rfl)) hI91
           have I296 : jI92 σ228 := (show (-1) ≤ (σ228 9 2).toInt by omega)
           exact by exact hret 0 σ228 τ _ _ _ _ rfl ⟨rfl, (fun i hi => (f230 i hi)), (fun i hi => (f231 i (imp_43 i hi))), I235, I295, I296, (by omega), ⟨trivial, (by have h9 := jz_0; omega)⟩⟩ hP hS dX7_number_69
set_option maxHeartbeats 4000000 in
set_option maxRecDepth 100000 in
theorem c_X7_number_2 (l : Launch) (D : va_G) (cI cL : ClassId) (ad zz : Nat → Nat) (hJ : jD ad) (σ : Nat → Nat → Int32) (τ : Nat → Nat → Int64) (hI9 : jI9 σ) (hI91 : jI91 σ) (hI92 : jI92 σ) (hp0 : (σ 9 2).toInt = (-1)) : jM l yX7_number cX7_number 4 (some .int) ({ frames := 1, cells := 0, slots := 0, locals := 21 }) D cI cL ad zz [.ref (ad 9), .int 2] σ τ (fun r σ' τ' => τ = τ' ∧ (∀ i : Nat, (i < 9 ∨ 9 < i) → σ' i = σ i) ∧ (∀ k : Nat, (k < 1 ∨ 1 < k) ∧ (k < 2 ∨ 2 < k) → σ' 9 k = σ 9 k) ∧ (jI9 σ') ∧ (jI91 σ') ∧ (jI92 σ') ∧ ((True ∧ (0 ≤ r.toInt ∧ r.toInt ≤ 99) ∧ (∃ q : Int, jNb (σ 10) ((σ 9 0).toInt) ((σ 9 1).toInt) 2 q (r.toInt) ∧ ((σ' 9 1).toInt = (σ 9 1).toInt + q ∧ ((q = 0 ∧ (σ' 9 2).toInt = (σ 9 1).toInt) ∨ (1 ≤ q ∧ (σ' 9 2).toInt = -1))))))) := by
  refine jM.of hJ (by decide +kernel) (nt := .int) rfl (Nat.le_of_ble_eq_true rfl) ?_
  intro p e s m args below meth c Q ls hC hret hl hP
  obtain ⟨hx, hb, hr, hml, hown, hts, hK, -, hlocks, hZ⟩ := hC
  have hown : s.vm.findClass RX7 = some m.cls := hown
  have hS : va_S (jA ad) s.heap s.heap [] := va_S.rf
  have hA : ∀ q, jA ad q → jA ad q := fun _ h => h
  have hl : lv_has ls 4 [(0, .ref (ad 9)), (1, .int 2)] := hl
  obtain ⟨i1, w2, w3⟩ : (0 ≤ (σ 9 0).toInt ∧ (σ 9 0).toInt ≤ 80) ∧ (∀ k : Nat, k < 80 → 0 ≤ (σ 10 k).toInt ∧ (σ 10 k).toInt ≤ 255) ∧ (∀ k : Nat, k < 8 → 0 ≤ (σ 11 k).toInt ∧ (σ 11 k).toInt ≤ 3) := id hI9
  obtain ⟨i4, i5⟩ : (0 ≤ (σ 9 1).toInt) ∧ ((σ 9 1).toInt ≤ (σ 9 0).toInt) := id hI91
  have i6 : (-1) ≤ (σ 9 2).toInt := hI92
  refine lv_aload_n hx hb dX7_number_0 rfl (lv_at hl 0 rfl) ?_
  refine jcallV (As := []) (rest := []) ⟨hx, hb, hml, hown, hts⟩ hK hP hA hS hZ (c_X7_sign_9 l D cI cL ad zz hJ σ τ hI9) cw_RX7_35 (jc_9 cI cL ad σ τ) rfl ⟨Nat.le_of_ble_eq_true rfl, Nat.le_of_ble_eq_true rfl⟩ rfl rfl rfl hl.1 rfl (Nat.le_of_ble_eq_true rfl) dX7_number_1 ⟨Nat.zero_le _, Nat.zero_le _⟩ (fun r8 σ7 τ7 H locs h7 hP hS => ?_)
  obtain ⟨⟨rfl, rfl⟩, h7⟩ := h7
  rcases h7 with h9 | h10
  · obtain ⟨q13, k11, k12⟩ := h9
    have q14 : r8 = (σ 10 (σ 9 1).toNatClampNeg) := q13.trans rfl
    have q14 := q14.symm
    subst q14
    refine jcallS (As := [.int (σ 10 (σ 9 1).toNatClampNeg)]) (rest := []) ⟨hx, hb, hml, hown, hts⟩ hK hP hA hS hZ (c_X7_isDigit l D cI cL ad zz hJ σ τ (σ 10 (σ 9 1).toNatClampNeg) ((σ 10 (σ 9 1).toNatClampNeg).toInt) rfl) cw_RX7_39 ⟨Nat.le_of_ble_eq_true rfl, Nat.le_of_ble_eq_true rfl⟩ rfl rfl rfl hl.1 rfl (Nat.le_of_ble_eq_true rfl) dX7_number_4 ⟨Nat.zero_le _, Nat.zero_le _⟩ (fun r16 σ15 τ15 H locs h15 hP hS => ?_)
    obtain ⟨⟨rfl, rfl⟩, h15⟩ := h15
    rcases h15 with h17 | h18
    · obtain ⟨q20, k19⟩ := h17
      have q20 := q20.symm
      subst q20
      refine lv_if_ne (tgt := 18) hx hb dX7_number_7 (of_decide_eq_true rfl) (fun _ => ?_) (fun c => absurd c (of_decide_eq_true rfl))
      refine lv_iconst (v := 0) hx hb dX7_number_18 (of_decide_eq_true rfl) ?_
      refine lv_istore_n (lv' := [(2, .int 0), (0, .ref (ad 9)), (1, .int 2)]) hx hb dX7_number_19 rfl hl (of_decide_eq_true rfl) rfl (fun ls hl => ?_)
      refine lv_iconst (v := 0) hx hb dX7_number_20 (of_decide_eq_true rfl) ?_
      refine lv_istore_n (lv' := [(3, .int 0), (2, .int 0), (0, .ref (ad 9)), (1, .int 2)]) hx hb dX7_number_21 rfl hl (of_decide_eq_true rfl) rfl (fun ls hl => ?_)
      refine lv_iload_n hx hb dX7_number_22 rfl (lv_at hl 0 rfl) ?_
      refine lv_iload_n hx hb dX7_number_23 rfl (lv_at hl 3 rfl) ?_
      refine lv_icmp_ge (tgt := 68) hx hb dX7_number_24 (of_decide_eq_true rfl) (fun c => absurd c (of_decide_eq_true rfl)) (fun _ => ?_)
      refine lv_aload_n hx hb dX7_number_27 rfl (lv_at hl 2 rfl) ?_
      refine jcallV (As := []) (rest := []) ⟨hx, hb, hml, hown, hts⟩ hK hP hA hS hZ (c_X7_sign_9 l D cI cL ad zz hJ σ τ hI9) cw_RX7_35 (jc_9 cI cL ad σ τ) rfl ⟨Nat.le_of_ble_eq_true rfl, Nat.le_of_ble_eq_true rfl⟩ rfl rfl rfl hl.1 rfl (Nat.le_of_ble_eq_true rfl) dX7_number_28 ⟨Nat.zero_le _, Nat.zero_le _⟩ (fun r22 σ21 τ21 H locs h21 hP hS => ?_)
      obtain ⟨⟨rfl, rfl⟩, h21⟩ := h21
      rcases h21 with h23 | h24
      · obtain ⟨q27, k25, k26⟩ := h23
        have q28 : r22 = (σ 10 (σ 9 1).toNatClampNeg) := q27.trans rfl
        have q28 := q28.symm
        subst q28
        refine jcallS (As := [.int (σ 10 (σ 9 1).toNatClampNeg)]) (rest := []) ⟨hx, hb, hml, hown, hts⟩ hK hP hA hS hZ (c_X7_isDigit l D cI cL ad zz hJ σ τ (σ 10 (σ 9 1).toNatClampNeg) ((σ 10 (σ 9 1).toNatClampNeg).toInt) rfl) cw_RX7_39 ⟨Nat.le_of_ble_eq_true rfl, Nat.le_of_ble_eq_true rfl⟩ rfl rfl rfl hl.1 rfl (Nat.le_of_ble_eq_true rfl) dX7_number_31 ⟨Nat.zero_le _, Nat.zero_le _⟩ (fun r30 σ29 τ29 H locs h29 hP hS => ?_)
        obtain ⟨⟨rfl, rfl⟩, h29⟩ := h29
        rcases h29 with h31 | h32
        · obtain ⟨q34, k33⟩ := h31
          have q34 := q34.symm
          subst q34
          refine lv_if_eq (tgt := 68) hx hb dX7_number_34 (of_decide_eq_true rfl) (fun c => absurd c (of_decide_eq_true rfl)) (fun _ => ?_)
          refine lv_iload_n hx hb dX7_number_37 rfl (lv_at hl 1 rfl) ?_
          refine lv_bipush (v := 10) hx hb dX7_number_38 (of_decide_eq_true rfl) ?_
          refine lv_imul hx hb dX7_number_40 ?_
          refine jtopr (y := 0) (of_decide_eq_true rfl) ?_
          refine lv_aload_n hx hb dX7_number_41 rfl (lv_at hl 2 rfl) ?_
          refine va_get (D := D) hx hb hts inlX7 hown hK hP 9 (jc_9 cI cL ad σ τ) rfl 3 (of_decide_eq_true rfl) (hts _ kw_3_20) (fun _ h9 => h9) rfl dX7_number_42 ?_
          refine lv_aload_n hx hb dX7_number_45 rfl (lv_at hl 2 rfl) ?_
          refine lv_dup hx hb dX7_number_46 rfl ?_
          refine va_get (D := D) hx hb hts inlX7 hown hK hP 9 (jc_9 cI cL ad σ τ) rfl 1 (of_decide_eq_true rfl) (hts _ kw_13_17) (fun _ h9 => h9) rfl dX7_number_47 ?_
          refine lv_dup_x1 hx hb dX7_number_50 rfl rfl ?_
          refine lv_iconst (v := 1) hx hb dX7_number_51 (of_decide_eq_true rfl) ?_
          have g35 := jrg (rfl : (σ 9 1).toInt = (σ 9 1).toInt)
          refine lv_iadd hx hb dX7_number_52 ?_
          refine lv_topi (fun x36 ex36 => ?_)
          exact by
           have tx36 : x36.toInt = (σ 9 1).toInt + 1 := (jadd ex36 rfl jz_1 (by omega) (by omega)).trans (by omega)
           refine jput (ty := .int) hx hb hts inlX7 tyX7 tyX7_ok nmX7 hown hK hP hJ hA hS (jc_9 cI cL ad σ τ) rfl (k := 1) (of_decide_eq_true rfl) (Nat.le_of_ble_eq_true rfl) (jp_9_1 cI cL ad σ τ x36) (hts _ kw_13_17) (fun _ h9 => h9) rfl (by decide +kernel) rfl rfl dX7_number_53 (fun σ37 H locs eσ37 hP hS => ?_)
           refine jald hx hb hK hP (jc_10 cI cL ad σ37 τ) (jin rfl (by omega) (by omega)) dX7_number_56 ?_
           refine jtopr (y := (σ 10 (σ 9 1).toNatClampNeg)) (by rw [jnp 10 eσ37 (of_decide_eq_true rfl)]) ?_
           refine lv_iadd hx hb dX7_number_57 ?_
           refine jtopr (y := (σ 10 (σ 9 1).toNatClampNeg)) (by rw [Int32.zero_add]) ?_
           refine lv_bipush (v := 48) hx hb dX7_number_58 (of_decide_eq_true rfl) ?_
           have g38 := jrg (rfl : (σ 10 (σ 9 1).toNatClampNeg).toInt = (σ 10 (σ 9 1).toNatClampNeg).toInt)
           refine lv_isub hx hb dX7_number_60 ?_
           exact by
            refine lv_topi (fun x39 ex39 => ?_)
            have tx39 : x39.toInt = (σ 10 (σ 9 1).toNatClampNeg).toInt - 48 := (jsub ex39 rfl jz_48 (by omega) (by omega)).trans (by omega)
            refine lv_istore_n (lv' := [(2, .int x39), (3, .int 0), (0, .ref (ad 9)), (1, .int 2)]) hx hb dX7_number_61 rfl hl (of_decide_eq_true rfl) rfl (fun ls hl => ?_)
            refine lv_iinc (v := 1) (lv' := [(3, .int 1), (2, .int x39), (0, .ref (ad 9)), (1, .int 2)]) hx hb dX7_number_62 hl (k := 1) rfl (of_decide_eq_true rfl) (of_decide_eq_true rfl) rfl (fun ls hl => ?_)
            refine lv_goto (tgt := 22) hx hb dX7_number_65 (of_decide_eq_true rfl) ?_
            refine lv_iload_n hx hb dX7_number_22 rfl (lv_at hl 0 rfl) ?_
            refine lv_iload_n hx hb dX7_number_23 rfl (lv_at hl 3 rfl) ?_
            refine lv_icmp_ge (tgt := 68) hx hb dX7_number_24 (of_decide_eq_true rfl) (fun c => absurd c (of_decide_eq_true rfl)) (fun _ => ?_)
            refine lv_aload_n hx hb dX7_number_27 rfl (lv_at hl 2 rfl) ?_
            exact by
             have I40 : jI9 σ37 := jI9_fr (jkp 0 eσ37 (of_decide_eq_true rfl)) (jnp 10 eσ37 (of_decide_eq_true rfl)) (jnp 11 eσ37 (of_decide_eq_true rfl)) hI9
             have z41 : (σ37 9 1).toInt = (σ 9 1).toInt + 1 := ((congrArg Int32.toInt (show σ37 9 1 = x36 from (jsp eσ37))).trans tx36)
             have z42 : (σ37 9 0).toInt = (σ 9 0).toInt := (congrArg Int32.toInt (show σ37 9 0 = (σ 9 0) from (jkp 0 eσ37 (of_decide_eq_true rfl))))
             refine jcallV (As := []) (rest := []) ⟨hx, hb, hml, hown, hts⟩ hK hP hA hS hZ (c_X7_sign_9 l D cI cL ad zz hJ σ37 τ I40) cw_RX7_35 (jc_9 cI cL ad σ37 τ) rfl ⟨Nat.le_of_ble_eq_true rfl, Nat.le_of_ble_eq_true rfl⟩ rfl rfl rfl hl.1 rfl (Nat.le_of_ble_eq_true rfl) dX7_number_28 ⟨Nat.zero_le _, Nat.zero_le _⟩ (fun r44 σ43 τ43 H locs h43 hP hS => ?_)
             obtain ⟨⟨rfl, rfl⟩, h43⟩ := h43
             rcases h43 with h45 | h46
             · obtain ⟨q49, k47, k48⟩ := h45
               have q50 : r44 = (σ 10 x36.toNatClampNeg) := q49.trans (by rw [(show σ37 9 1 = x36 from (jsp eσ37)), jnp 10 eσ37 (of_decide_eq_true rfl)])
               have q50e : (σ37 10 (σ37 9 1).toNatClampNeg).toInt = (σ 10 x36.toNatClampNeg).toInt := by rw [← q49, ← q50]
               exact by
                have q50 := q50.symm
                subst q50
                refine jcallS (As := [.int (σ 10 x36.toNatClampNeg)]) (rest := []) ⟨hx, hb, hml, hown, hts⟩ hK hP hA hS hZ (c_X7_isDigit l D cI cL ad zz hJ σ37 τ (σ 10 x36.toNatClampNeg) ((σ 10 x36.toNatClampNeg).toInt) rfl) cw_RX7_39 ⟨Nat.le_of_ble_eq_true rfl, Nat.le_of_ble_eq_true rfl⟩ rfl rfl rfl hl.1 rfl (Nat.le_of_ble_eq_true rfl) dX7_number_31 ⟨Nat.zero_le _, Nat.zero_le _⟩ (fun r52 σ51 τ51 H locs h51 hP hS => ?_)
                obtain ⟨⟨rfl, rfl⟩, h51⟩ := h51
                rcases h51 with h53 | h54
                · obtain ⟨q56, k55⟩ := h53
                  have q56 := q56.symm
                  subst q56
                  refine lv_if_eq (tgt := 68) hx hb dX7_number_34 (of_decide_eq_true rfl) (fun c => absurd c (of_decide_eq_true rfl)) (fun _ => ?_)
                  refine lv_iload_n hx hb dX7_number_37 rfl (lv_at hl 1 rfl) ?_
                  refine lv_bipush (v := 10) hx hb dX7_number_38 (of_decide_eq_true rfl) ?_
                  refine lv_imul hx hb dX7_number_40 ?_
                  refine lv_topi (fun x57 ex57 => ?_)
                  exact by
                   have tx57 : x57.toInt = 10 * (σ 10 (σ 9 1).toNatClampNeg).toInt - 480 := (jmul ex57 tx39 jz_10 (by omega) (by omega)).trans (by omega)
                   refine lv_aload_n hx hb dX7_number_41 rfl (lv_at hl 2 rfl) ?_
                   refine va_get (D := D) hx hb hts inlX7 hown hK hP 9 (jc_9 cI cL ad σ37 τ) rfl 3 (of_decide_eq_true rfl) (hts _ kw_3_20) (fun _ h9 => h9) rfl dX7_number_42 ?_
                   refine lv_aload_n hx hb dX7_number_45 rfl (lv_at hl 2 rfl) ?_
                   refine lv_dup hx hb dX7_number_46 rfl ?_
                   refine va_get (D := D) hx hb hts inlX7 hown hK hP 9 (jc_9 cI cL ad σ37 τ) rfl 1 (of_decide_eq_true rfl) (hts _ kw_13_17) (fun _ h9 => h9) rfl dX7_number_47 ?_
                   have m58 : σ37 9 1 = x36 := (jsp eσ37)
                   refine jtopr m58 ?_
                   refine lv_dup_x1 hx hb dX7_number_50 rfl rfl ?_
                   refine lv_iconst (v := 1) hx hb dX7_number_51 (of_decide_eq_true rfl) ?_
                   refine lv_iadd hx hb dX7_number_52 ?_
                   refine lv_topi (fun x59 ex59 => ?_)
                   exact by
                    have tx59 : x59.toInt = (σ 9 1).toInt + 2 := (jadd ex59 tx36 jz_1 (by omega) (by omega)).trans (by omega)
                    refine jput (ty := .int) hx hb hts inlX7 tyX7 tyX7_ok nmX7 hown hK hP hJ hA hS (jc_9 cI cL ad σ37 τ) rfl (k := 1) (of_decide_eq_true rfl) (Nat.le_of_ble_eq_true rfl) (jp_9_1 cI cL ad σ37 τ x59) (hts _ kw_13_17) (fun _ h9 => h9) rfl (by decide +kernel) rfl rfl dX7_number_53 (fun σ60 H locs eσ60 hP hS => ?_)
                    refine jald hx hb hK hP (jc_10 cI cL ad σ60 τ) (jin tx36 (by omega) (by omega)) dX7_number_56 ?_
                    refine jtopr (y := (σ 10 x36.toNatClampNeg)) (by rw [jnp 10 eσ60 (of_decide_eq_true rfl), jnp 10 eσ37 (of_decide_eq_true rfl)]) ?_
                    have g61 := jrg (rfl : (σ 10 x36.toNatClampNeg).toInt = (σ 10 x36.toNatClampNeg).toInt)
                    refine lv_iadd hx hb dX7_number_57 ?_
                    refine lv_topi (fun x62 ex62 => ?_)
                    have tx62 : x62.toInt = 10 * (σ 10 (σ 9 1).toNatClampNeg).toInt + (σ 10 x36.toNatClampNeg).toInt - 480 := (jadd ex62 tx57 rfl (by omega) (by omega)).trans (by omega)
                    refine lv_bipush (v := 48) hx hb dX7_number_58 (of_decide_eq_true rfl) ?_
                    exact by
                     refine lv_isub hx hb dX7_number_60 ?_
                     refine lv_topi (fun x63 ex63 => ?_)
                     have tx63 : x63.toInt = 10 * (σ 10 (σ 9 1).toNatClampNeg).toInt + (σ 10 x36.toNatClampNeg).toInt - 528 := (jsub ex63 tx62 jz_48 (by omega) (by omega)).trans (by omega)
                     refine lv_istore_n (lv' := [(2, .int x63), (3, .int 1), (0, .ref (ad 9)), (1, .int 2)]) hx hb dX7_number_61 rfl hl (of_decide_eq_true rfl) rfl (fun ls hl => ?_)
                     refine lv_iinc (v := 2) (lv' := [(3, .int 2), (2, .int x63), (0, .ref (ad 9)), (1, .int 2)]) hx hb dX7_number_62 hl (k := 1) rfl (of_decide_eq_true rfl) (of_decide_eq_true rfl) rfl (fun ls hl => ?_)
                     refine lv_goto (tgt := 22) hx hb dX7_number_65 (of_decide_eq_true rfl) ?_
                     refine lv_iload_n hx hb dX7_number_22 rfl (lv_at hl 0 rfl) ?_
                     refine lv_iload_n hx hb dX7_number_23 rfl (lv_at hl 3 rfl) ?_
                     refine lv_icmp_ge (tgt := 68) hx hb dX7_number_24 (of_decide_eq_true rfl) (fun _ => ?_) (fun c => absurd (of_decide_eq_true rfl) c)
                     exact by
                      refine lv_iload_n hx hb dX7_number_68 rfl (lv_at hl 1 rfl) ?_
                      have I64 : jI9 σ60 := jI9_fr (jkp 0 eσ60 (of_decide_eq_true rfl)) (jnp 10 eσ60 (of_decide_eq_true rfl)) (jnp 11 eσ60 (of_decide_eq_true rfl)) I40
                      have z65 : (σ60 9 1).toInt = (σ 9 1).toInt + 2 := ((congrArg Int32.toInt (show σ60 9 1 = x59 from (jsp eσ60))).trans tx59)
                      have z66 : (σ60 9 0).toInt = (σ 9 0).toInt := (congrArg Int32.toInt (show σ60 9 0 = (σ 9 0) from ((jkp 0 eσ60 (of_decide_eq_true rfl)).trans (jkp 0 eσ37 (of_decide_eq_true rfl)))))
                      have I67 : jI91 σ60 := ⟨(by omega), (by omega)⟩
                      have I68 : jI92 σ60 := jI92_fr ((jkp 2 eσ60 (of_decide_eq_true rfl)).trans (jkp 2 eσ37 (of_decide_eq_true rfl))) hI92
                      have z69 : (σ60 9 2).toInt = (σ 9 2).toInt := (congrArg Int32.toInt (show σ60 9 2 = (σ 9 2) from ((jkp 2 eσ60 (of_decide_eq_true rfl)).trans (jkp 2 eσ37 (of_decide_eq_true rfl)))))
                      exact by exact hret x63 σ60 τ _ _ _ _ rfl ⟨rfl, (fun i hi => ((jnp i eσ60 (imp_37 i hi)).trans (jnp i eσ37 (imp_37 i hi)))), (fun i hi => ((jkp i eσ60 (imp_39 i hi)).trans (jkp i eσ37 (imp_39 i hi)))), I64, I67, I68, ⟨trivial, (by have h9 := tx63; omega), ⟨2, (by have i0 := jix (f := σ 10) (show (σ 9 1).toInt = (σ 9 1).toInt by omega); have p1 := tx36; have i1 := jix (f := σ 10) (show x36.toInt = (σ 9 1).toInt + 1 by omega); have h9 := tx63; exact Or.inr (Or.inr (Or.inl ⟨by omega, ⟨by omega, by omega, by omega⟩, ⟨by omega, by omega, by omega⟩, Or.inl rfl, by omega⟩))), (by omega), (by omega)⟩⟩⟩ hP hS dX7_number_69
                · obtain ⟨q71, k70⟩ := h54
                  exact by
                   have q71 := q71.symm
                   subst q71
                   refine lv_if_eq (tgt := 68) hx hb dX7_number_34 (of_decide_eq_true rfl) (fun _ => ?_) (fun c => absurd (of_decide_eq_true rfl) c)
                   refine lv_iload_n hx hb dX7_number_68 rfl (lv_at hl 1 rfl) ?_
                   have I72 : jI91 σ37 := ⟨(by omega), (by omega)⟩
                   have I73 : jI92 σ37 := jI92_fr (jkp 2 eσ37 (of_decide_eq_true rfl)) hI92
                   have z74 : (σ37 9 2).toInt = (σ 9 2).toInt := (congrArg Int32.toInt (show σ37 9 2 = (σ 9 2) from (jkp 2 eσ37 (of_decide_eq_true rfl))))
                   exact by exact hret x39 σ37 τ _ _ _ _ rfl ⟨rfl, (fun i hi => (jnp i eσ37 (imp_37 i hi))), (fun i hi => (jkp i eσ37 (imp_39 i hi))), I40, I72, I73, ⟨trivial, (by have h9 := tx39; omega), ⟨1, (by have i0 := jix (f := σ 10) (show (σ 9 1).toInt = (σ 9 1).toInt by omega); have p1 := tx36; have i1 := jix (f := σ 10) (show x36.toInt = (σ 9 1).toInt + 1 by omega); have h9 := tx39; exact Or.inr (Or.inl ⟨by omega, ⟨by omega, by omega, by omega⟩, (fun d => by unfold jDg at d; omega), by omega⟩)), (by omega), (by omega)⟩⟩⟩ hP hS dX7_number_69
             · obtain ⟨q76, k75⟩ := h46
               exact by
                have q76 := q76.symm
                subst q76
                refine jcallS (As := [.int (-1)]) (rest := []) ⟨hx, hb, hml, hown, hts⟩ hK hP hA hS hZ (c_X7_isDigit l D cI cL ad zz hJ σ37 τ (-1) ((-1)) jz_m1) cw_RX7_39 ⟨Nat.le_of_ble_eq_true rfl, Nat.le_of_ble_eq_true rfl⟩ rfl rfl rfl hl.1 rfl (Nat.le_of_ble_eq_true rfl) dX7_number_31 ⟨Nat.zero_le _, Nat.zero_le _⟩ (fun r78 σ77 τ77 H locs h77 hP hS => ?_)
                obtain ⟨⟨rfl, rfl⟩, h77⟩ := h77
                rcases h77 with h79 | h80
                · obtain ⟨q82, k81⟩ := h79
                  exact absurd (by omega : False) id
                · obtain ⟨q84, k83⟩ := h80
                  have q84 := q84.symm
                  subst q84
                  refine lv_if_eq (tgt := 68) hx hb dX7_number_34 (of_decide_eq_true rfl) (fun _ => ?_) (fun c => absurd (of_decide_eq_true rfl) c)
                  refine lv_iload_n hx hb dX7_number_68 rfl (lv_at hl 1 rfl) ?_
                  exact by
                   have I85 : jI91 σ37 := ⟨(by omega), (by omega)⟩
                   have I86 : jI92 σ37 := jI92_fr (jkp 2 eσ37 (of_decide_eq_true rfl)) hI92
                   have z87 : (σ37 9 2).toInt = (σ 9 2).toInt := (congrArg Int32.toInt (show σ37 9 2 = (σ 9 2) from (jkp 2 eσ37 (of_decide_eq_true rfl))))
                   exact by exact hret x39 σ37 τ _ _ _ _ rfl ⟨rfl, (fun i hi => (jnp i eσ37 (imp_37 i hi))), (fun i hi => (jkp i eσ37 (imp_39 i hi))), I40, I85, I86, ⟨trivial, (by have h9 := tx39; omega), ⟨1, (by have i0 := jix (f := σ 10) (show (σ 9 1).toInt = (σ 9 1).toInt by omega); have h9 := tx39; exact Or.inr (Or.inl ⟨by omega, ⟨by omega, by omega, by omega⟩, (fun d => by unfold jDg at d; omega), by omega⟩)), (by omega), (by omega)⟩⟩⟩ hP hS dX7_number_69
        · obtain ⟨q89, k88⟩ := h32
          exact absurd (by omega : False) id
      · obtain ⟨q91, k90⟩ := h24
        exact absurd (by omega : False) id
    · obtain ⟨q93, k92⟩ := h18
      have q93 := q93.symm
      subst q93
      refine lv_if_ne (tgt := 18) hx hb dX7_number_7 (of_decide_eq_true rfl) (fun c => absurd (of_decide_eq_true rfl) c) (fun _ => ?_)
      refine lv_aload_n hx hb dX7_number_10 rfl (lv_at hl 0 rfl) ?_
      refine lv_aload_n hx hb dX7_number_11 rfl (lv_at hl 0 rfl) ?_
      refine va_get (D := D) hx hb hts inlX7 hown hK hP 9 (jc_9 cI cL ad σ τ) rfl 1 (of_decide_eq_true rfl) (hts _ kw_13_17) (fun _ h9 => h9) rfl dX7_number_12 ?_
      exact by
       refine jcallVv (As := [.int (σ 9 1)]) (rest := []) ⟨hx, hb, hml, hown, hts⟩ hK hP hA hS hZ (c_X7_fail_9 l D cI cL ad zz hJ σ τ (σ 9 1) ((σ 9 1).toInt) rfl hI92 (by omega)) cw_RX7_43 (jc_9 cI cL ad σ τ) rfl ⟨Nat.le_of_ble_eq_true rfl, Nat.le_of_ble_eq_true rfl⟩ rfl rfl rfl hl.1 rfl (Nat.le_of_ble_eq_true rfl) dX7_number_15 ⟨Nat.zero_le _, Nat.zero_le _⟩ (fun σ94 τ94 H locs h94 hP hS => ?_)
       obtain ⟨rfl, f96, f97, h94⟩ := h94
       obtain ⟨k99, k100, h94⟩ := h94
       refine lv_iconst (v := 0) hx hb dX7_number_18 (of_decide_eq_true rfl) ?_
       refine lv_istore_n (lv' := [(2, .int 0), (0, .ref (ad 9)), (1, .int 2)]) hx hb dX7_number_19 rfl hl (of_decide_eq_true rfl) rfl (fun ls hl => ?_)
       refine lv_iconst (v := 0) hx hb dX7_number_20 (of_decide_eq_true rfl) ?_
       refine lv_istore_n (lv' := [(3, .int 0), (2, .int 0), (0, .ref (ad 9)), (1, .int 2)]) hx hb dX7_number_21 rfl hl (of_decide_eq_true rfl) rfl (fun ls hl => ?_)
       refine lv_iload_n hx hb dX7_number_22 rfl (lv_at hl 0 rfl) ?_
       refine lv_iload_n hx hb dX7_number_23 rfl (lv_at hl 3 rfl) ?_
       refine lv_icmp_ge (tgt := 68) hx hb dX7_number_24 (of_decide_eq_true rfl) (fun c => absurd c (of_decide_eq_true rfl)) (fun _ => ?_)
       refine lv_aload_n hx hb dX7_number_27 rfl (lv_at hl 2 rfl) ?_
       have I101 : jI9 σ94 := jI9_fr (f97 0 (of_decide_eq_true rfl)) (f96 10 (of_decide_eq_true rfl)) (f96 11 (of_decide_eq_true rfl)) hI9
       have z102 : (σ94 9 1).toInt = (σ 9 1).toInt := (congrArg Int32.toInt (show σ94 9 1 = (σ 9 1) from (f97 1 (of_decide_eq_true rfl))))
       have z103 : (σ94 9 0).toInt = (σ 9 0).toInt := (congrArg Int32.toInt (show σ94 9 0 = (σ 9 0) from (f97 0 (of_decide_eq_true rfl))))
       refine jcallV (As := []) (rest := []) ⟨hx, hb, hml, hown, hts⟩ hK hP hA hS hZ (c_X7_sign_9 l D cI cL ad zz hJ σ94 τ I101) cw_RX7_35 (jc_9 cI cL ad σ94 τ) rfl ⟨Nat.le_of_ble_eq_true rfl, Nat.le_of_ble_eq_true rfl⟩ rfl rfl rfl hl.1 rfl (Nat.le_of_ble_eq_true rfl) dX7_number_28 ⟨Nat.zero_le _, Nat.zero_le _⟩ (fun r105 σ104 τ104 H locs h104 hP hS => ?_)
       obtain ⟨⟨rfl, rfl⟩, h104⟩ := h104
       rcases h104 with h106 | h107
       · obtain ⟨q110, k108, k109⟩ := h106
         exact by
          have q111 : r105 = (σ 10 (σ 9 1).toNatClampNeg) := q110.trans (by rw [(show σ94 9 1 = (σ 9 1) from (f97 1 (of_decide_eq_true rfl))), f96 10 (of_decide_eq_true rfl)])
          have q111e : (σ94 10 (σ94 9 1).toNatClampNeg).toInt = (σ 10 (σ 9 1).toNatClampNeg).toInt := by rw [← q110, ← q111]
          have q111 := q111.symm
          subst q111
          refine jcallS (As := [.int (σ 10 (σ 9 1).toNatClampNeg)]) (rest := []) ⟨hx, hb, hml, hown, hts⟩ hK hP hA hS hZ (c_X7_isDigit l D cI cL ad zz hJ σ94 τ (σ 10 (σ 9 1).toNatClampNeg) ((σ 10 (σ 9 1).toNatClampNeg).toInt) rfl) cw_RX7_39 ⟨Nat.le_of_ble_eq_true rfl, Nat.le_of_ble_eq_true rfl⟩ rfl rfl rfl hl.1 rfl (Nat.le_of_ble_eq_true rfl) dX7_number_31 ⟨Nat.zero_le _, Nat.zero_le _⟩ (fun r113 σ112 τ112 H locs h112 hP hS => ?_)
          obtain ⟨⟨rfl, rfl⟩, h112⟩ := h112
          rcases h112 with h114 | h115
          · obtain ⟨q117, k116⟩ := h114
            exact absurd (by omega : False) id
          · obtain ⟨q119, k118⟩ := h115
            have q119 := q119.symm
            subst q119
            refine lv_if_eq (tgt := 68) hx hb dX7_number_34 (of_decide_eq_true rfl) (fun _ => ?_) (fun c => absurd (of_decide_eq_true rfl) c)
            refine lv_iload_n hx hb dX7_number_68 rfl (lv_at hl 1 rfl) ?_
            have I120 : jI91 σ94 := jI91_fr (f97 0 (of_decide_eq_true rfl)) (f97 1 (of_decide_eq_true rfl)) hI91
            have I121 : jI92 σ94 := (show (-1) ≤ (σ94 9 2).toInt by omega)
            exact by exact hret 0 σ94 τ _ _ _ _ rfl ⟨rfl, (fun i hi => (f96 i hi)), (fun i hi => (f97 i (imp_43 i hi))), I101, I120, I121, ⟨trivial, (by have h9 := jz_0; omega), ⟨0, (by have i0 := jix (f := σ 10) (show (σ 9 1).toInt = (σ 9 1).toInt by omega); have h9 := jz_0; exact Or.inl ⟨by omega, by omega, (fun d => by unfold jDg at d; omega)⟩), (by omega), (by omega)⟩⟩⟩ hP hS dX7_number_69
       · obtain ⟨q123, k122⟩ := h107
         have q123 := q123.symm
         subst q123
         refine jcallS (As := [.int (-1)]) (rest := []) ⟨hx, hb, hml, hown, hts⟩ hK hP hA hS hZ (c_X7_isDigit l D cI cL ad zz hJ σ94 τ (-1) ((-1)) jz_m1) cw_RX7_39 ⟨Nat.le_of_ble_eq_true rfl, Nat.le_of_ble_eq_true rfl⟩ rfl rfl rfl hl.1 rfl (Nat.le_of_ble_eq_true rfl) dX7_number_31 ⟨Nat.zero_le _, Nat.zero_le _⟩ (fun r125 σ124 τ124 H locs h124 hP hS => ?_)
         obtain ⟨⟨rfl, rfl⟩, h124⟩ := h124
         rcases h124 with h126 | h127
         · obtain ⟨q129, k128⟩ := h126
           exact absurd (by omega : False) id
         · obtain ⟨q131, k130⟩ := h127
           have q131 := q131.symm
           subst q131
           refine lv_if_eq (tgt := 68) hx hb dX7_number_34 (of_decide_eq_true rfl) (fun _ => ?_) (fun c => absurd (of_decide_eq_true rfl) c)
           refine lv_iload_n hx hb dX7_number_68 rfl (lv_at hl 1 rfl) ?_
           have I132 : jI91 σ94 := jI91_fr (f97 0 (of_decide_eq_true rfl)) (f97 1 (of_decide_eq_true rfl)) hI91
           have I133 : jI92 σ94 := (show (-1) ≤ (σ94 9 2).toInt by omega)
           exact by exact hret 0 σ94 τ _ _ _ _ rfl ⟨rfl, (fun i hi => (f96 i hi)), (fun i hi => (f97 i (imp_43 i hi))), I101, I132, I133, ⟨trivial, (by have h9 := jz_0; omega), ⟨0, (by have i0 := jix (f := σ 10) (show (σ 9 1).toInt = (σ 9 1).toInt by omega); have h9 := jz_0; exact Or.inl ⟨by omega, by omega, (fun d => by unfold jDg at d; omega)⟩), (by omega), (by omega)⟩⟩⟩ hP hS dX7_number_69
  · obtain ⟨q135, k134⟩ := h10
    have q135 := q135.symm
    subst q135
    refine jcallS (As := [.int (-1)]) (rest := []) ⟨hx, hb, hml, hown, hts⟩ hK hP hA hS hZ (c_X7_isDigit l D cI cL ad zz hJ σ τ (-1) ((-1)) jz_m1) cw_RX7_39 ⟨Nat.le_of_ble_eq_true rfl, Nat.le_of_ble_eq_true rfl⟩ rfl rfl rfl hl.1 rfl (Nat.le_of_ble_eq_true rfl) dX7_number_4 ⟨Nat.zero_le _, Nat.zero_le _⟩ (fun r137 σ136 τ136 H locs h136 hP hS => ?_)
    obtain ⟨⟨rfl, rfl⟩, h136⟩ := h136
    rcases h136 with h138 | h139
    · obtain ⟨q141, k140⟩ := h138
      exact absurd (by omega : False) id
    · obtain ⟨q143, k142⟩ := h139
      have q143 := q143.symm
      subst q143
      refine lv_if_ne (tgt := 18) hx hb dX7_number_7 (of_decide_eq_true rfl) (fun c => absurd (of_decide_eq_true rfl) c) (fun _ => ?_)
      refine lv_aload_n hx hb dX7_number_10 rfl (lv_at hl 0 rfl) ?_
      refine lv_aload_n hx hb dX7_number_11 rfl (lv_at hl 0 rfl) ?_
      refine va_get (D := D) hx hb hts inlX7 hown hK hP 9 (jc_9 cI cL ad σ τ) rfl 1 (of_decide_eq_true rfl) (hts _ kw_13_17) (fun _ h9 => h9) rfl dX7_number_12 ?_
      exact by
       refine jcallVv (As := [.int (σ 9 1)]) (rest := []) ⟨hx, hb, hml, hown, hts⟩ hK hP hA hS hZ (c_X7_fail_9 l D cI cL ad zz hJ σ τ (σ 9 1) ((σ 9 1).toInt) rfl hI92 (by omega)) cw_RX7_43 (jc_9 cI cL ad σ τ) rfl ⟨Nat.le_of_ble_eq_true rfl, Nat.le_of_ble_eq_true rfl⟩ rfl rfl rfl hl.1 rfl (Nat.le_of_ble_eq_true rfl) dX7_number_15 ⟨Nat.zero_le _, Nat.zero_le _⟩ (fun σ144 τ144 H locs h144 hP hS => ?_)
       obtain ⟨rfl, f146, f147, h144⟩ := h144
       obtain ⟨k149, k150, h144⟩ := h144
       refine lv_iconst (v := 0) hx hb dX7_number_18 (of_decide_eq_true rfl) ?_
       refine lv_istore_n (lv' := [(2, .int 0), (0, .ref (ad 9)), (1, .int 2)]) hx hb dX7_number_19 rfl hl (of_decide_eq_true rfl) rfl (fun ls hl => ?_)
       refine lv_iconst (v := 0) hx hb dX7_number_20 (of_decide_eq_true rfl) ?_
       refine lv_istore_n (lv' := [(3, .int 0), (2, .int 0), (0, .ref (ad 9)), (1, .int 2)]) hx hb dX7_number_21 rfl hl (of_decide_eq_true rfl) rfl (fun ls hl => ?_)
       refine lv_iload_n hx hb dX7_number_22 rfl (lv_at hl 0 rfl) ?_
       refine lv_iload_n hx hb dX7_number_23 rfl (lv_at hl 3 rfl) ?_
       refine lv_icmp_ge (tgt := 68) hx hb dX7_number_24 (of_decide_eq_true rfl) (fun c => absurd c (of_decide_eq_true rfl)) (fun _ => ?_)
       refine lv_aload_n hx hb dX7_number_27 rfl (lv_at hl 2 rfl) ?_
       have I151 : jI9 σ144 := jI9_fr (f147 0 (of_decide_eq_true rfl)) (f146 10 (of_decide_eq_true rfl)) (f146 11 (of_decide_eq_true rfl)) hI9
       have z152 : (σ144 9 1).toInt = (σ 9 1).toInt := (congrArg Int32.toInt (show σ144 9 1 = (σ 9 1) from (f147 1 (of_decide_eq_true rfl))))
       have z153 : (σ144 9 0).toInt = (σ 9 0).toInt := (congrArg Int32.toInt (show σ144 9 0 = (σ 9 0) from (f147 0 (of_decide_eq_true rfl))))
       refine jcallV (As := []) (rest := []) ⟨hx, hb, hml, hown, hts⟩ hK hP hA hS hZ (c_X7_sign_9 l D cI cL ad zz hJ σ144 τ I151) cw_RX7_35 (jc_9 cI cL ad σ144 τ) rfl ⟨Nat.le_of_ble_eq_true rfl, Nat.le_of_ble_eq_true rfl⟩ rfl rfl rfl hl.1 rfl (Nat.le_of_ble_eq_true rfl) dX7_number_28 ⟨Nat.zero_le _, Nat.zero_le _⟩ (fun r155 σ154 τ154 H locs h154 hP hS => ?_)
       obtain ⟨⟨rfl, rfl⟩, h154⟩ := h154
       rcases h154 with h156 | h157
       · obtain ⟨q160, k158, k159⟩ := h156
         exact by
          have q161 : r155 = (σ 10 (σ 9 1).toNatClampNeg) := q160.trans (by rw [(show σ144 9 1 = (σ 9 1) from (f147 1 (of_decide_eq_true rfl))), f146 10 (of_decide_eq_true rfl)])
          have q161e : (σ144 10 (σ144 9 1).toNatClampNeg).toInt = (σ 10 (σ 9 1).toNatClampNeg).toInt := by rw [← q160, ← q161]
          have q161 := q161.symm
          subst q161
          refine jcallS (As := [.int (σ 10 (σ 9 1).toNatClampNeg)]) (rest := []) ⟨hx, hb, hml, hown, hts⟩ hK hP hA hS hZ (c_X7_isDigit l D cI cL ad zz hJ σ144 τ (σ 10 (σ 9 1).toNatClampNeg) ((σ 10 (σ 9 1).toNatClampNeg).toInt) rfl) cw_RX7_39 ⟨Nat.le_of_ble_eq_true rfl, Nat.le_of_ble_eq_true rfl⟩ rfl rfl rfl hl.1 rfl (Nat.le_of_ble_eq_true rfl) dX7_number_31 ⟨Nat.zero_le _, Nat.zero_le _⟩ (fun r163 σ162 τ162 H locs h162 hP hS => ?_)
          obtain ⟨⟨rfl, rfl⟩, h162⟩ := h162
          rcases h162 with h164 | h165
          · obtain ⟨q167, k166⟩ := h164
            have q167 := q167.symm
            subst q167
            refine lv_if_eq (tgt := 68) hx hb dX7_number_34 (of_decide_eq_true rfl) (fun c => absurd c (of_decide_eq_true rfl)) (fun _ => ?_)
            refine lv_iload_n hx hb dX7_number_37 rfl (lv_at hl 1 rfl) ?_
            refine lv_bipush (v := 10) hx hb dX7_number_38 (of_decide_eq_true rfl) ?_
            refine lv_imul hx hb dX7_number_40 ?_
            refine jtopr (y := 0) (of_decide_eq_true rfl) ?_
            refine lv_aload_n hx hb dX7_number_41 rfl (lv_at hl 2 rfl) ?_
            refine va_get (D := D) hx hb hts inlX7 hown hK hP 9 (jc_9 cI cL ad σ144 τ) rfl 3 (of_decide_eq_true rfl) (hts _ kw_3_20) (fun _ h9 => h9) rfl dX7_number_42 ?_
            refine lv_aload_n hx hb dX7_number_45 rfl (lv_at hl 2 rfl) ?_
            refine lv_dup hx hb dX7_number_46 rfl ?_
            refine va_get (D := D) hx hb hts inlX7 hown hK hP 9 (jc_9 cI cL ad σ144 τ) rfl 1 (of_decide_eq_true rfl) (hts _ kw_13_17) (fun _ h9 => h9) rfl dX7_number_47 ?_
            have m168 : σ144 9 1 = (σ 9 1) := (f147 1 (of_decide_eq_true rfl))
            refine jtopr m168 ?_
            refine lv_dup_x1 hx hb dX7_number_50 rfl rfl ?_
            refine lv_iconst (v := 1) hx hb dX7_number_51 (of_decide_eq_true rfl) ?_
            have g169 := jrg (rfl : (σ 9 1).toInt = (σ 9 1).toInt)
            refine lv_iadd hx hb dX7_number_52 ?_
            refine lv_topi (fun x170 ex170 => ?_)
            exact by
             have tx170 : x170.toInt = (σ 9 1).toInt + 1 := (jadd ex170 rfl jz_1 (by omega) (by omega)).trans (by omega)
             refine jput (ty := .int) hx hb hts inlX7 tyX7 tyX7_ok nmX7 hown hK hP hJ hA hS (jc_9 cI cL ad σ144 τ) rfl (k := 1) (of_decide_eq_true rfl) (Nat.le_of_ble_eq_true rfl) (jp_9_1 cI cL ad σ144 τ x170) (hts _ kw_13_17) (fun _ h9 => h9) rfl (by decide +kernel) rfl rfl dX7_number_53 (fun σ171 H locs eσ171 hP hS => ?_)
             refine jald hx hb hK hP (jc_10 cI cL ad σ171 τ) (jin rfl (by omega) (by omega)) dX7_number_56 ?_
             refine jtopr (y := (σ 10 (σ 9 1).toNatClampNeg)) (by rw [jnp 10 eσ171 (of_decide_eq_true rfl), f146 10 (of_decide_eq_true rfl)]) ?_
             refine lv_iadd hx hb dX7_number_57 ?_
             refine jtopr (y := (σ 10 (σ 9 1).toNatClampNeg)) (by rw [Int32.zero_add]) ?_
             refine lv_bipush (v := 48) hx hb dX7_number_58 (of_decide_eq_true rfl) ?_
             have g172 := jrg (rfl : (σ 10 (σ 9 1).toNatClampNeg).toInt = (σ 10 (σ 9 1).toNatClampNeg).toInt)
             refine lv_isub hx hb dX7_number_60 ?_
             exact by
              refine lv_topi (fun x173 ex173 => ?_)
              have tx173 : x173.toInt = (σ 10 (σ 9 1).toNatClampNeg).toInt - 48 := (jsub ex173 rfl jz_48 (by omega) (by omega)).trans (by omega)
              refine lv_istore_n (lv' := [(2, .int x173), (3, .int 0), (0, .ref (ad 9)), (1, .int 2)]) hx hb dX7_number_61 rfl hl (of_decide_eq_true rfl) rfl (fun ls hl => ?_)
              refine lv_iinc (v := 1) (lv' := [(3, .int 1), (2, .int x173), (0, .ref (ad 9)), (1, .int 2)]) hx hb dX7_number_62 hl (k := 1) rfl (of_decide_eq_true rfl) (of_decide_eq_true rfl) rfl (fun ls hl => ?_)
              refine lv_goto (tgt := 22) hx hb dX7_number_65 (of_decide_eq_true rfl) ?_
              refine lv_iload_n hx hb dX7_number_22 rfl (lv_at hl 0 rfl) ?_
              refine lv_iload_n hx hb dX7_number_23 rfl (lv_at hl 3 rfl) ?_
              refine lv_icmp_ge (tgt := 68) hx hb dX7_number_24 (of_decide_eq_true rfl) (fun c => absurd c (of_decide_eq_true rfl)) (fun _ => ?_)
              refine lv_aload_n hx hb dX7_number_27 rfl (lv_at hl 2 rfl) ?_
              exact by
               have I174 : jI9 σ171 := jI9_fr (jkp 0 eσ171 (of_decide_eq_true rfl)) (jnp 10 eσ171 (of_decide_eq_true rfl)) (jnp 11 eσ171 (of_decide_eq_true rfl)) I151
               have z175 : (σ171 9 1).toInt = (σ 9 1).toInt + 1 := ((congrArg Int32.toInt (show σ171 9 1 = x170 from (jsp eσ171))).trans tx170)
               have z176 : (σ171 9 0).toInt = (σ 9 0).toInt := (congrArg Int32.toInt (show σ171 9 0 = (σ 9 0) from ((jkp 0 eσ171 (of_decide_eq_true rfl)).trans (f147 0 (of_decide_eq_true rfl)))))
               refine jcallV (As := []) (rest := []) ⟨hx, hb, hml, hown, hts⟩ hK hP hA hS hZ (c_X7_sign_9 l D cI cL ad zz hJ σ171 τ I174) cw_RX7_35 (jc_9 cI cL ad σ171 τ) rfl ⟨Nat.le_of_ble_eq_true rfl, Nat.le_of_ble_eq_true rfl⟩ rfl rfl rfl hl.1 rfl (Nat.le_of_ble_eq_true rfl) dX7_number_28 ⟨Nat.zero_le _, Nat.zero_le _⟩ (fun r178 σ177 τ177 H locs h177 hP hS => ?_)
               obtain ⟨⟨rfl, rfl⟩, h177⟩ := h177
               rcases h177 with h179 | h180
               · obtain ⟨q183, k181, k182⟩ := h179
                 exact absurd (by omega : False) id
               · obtain ⟨q185, k184⟩ := h180
                 have q185 := q185.symm
                 subst q185
                 refine jcallS (As := [.int (-1)]) (rest := []) ⟨hx, hb, hml, hown, hts⟩ hK hP hA hS hZ (c_X7_isDigit l D cI cL ad zz hJ σ171 τ (-1) ((-1)) jz_m1) cw_RX7_39 ⟨Nat.le_of_ble_eq_true rfl, Nat.le_of_ble_eq_true rfl⟩ rfl rfl rfl hl.1 rfl (Nat.le_of_ble_eq_true rfl) dX7_number_31 ⟨Nat.zero_le _, Nat.zero_le _⟩ (fun r187 σ186 τ186 H locs h186 hP hS => ?_)
                 obtain ⟨⟨rfl, rfl⟩, h186⟩ := h186
                 rcases h186 with h188 | h189
                 · obtain ⟨q191, k190⟩ := h188
                   exact absurd (by omega : False) id
                 · obtain ⟨q193, k192⟩ := h189
                   have q193 := q193.symm
                   subst q193
                   refine lv_if_eq (tgt := 68) hx hb dX7_number_34 (of_decide_eq_true rfl) (fun _ => ?_) (fun c => absurd (of_decide_eq_true rfl) c)
                   refine lv_iload_n hx hb dX7_number_68 rfl (lv_at hl 1 rfl) ?_
                   exact by
                    have I194 : jI91 σ171 := ⟨(by omega), (by omega)⟩
                    have z195 : (σ171 9 2).toInt = (σ144 9 2).toInt := (congrArg Int32.toInt (show σ171 9 2 = (σ144 9 2) from (jkp 2 eσ171 (of_decide_eq_true rfl))))
                    have I196 : jI92 σ171 := (show (-1) ≤ (σ171 9 2).toInt by omega)
                    exact by exact hret x173 σ171 τ _ _ _ _ rfl ⟨rfl, (fun i hi => ((jnp i eσ171 (imp_37 i hi)).trans (f146 i hi))), (fun i hi => ((jkp i eσ171 (imp_39 i hi)).trans (f147 i (imp_43 i hi)))), I174, I194, I196, ⟨trivial, (by have h9 := tx173; omega), ⟨1, (by have i0 := jix (f := σ 10) (show (σ 9 1).toInt = (σ 9 1).toInt by omega); have h9 := tx173; exact Or.inr (Or.inl ⟨by omega, ⟨by omega, by omega, by omega⟩, (fun d => by unfold jDg at d; omega), by omega⟩)), (by omega), (by omega)⟩⟩⟩ hP hS dX7_number_69
          · obtain ⟨q198, k197⟩ := h165
            have q198 := q198.symm
            subst q198
            refine lv_if_eq (tgt := 68) hx hb dX7_number_34 (of_decide_eq_true rfl) (fun _ => ?_) (fun c => absurd (of_decide_eq_true rfl) c)
            refine lv_iload_n hx hb dX7_number_68 rfl (lv_at hl 1 rfl) ?_
            have I199 : jI91 σ144 := jI91_fr (f147 0 (of_decide_eq_true rfl)) (f147 1 (of_decide_eq_true rfl)) hI91
            have I200 : jI92 σ144 := (show (-1) ≤ (σ144 9 2).toInt by omega)
            exact by exact hret 0 σ144 τ _ _ _ _ rfl ⟨rfl, (fun i hi => (f146 i hi)), (fun i hi => (f147 i (imp_43 i hi))), I151, I199, I200, ⟨trivial, (by have h9 := jz_0; omega), ⟨0, (by have i0 := jix (f := σ 10) (show (σ 9 1).toInt = (σ 9 1).toInt by omega); have h9 := jz_0; exact Or.inl ⟨by omega, by omega, (fun d => by unfold jDg at d; omega)⟩), (by omega), (by omega)⟩⟩⟩ hP hS dX7_number_69
       · obtain ⟨q202, k201⟩ := h157
         have q202 := q202.symm
         subst q202
         refine jcallS (As := [.int (-1)]) (rest := []) ⟨hx, hb, hml, hown, hts⟩ hK hP hA hS hZ (c_X7_isDigit l D cI cL ad zz hJ σ144 τ (-1) ((-1)) jz_m1) cw_RX7_39 ⟨Nat.le_of_ble_eq_true rfl, Nat.le_of_ble_eq_true rfl⟩ rfl rfl rfl hl.1 rfl (Nat.le_of_ble_eq_true rfl) dX7_number_31 ⟨Nat.zero_le _, Nat.zero_le _⟩ (fun r204 σ203 τ203 H locs h203 hP hS => ?_)
         obtain ⟨⟨rfl, rfl⟩, h203⟩ := h203
         rcases h203 with h205 | h206
         · obtain ⟨q208, k207⟩ := h205
           exact absurd (by omega : False) id
         · obtain ⟨q210, k209⟩ := h206
           have q210 := q210.symm
           subst q210
           refine lv_if_eq (tgt := 68) hx hb dX7_number_34 (of_decide_eq_true rfl) (fun _ => ?_) (fun c => absurd (of_decide_eq_true rfl) c)
           refine lv_iload_n hx hb dX7_number_68 rfl (lv_at hl 1 rfl) ?_
           have I211 : jI91 σ144 := jI91_fr (f147 0 (of_decide_eq_true rfl)) (f147 1 (of_decide_eq_true rfl)) hI91
           have I212 : jI92 σ144 := (show (-1) ≤ (σ144 9 2).toInt by omega)
           exact by exact hret 0 σ144 τ _ _ _ _ rfl ⟨rfl, (fun i hi => (f146 i hi)), (fun i hi => (f147 i (imp_43 i hi))), I151, I211, I212, ⟨trivial, (by have h9 := jz_0; omega), ⟨0, (by have h9 := jz_0; exact Or.inl ⟨by omega, by omega, (fun d => by unfold jDg at d; omega)⟩), (by omega), (by omega)⟩⟩⟩ hP hS dX7_number_69
set_option maxHeartbeats 4000000 in
set_option maxRecDepth 100000 in
theorem c_X7_number_3 (l : Launch) (D : va_G) (cI cL : ClassId) (ad zz : Nat → Nat) (hJ : jD ad) (σ : Nat → Nat → Int32) (τ : Nat → Nat → Int64) (hI9 : jI9 σ) (hI91 : jI91 σ) (hI92 : jI92 σ) (hp0 : (σ 9 2).toInt = (-1)) : jM l yX7_number cX7_number 4 (some .int) ({ frames := 1, cells := 0, slots := 0, locals := 21 }) D cI cL ad zz [.ref (ad 9), .int 3] σ τ (fun r σ' τ' => τ = τ' ∧ (∀ i : Nat, (i < 9 ∨ 9 < i) → σ' i = σ i) ∧ (∀ k : Nat, (k < 1 ∨ 1 < k) ∧ (k < 2 ∨ 2 < k) → σ' 9 k = σ 9 k) ∧ (jI9 σ') ∧ (jI91 σ') ∧ (jI92 σ') ∧ ((True ∧ (0 ≤ r.toInt ∧ r.toInt ≤ 999) ∧ (∃ q : Int, jNb (σ 10) ((σ 9 0).toInt) ((σ 9 1).toInt) 3 q (r.toInt) ∧ ((σ' 9 1).toInt = (σ 9 1).toInt + q ∧ ((q = 0 ∧ (σ' 9 2).toInt = (σ 9 1).toInt) ∨ (1 ≤ q ∧ (σ' 9 2).toInt = -1))))))) := by
  refine jM.of hJ (by decide +kernel) (nt := .int) rfl (Nat.le_of_ble_eq_true rfl) ?_
  intro p e s m args below meth c Q ls hC hret hl hP
  obtain ⟨hx, hb, hr, hml, hown, hts, hK, -, hlocks, hZ⟩ := hC
  have hown : s.vm.findClass RX7 = some m.cls := hown
  have hS : va_S (jA ad) s.heap s.heap [] := va_S.rf
  have hA : ∀ q, jA ad q → jA ad q := fun _ h => h
  have hl : lv_has ls 4 [(0, .ref (ad 9)), (1, .int 3)] := hl
  obtain ⟨i1, w2, w3⟩ : (0 ≤ (σ 9 0).toInt ∧ (σ 9 0).toInt ≤ 80) ∧ (∀ k : Nat, k < 80 → 0 ≤ (σ 10 k).toInt ∧ (σ 10 k).toInt ≤ 255) ∧ (∀ k : Nat, k < 8 → 0 ≤ (σ 11 k).toInt ∧ (σ 11 k).toInt ≤ 3) := id hI9
  obtain ⟨i4, i5⟩ : (0 ≤ (σ 9 1).toInt) ∧ ((σ 9 1).toInt ≤ (σ 9 0).toInt) := id hI91
  have i6 : (-1) ≤ (σ 9 2).toInt := hI92
  refine lv_aload_n hx hb dX7_number_0 rfl (lv_at hl 0 rfl) ?_
  refine jcallV (As := []) (rest := []) ⟨hx, hb, hml, hown, hts⟩ hK hP hA hS hZ (c_X7_sign_9 l D cI cL ad zz hJ σ τ hI9) cw_RX7_35 (jc_9 cI cL ad σ τ) rfl ⟨Nat.le_of_ble_eq_true rfl, Nat.le_of_ble_eq_true rfl⟩ rfl rfl rfl hl.1 rfl (Nat.le_of_ble_eq_true rfl) dX7_number_1 ⟨Nat.zero_le _, Nat.zero_le _⟩ (fun r8 σ7 τ7 H locs h7 hP hS => ?_)
  obtain ⟨⟨rfl, rfl⟩, h7⟩ := h7
  rcases h7 with h9 | h10
  · obtain ⟨q13, k11, k12⟩ := h9
    have q14 : r8 = (σ 10 (σ 9 1).toNatClampNeg) := q13.trans rfl
    have q14 := q14.symm
    subst q14
    refine jcallS (As := [.int (σ 10 (σ 9 1).toNatClampNeg)]) (rest := []) ⟨hx, hb, hml, hown, hts⟩ hK hP hA hS hZ (c_X7_isDigit l D cI cL ad zz hJ σ τ (σ 10 (σ 9 1).toNatClampNeg) ((σ 10 (σ 9 1).toNatClampNeg).toInt) rfl) cw_RX7_39 ⟨Nat.le_of_ble_eq_true rfl, Nat.le_of_ble_eq_true rfl⟩ rfl rfl rfl hl.1 rfl (Nat.le_of_ble_eq_true rfl) dX7_number_4 ⟨Nat.zero_le _, Nat.zero_le _⟩ (fun r16 σ15 τ15 H locs h15 hP hS => ?_)
    obtain ⟨⟨rfl, rfl⟩, h15⟩ := h15
    rcases h15 with h17 | h18
    · obtain ⟨q20, k19⟩ := h17
      have q20 := q20.symm
      subst q20
      refine lv_if_ne (tgt := 18) hx hb dX7_number_7 (of_decide_eq_true rfl) (fun _ => ?_) (fun c => absurd c (of_decide_eq_true rfl))
      refine lv_iconst (v := 0) hx hb dX7_number_18 (of_decide_eq_true rfl) ?_
      refine lv_istore_n (lv' := [(2, .int 0), (0, .ref (ad 9)), (1, .int 3)]) hx hb dX7_number_19 rfl hl (of_decide_eq_true rfl) rfl (fun ls hl => ?_)
      refine lv_iconst (v := 0) hx hb dX7_number_20 (of_decide_eq_true rfl) ?_
      refine lv_istore_n (lv' := [(3, .int 0), (2, .int 0), (0, .ref (ad 9)), (1, .int 3)]) hx hb dX7_number_21 rfl hl (of_decide_eq_true rfl) rfl (fun ls hl => ?_)
      refine lv_iload_n hx hb dX7_number_22 rfl (lv_at hl 0 rfl) ?_
      refine lv_iload_n hx hb dX7_number_23 rfl (lv_at hl 3 rfl) ?_
      refine lv_icmp_ge (tgt := 68) hx hb dX7_number_24 (of_decide_eq_true rfl) (fun c => absurd c (of_decide_eq_true rfl)) (fun _ => ?_)
      refine lv_aload_n hx hb dX7_number_27 rfl (lv_at hl 2 rfl) ?_
      refine jcallV (As := []) (rest := []) ⟨hx, hb, hml, hown, hts⟩ hK hP hA hS hZ (c_X7_sign_9 l D cI cL ad zz hJ σ τ hI9) cw_RX7_35 (jc_9 cI cL ad σ τ) rfl ⟨Nat.le_of_ble_eq_true rfl, Nat.le_of_ble_eq_true rfl⟩ rfl rfl rfl hl.1 rfl (Nat.le_of_ble_eq_true rfl) dX7_number_28 ⟨Nat.zero_le _, Nat.zero_le _⟩ (fun r22 σ21 τ21 H locs h21 hP hS => ?_)
      obtain ⟨⟨rfl, rfl⟩, h21⟩ := h21
      rcases h21 with h23 | h24
      · obtain ⟨q27, k25, k26⟩ := h23
        have q28 : r22 = (σ 10 (σ 9 1).toNatClampNeg) := q27.trans rfl
        have q28 := q28.symm
        subst q28
        refine jcallS (As := [.int (σ 10 (σ 9 1).toNatClampNeg)]) (rest := []) ⟨hx, hb, hml, hown, hts⟩ hK hP hA hS hZ (c_X7_isDigit l D cI cL ad zz hJ σ τ (σ 10 (σ 9 1).toNatClampNeg) ((σ 10 (σ 9 1).toNatClampNeg).toInt) rfl) cw_RX7_39 ⟨Nat.le_of_ble_eq_true rfl, Nat.le_of_ble_eq_true rfl⟩ rfl rfl rfl hl.1 rfl (Nat.le_of_ble_eq_true rfl) dX7_number_31 ⟨Nat.zero_le _, Nat.zero_le _⟩ (fun r30 σ29 τ29 H locs h29 hP hS => ?_)
        obtain ⟨⟨rfl, rfl⟩, h29⟩ := h29
        rcases h29 with h31 | h32
        · obtain ⟨q34, k33⟩ := h31
          have q34 := q34.symm
          subst q34
          refine lv_if_eq (tgt := 68) hx hb dX7_number_34 (of_decide_eq_true rfl) (fun c => absurd c (of_decide_eq_true rfl)) (fun _ => ?_)
          refine lv_iload_n hx hb dX7_number_37 rfl (lv_at hl 1 rfl) ?_
          refine lv_bipush (v := 10) hx hb dX7_number_38 (of_decide_eq_true rfl) ?_
          refine lv_imul hx hb dX7_number_40 ?_
          refine jtopr (y := 0) (of_decide_eq_true rfl) ?_
          refine lv_aload_n hx hb dX7_number_41 rfl (lv_at hl 2 rfl) ?_
          refine va_get (D := D) hx hb hts inlX7 hown hK hP 9 (jc_9 cI cL ad σ τ) rfl 3 (of_decide_eq_true rfl) (hts _ kw_3_20) (fun _ h9 => h9) rfl dX7_number_42 ?_
          refine lv_aload_n hx hb dX7_number_45 rfl (lv_at hl 2 rfl) ?_
          refine lv_dup hx hb dX7_number_46 rfl ?_
          refine va_get (D := D) hx hb hts inlX7 hown hK hP 9 (jc_9 cI cL ad σ τ) rfl 1 (of_decide_eq_true rfl) (hts _ kw_13_17) (fun _ h9 => h9) rfl dX7_number_47 ?_
          refine lv_dup_x1 hx hb dX7_number_50 rfl rfl ?_
          refine lv_iconst (v := 1) hx hb dX7_number_51 (of_decide_eq_true rfl) ?_
          have g35 := jrg (rfl : (σ 9 1).toInt = (σ 9 1).toInt)
          refine lv_iadd hx hb dX7_number_52 ?_
          refine lv_topi (fun x36 ex36 => ?_)
          exact by
           have tx36 : x36.toInt = (σ 9 1).toInt + 1 := (jadd ex36 rfl jz_1 (by omega) (by omega)).trans (by omega)
           refine jput (ty := .int) hx hb hts inlX7 tyX7 tyX7_ok nmX7 hown hK hP hJ hA hS (jc_9 cI cL ad σ τ) rfl (k := 1) (of_decide_eq_true rfl) (Nat.le_of_ble_eq_true rfl) (jp_9_1 cI cL ad σ τ x36) (hts _ kw_13_17) (fun _ h9 => h9) rfl (by decide +kernel) rfl rfl dX7_number_53 (fun σ37 H locs eσ37 hP hS => ?_)
           refine jald hx hb hK hP (jc_10 cI cL ad σ37 τ) (jin rfl (by omega) (by omega)) dX7_number_56 ?_
           refine jtopr (y := (σ 10 (σ 9 1).toNatClampNeg)) (by rw [jnp 10 eσ37 (of_decide_eq_true rfl)]) ?_
           refine lv_iadd hx hb dX7_number_57 ?_
           refine jtopr (y := (σ 10 (σ 9 1).toNatClampNeg)) (by rw [Int32.zero_add]) ?_
           refine lv_bipush (v := 48) hx hb dX7_number_58 (of_decide_eq_true rfl) ?_
           have g38 := jrg (rfl : (σ 10 (σ 9 1).toNatClampNeg).toInt = (σ 10 (σ 9 1).toNatClampNeg).toInt)
           refine lv_isub hx hb dX7_number_60 ?_
           exact by
            refine lv_topi (fun x39 ex39 => ?_)
            have tx39 : x39.toInt = (σ 10 (σ 9 1).toNatClampNeg).toInt - 48 := (jsub ex39 rfl jz_48 (by omega) (by omega)).trans (by omega)
            refine lv_istore_n (lv' := [(2, .int x39), (3, .int 0), (0, .ref (ad 9)), (1, .int 3)]) hx hb dX7_number_61 rfl hl (of_decide_eq_true rfl) rfl (fun ls hl => ?_)
            refine lv_iinc (v := 1) (lv' := [(3, .int 1), (2, .int x39), (0, .ref (ad 9)), (1, .int 3)]) hx hb dX7_number_62 hl (k := 1) rfl (of_decide_eq_true rfl) (of_decide_eq_true rfl) rfl (fun ls hl => ?_)
            refine lv_goto (tgt := 22) hx hb dX7_number_65 (of_decide_eq_true rfl) ?_
            refine lv_iload_n hx hb dX7_number_22 rfl (lv_at hl 0 rfl) ?_
            refine lv_iload_n hx hb dX7_number_23 rfl (lv_at hl 3 rfl) ?_
            refine lv_icmp_ge (tgt := 68) hx hb dX7_number_24 (of_decide_eq_true rfl) (fun c => absurd c (of_decide_eq_true rfl)) (fun _ => ?_)
            refine lv_aload_n hx hb dX7_number_27 rfl (lv_at hl 2 rfl) ?_
            exact by
             have I40 : jI9 σ37 := jI9_fr (jkp 0 eσ37 (of_decide_eq_true rfl)) (jnp 10 eσ37 (of_decide_eq_true rfl)) (jnp 11 eσ37 (of_decide_eq_true rfl)) hI9
             have z41 : (σ37 9 1).toInt = (σ 9 1).toInt + 1 := ((congrArg Int32.toInt (show σ37 9 1 = x36 from (jsp eσ37))).trans tx36)
             have z42 : (σ37 9 0).toInt = (σ 9 0).toInt := (congrArg Int32.toInt (show σ37 9 0 = (σ 9 0) from (jkp 0 eσ37 (of_decide_eq_true rfl))))
             refine jcallV (As := []) (rest := []) ⟨hx, hb, hml, hown, hts⟩ hK hP hA hS hZ (c_X7_sign_9 l D cI cL ad zz hJ σ37 τ I40) cw_RX7_35 (jc_9 cI cL ad σ37 τ) rfl ⟨Nat.le_of_ble_eq_true rfl, Nat.le_of_ble_eq_true rfl⟩ rfl rfl rfl hl.1 rfl (Nat.le_of_ble_eq_true rfl) dX7_number_28 ⟨Nat.zero_le _, Nat.zero_le _⟩ (fun r44 σ43 τ43 H locs h43 hP hS => ?_)
             obtain ⟨⟨rfl, rfl⟩, h43⟩ := h43
             rcases h43 with h45 | h46
             · obtain ⟨q49, k47, k48⟩ := h45
               have q50 : r44 = (σ 10 x36.toNatClampNeg) := q49.trans (by rw [(show σ37 9 1 = x36 from (jsp eσ37)), jnp 10 eσ37 (of_decide_eq_true rfl)])
               have q50e : (σ37 10 (σ37 9 1).toNatClampNeg).toInt = (σ 10 x36.toNatClampNeg).toInt := by rw [← q49, ← q50]
               exact by
                have q50 := q50.symm
                subst q50
                refine jcallS (As := [.int (σ 10 x36.toNatClampNeg)]) (rest := []) ⟨hx, hb, hml, hown, hts⟩ hK hP hA hS hZ (c_X7_isDigit l D cI cL ad zz hJ σ37 τ (σ 10 x36.toNatClampNeg) ((σ 10 x36.toNatClampNeg).toInt) rfl) cw_RX7_39 ⟨Nat.le_of_ble_eq_true rfl, Nat.le_of_ble_eq_true rfl⟩ rfl rfl rfl hl.1 rfl (Nat.le_of_ble_eq_true rfl) dX7_number_31 ⟨Nat.zero_le _, Nat.zero_le _⟩ (fun r52 σ51 τ51 H locs h51 hP hS => ?_)
                obtain ⟨⟨rfl, rfl⟩, h51⟩ := h51
                rcases h51 with h53 | h54
                · obtain ⟨q56, k55⟩ := h53
                  have q56 := q56.symm
                  subst q56
                  refine lv_if_eq (tgt := 68) hx hb dX7_number_34 (of_decide_eq_true rfl) (fun c => absurd c (of_decide_eq_true rfl)) (fun _ => ?_)
                  refine lv_iload_n hx hb dX7_number_37 rfl (lv_at hl 1 rfl) ?_
                  refine lv_bipush (v := 10) hx hb dX7_number_38 (of_decide_eq_true rfl) ?_
                  refine lv_imul hx hb dX7_number_40 ?_
                  refine lv_topi (fun x57 ex57 => ?_)
                  exact by
                   have tx57 : x57.toInt = 10 * (σ 10 (σ 9 1).toNatClampNeg).toInt - 480 := (jmul ex57 tx39 jz_10 (by omega) (by omega)).trans (by omega)
                   refine lv_aload_n hx hb dX7_number_41 rfl (lv_at hl 2 rfl) ?_
                   refine va_get (D := D) hx hb hts inlX7 hown hK hP 9 (jc_9 cI cL ad σ37 τ) rfl 3 (of_decide_eq_true rfl) (hts _ kw_3_20) (fun _ h9 => h9) rfl dX7_number_42 ?_
                   refine lv_aload_n hx hb dX7_number_45 rfl (lv_at hl 2 rfl) ?_
                   refine lv_dup hx hb dX7_number_46 rfl ?_
                   refine va_get (D := D) hx hb hts inlX7 hown hK hP 9 (jc_9 cI cL ad σ37 τ) rfl 1 (of_decide_eq_true rfl) (hts _ kw_13_17) (fun _ h9 => h9) rfl dX7_number_47 ?_
                   have m58 : σ37 9 1 = x36 := (jsp eσ37)
                   refine jtopr m58 ?_
                   refine lv_dup_x1 hx hb dX7_number_50 rfl rfl ?_
                   refine lv_iconst (v := 1) hx hb dX7_number_51 (of_decide_eq_true rfl) ?_
                   refine lv_iadd hx hb dX7_number_52 ?_
                   refine lv_topi (fun x59 ex59 => ?_)
                   exact by
                    have tx59 : x59.toInt = (σ 9 1).toInt + 2 := (jadd ex59 tx36 jz_1 (by omega) (by omega)).trans (by omega)
                    refine jput (ty := .int) hx hb hts inlX7 tyX7 tyX7_ok nmX7 hown hK hP hJ hA hS (jc_9 cI cL ad σ37 τ) rfl (k := 1) (of_decide_eq_true rfl) (Nat.le_of_ble_eq_true rfl) (jp_9_1 cI cL ad σ37 τ x59) (hts _ kw_13_17) (fun _ h9 => h9) rfl (by decide +kernel) rfl rfl dX7_number_53 (fun σ60 H locs eσ60 hP hS => ?_)
                    refine jald hx hb hK hP (jc_10 cI cL ad σ60 τ) (jin tx36 (by omega) (by omega)) dX7_number_56 ?_
                    refine jtopr (y := (σ 10 x36.toNatClampNeg)) (by rw [jnp 10 eσ60 (of_decide_eq_true rfl), jnp 10 eσ37 (of_decide_eq_true rfl)]) ?_
                    have g61 := jrg (rfl : (σ 10 x36.toNatClampNeg).toInt = (σ 10 x36.toNatClampNeg).toInt)
                    refine lv_iadd hx hb dX7_number_57 ?_
                    refine lv_topi (fun x62 ex62 => ?_)
                    have tx62 : x62.toInt = 10 * (σ 10 (σ 9 1).toNatClampNeg).toInt + (σ 10 x36.toNatClampNeg).toInt - 480 := (jadd ex62 tx57 rfl (by omega) (by omega)).trans (by omega)
                    refine lv_bipush (v := 48) hx hb dX7_number_58 (of_decide_eq_true rfl) ?_
                    exact by
                     refine lv_isub hx hb dX7_number_60 ?_
                     refine lv_topi (fun x63 ex63 => ?_)
                     have tx63 : x63.toInt = 10 * (σ 10 (σ 9 1).toNatClampNeg).toInt + (σ 10 x36.toNatClampNeg).toInt - 528 := (jsub ex63 tx62 jz_48 (by omega) (by omega)).trans (by omega)
                     refine lv_istore_n (lv' := [(2, .int x63), (3, .int 1), (0, .ref (ad 9)), (1, .int 3)]) hx hb dX7_number_61 rfl hl (of_decide_eq_true rfl) rfl (fun ls hl => ?_)
                     refine lv_iinc (v := 2) (lv' := [(3, .int 2), (2, .int x63), (0, .ref (ad 9)), (1, .int 3)]) hx hb dX7_number_62 hl (k := 1) rfl (of_decide_eq_true rfl) (of_decide_eq_true rfl) rfl (fun ls hl => ?_)
                     refine lv_goto (tgt := 22) hx hb dX7_number_65 (of_decide_eq_true rfl) ?_
                     refine lv_iload_n hx hb dX7_number_22 rfl (lv_at hl 0 rfl) ?_
                     refine lv_iload_n hx hb dX7_number_23 rfl (lv_at hl 3 rfl) ?_
                     refine lv_icmp_ge (tgt := 68) hx hb dX7_number_24 (of_decide_eq_true rfl) (fun c => absurd c (of_decide_eq_true rfl)) (fun _ => ?_)
                     exact by
                      refine lv_aload_n hx hb dX7_number_27 rfl (lv_at hl 2 rfl) ?_
                      have I64 : jI9 σ60 := jI9_fr (jkp 0 eσ60 (of_decide_eq_true rfl)) (jnp 10 eσ60 (of_decide_eq_true rfl)) (jnp 11 eσ60 (of_decide_eq_true rfl)) I40
                      have z65 : (σ60 9 1).toInt = (σ 9 1).toInt + 2 := ((congrArg Int32.toInt (show σ60 9 1 = x59 from (jsp eσ60))).trans tx59)
                      have z66 : (σ60 9 0).toInt = (σ 9 0).toInt := (congrArg Int32.toInt (show σ60 9 0 = (σ 9 0) from ((jkp 0 eσ60 (of_decide_eq_true rfl)).trans (jkp 0 eσ37 (of_decide_eq_true rfl)))))
                      refine jcallV (As := []) (rest := []) ⟨hx, hb, hml, hown, hts⟩ hK hP hA hS hZ (c_X7_sign_9 l D cI cL ad zz hJ σ60 τ I64) cw_RX7_35 (jc_9 cI cL ad σ60 τ) rfl ⟨Nat.le_of_ble_eq_true rfl, Nat.le_of_ble_eq_true rfl⟩ rfl rfl rfl hl.1 rfl (Nat.le_of_ble_eq_true rfl) dX7_number_28 ⟨Nat.zero_le _, Nat.zero_le _⟩ (fun r68 σ67 τ67 H locs h67 hP hS => ?_)
                      obtain ⟨⟨rfl, rfl⟩, h67⟩ := h67
                      rcases h67 with h69 | h70
                      · obtain ⟨q73, k71, k72⟩ := h69
                        have q74 : r68 = (σ 10 x59.toNatClampNeg) := q73.trans (by rw [(show σ60 9 1 = x59 from (jsp eσ60)), jnp 10 eσ60 (of_decide_eq_true rfl), jnp 10 eσ37 (of_decide_eq_true rfl)])
                        exact by
                         have q74e : (σ60 10 (σ60 9 1).toNatClampNeg).toInt = (σ 10 x59.toNatClampNeg).toInt := by rw [← q73, ← q74]
                         have q74 := q74.symm
                         subst q74
                         refine jcallS (As := [.int (σ 10 x59.toNatClampNeg)]) (rest := []) ⟨hx, hb, hml, hown, hts⟩ hK hP hA hS hZ (c_X7_isDigit l D cI cL ad zz hJ σ60 τ (σ 10 x59.toNatClampNeg) ((σ 10 x59.toNatClampNeg).toInt) rfl) cw_RX7_39 ⟨Nat.le_of_ble_eq_true rfl, Nat.le_of_ble_eq_true rfl⟩ rfl rfl rfl hl.1 rfl (Nat.le_of_ble_eq_true rfl) dX7_number_31 ⟨Nat.zero_le _, Nat.zero_le _⟩ (fun r76 σ75 τ75 H locs h75 hP hS => ?_)
                         obtain ⟨⟨rfl, rfl⟩, h75⟩ := h75
                         rcases h75 with h77 | h78
                         · obtain ⟨q80, k79⟩ := h77
                           have q80 := q80.symm
                           subst q80
                           refine lv_if_eq (tgt := 68) hx hb dX7_number_34 (of_decide_eq_true rfl) (fun c => absurd c (of_decide_eq_true rfl)) (fun _ => ?_)
                           refine lv_iload_n hx hb dX7_number_37 rfl (lv_at hl 1 rfl) ?_
                           refine lv_bipush (v := 10) hx hb dX7_number_38 (of_decide_eq_true rfl) ?_
                           refine lv_imul hx hb dX7_number_40 ?_
                           refine lv_topi (fun x81 ex81 => ?_)
                           exact by
                            have tx81 : x81.toInt = 100 * (σ 10 (σ 9 1).toNatClampNeg).toInt + 10 * (σ 10 x36.toNatClampNeg).toInt - 5280 := (jmul ex81 tx63 jz_10 (by omega) (by omega)).trans (by omega)
                            refine lv_aload_n hx hb dX7_number_41 rfl (lv_at hl 2 rfl) ?_
                            refine va_get (D := D) hx hb hts inlX7 hown hK hP 9 (jc_9 cI cL ad σ60 τ) rfl 3 (of_decide_eq_true rfl) (hts _ kw_3_20) (fun _ h9 => h9) rfl dX7_number_42 ?_
                            refine lv_aload_n hx hb dX7_number_45 rfl (lv_at hl 2 rfl) ?_
                            refine lv_dup hx hb dX7_number_46 rfl ?_
                            refine va_get (D := D) hx hb hts inlX7 hown hK hP 9 (jc_9 cI cL ad σ60 τ) rfl 1 (of_decide_eq_true rfl) (hts _ kw_13_17) (fun _ h9 => h9) rfl dX7_number_47 ?_
                            have m82 : σ60 9 1 = x59 := (jsp eσ60)
                            refine jtopr m82 ?_
                            refine lv_dup_x1 hx hb dX7_number_50 rfl rfl ?_
                            refine lv_iconst (v := 1) hx hb dX7_number_51 (of_decide_eq_true rfl) ?_
                            refine lv_iadd hx hb dX7_number_52 ?_
                            refine lv_topi (fun x83 ex83 => ?_)
                            exact by
                             have tx83 : x83.toInt = (σ 9 1).toInt + 3 := (jadd ex83 tx59 jz_1 (by omega) (by omega)).trans (by omega)
                             refine jput (ty := .int) hx hb hts inlX7 tyX7 tyX7_ok nmX7 hown hK hP hJ hA hS (jc_9 cI cL ad σ60 τ) rfl (k := 1) (of_decide_eq_true rfl) (Nat.le_of_ble_eq_true rfl) (jp_9_1 cI cL ad σ60 τ x83) (hts _ kw_13_17) (fun _ h9 => h9) rfl (by decide +kernel) rfl rfl dX7_number_53 (fun σ84 H locs eσ84 hP hS => ?_)
                             refine jald hx hb hK hP (jc_10 cI cL ad σ84 τ) (jin tx59 (by omega) (by omega)) dX7_number_56 ?_
                             refine jtopr (y := (σ 10 x59.toNatClampNeg)) (by rw [jnp 10 eσ84 (of_decide_eq_true rfl), jnp 10 eσ60 (of_decide_eq_true rfl), jnp 10 eσ37 (of_decide_eq_true rfl)]) ?_
                             have g85 := jrg (rfl : (σ 10 x59.toNatClampNeg).toInt = (σ 10 x59.toNatClampNeg).toInt)
                             refine lv_iadd hx hb dX7_number_57 ?_
                             refine lv_topi (fun x86 ex86 => ?_)
                             have tx86 : x86.toInt = 100 * (σ 10 (σ 9 1).toNatClampNeg).toInt + 10 * (σ 10 x36.toNatClampNeg).toInt + (σ 10 x59.toNatClampNeg).toInt - 5280 := (jadd ex86 tx81 rfl (by omega) (by omega)).trans (by omega)
                             refine lv_bipush (v := 48) hx hb dX7_number_58 (of_decide_eq_true rfl) ?_
                             exact by
                              refine lv_isub hx hb dX7_number_60 ?_
                              refine lv_topi (fun x87 ex87 => ?_)
                              have tx87 : x87.toInt = 100 * (σ 10 (σ 9 1).toNatClampNeg).toInt + 10 * (σ 10 x36.toNatClampNeg).toInt + (σ 10 x59.toNatClampNeg).toInt - 5328 := (jsub ex87 tx86 jz_48 (by omega) (by omega)).trans (by omega)
                              refine lv_istore_n (lv' := [(2, .int x87), (3, .int 2), (0, .ref (ad 9)), (1, .int 3)]) hx hb dX7_number_61 rfl hl (of_decide_eq_true rfl) rfl (fun ls hl => ?_)
                              refine lv_iinc (v := 3) (lv' := [(3, .int 3), (2, .int x87), (0, .ref (ad 9)), (1, .int 3)]) hx hb dX7_number_62 hl (k := 1) rfl (of_decide_eq_true rfl) (of_decide_eq_true rfl) rfl (fun ls hl => ?_)
                              refine lv_goto (tgt := 22) hx hb dX7_number_65 (of_decide_eq_true rfl) ?_
                              refine lv_iload_n hx hb dX7_number_22 rfl (lv_at hl 0 rfl) ?_
                              refine lv_iload_n hx hb dX7_number_23 rfl (lv_at hl 3 rfl) ?_
                              refine lv_icmp_ge (tgt := 68) hx hb dX7_number_24 (of_decide_eq_true rfl) (fun _ => ?_) (fun c => absurd (of_decide_eq_true rfl) c)
                              exact by
                               refine lv_iload_n hx hb dX7_number_68 rfl (lv_at hl 1 rfl) ?_
                               have I88 : jI9 σ84 := jI9_fr (jkp 0 eσ84 (of_decide_eq_true rfl)) (jnp 10 eσ84 (of_decide_eq_true rfl)) (jnp 11 eσ84 (of_decide_eq_true rfl)) I64
                               have z89 : (σ84 9 1).toInt = (σ 9 1).toInt + 3 := ((congrArg Int32.toInt (show σ84 9 1 = x83 from (jsp eσ84))).trans tx83)
                               have z90 : (σ84 9 0).toInt = (σ 9 0).toInt := (congrArg Int32.toInt (show σ84 9 0 = (σ 9 0) from ((jkp 0 eσ84 (of_decide_eq_true rfl)).trans ((jkp 0 eσ60 (of_decide_eq_true rfl)).trans (jkp 0 eσ37 (of_decide_eq_true rfl))))))
                               have I91 : jI91 σ84 := ⟨(by omega), (by omega)⟩
                               have I92 : jI92 σ84 := jI92_fr ((jkp 2 eσ84 (of_decide_eq_true rfl)).trans ((jkp 2 eσ60 (of_decide_eq_true rfl)).trans (jkp 2 eσ37 (of_decide_eq_true rfl)))) hI92
                               have z93 : (σ84 9 2).toInt = (σ 9 2).toInt := (congrArg Int32.toInt (show σ84 9 2 = (σ 9 2) from ((jkp 2 eσ84 (of_decide_eq_true rfl)).trans ((jkp 2 eσ60 (of_decide_eq_true rfl)).trans (jkp 2 eσ37 (of_decide_eq_true rfl))))))
                               exact by exact hret x87 σ84 τ _ _ _ _ rfl ⟨rfl, (fun i hi => ((jnp i eσ84 (imp_37 i hi)).trans ((jnp i eσ60 (imp_37 i hi)).trans (jnp i eσ37 (imp_37 i hi))))), (fun i hi => ((jkp i eσ84 (imp_39 i hi)).trans ((jkp i eσ60 (imp_39 i hi)).trans (jkp i eσ37 (imp_39 i hi))))), I88, I91, I92, ⟨trivial, (by have h9 := tx87; omega), ⟨3, (by have i0 := jix (f := σ 10) (show (σ 9 1).toInt = (σ 9 1).toInt by omega); have p1 := tx36; have i1 := jix (f := σ 10) (show x36.toInt = (σ 9 1).toInt + 1 by omega); have p2 := tx59; have i2 := jix (f := σ 10) (show x59.toInt = (σ 9 1).toInt + 2 by omega); have h9 := tx87; exact Or.inr (Or.inr (Or.inr ⟨by omega, rfl, ⟨by omega, by omega, by omega⟩, ⟨by omega, by omega, by omega⟩, ⟨by omega, by omega, by omega⟩, by omega⟩))), (by omega), (by omega)⟩⟩⟩ hP hS dX7_number_69
                         · obtain ⟨q95, k94⟩ := h78
                           exact by
                            have q95 := q95.symm
                            subst q95
                            refine lv_if_eq (tgt := 68) hx hb dX7_number_34 (of_decide_eq_true rfl) (fun _ => ?_) (fun c => absurd (of_decide_eq_true rfl) c)
                            refine lv_iload_n hx hb dX7_number_68 rfl (lv_at hl 1 rfl) ?_
                            have I96 : jI91 σ60 := ⟨(by omega), (by omega)⟩
                            have I97 : jI92 σ60 := jI92_fr ((jkp 2 eσ60 (of_decide_eq_true rfl)).trans (jkp 2 eσ37 (of_decide_eq_true rfl))) hI92
                            have z98 : (σ60 9 2).toInt = (σ 9 2).toInt := (congrArg Int32.toInt (show σ60 9 2 = (σ 9 2) from ((jkp 2 eσ60 (of_decide_eq_true rfl)).trans (jkp 2 eσ37 (of_decide_eq_true rfl)))))
                            exact by exact hret x63 σ60 τ _ _ _ _ rfl ⟨rfl, (fun i hi => ((jnp i eσ60 (imp_37 i hi)).trans (jnp i eσ37 (imp_37 i hi)))), (fun i hi => ((jkp i eσ60 (imp_39 i hi)).trans (jkp i eσ37 (imp_39 i hi)))), I64, I96, I97, ⟨trivial, (by have h9 := tx63; omega), ⟨2, (by have i0 := jix (f := σ 10) (show (σ 9 1).toInt = (σ 9 1).toInt by omega); have p1 := tx36; have i1 := jix (f := σ 10) (show x36.toInt = (σ 9 1).toInt + 1 by omega); have p2 := tx59; have i2 := jix (f := σ 10) (show x59.toInt = (σ 9 1).toInt + 2 by omega); have h9 := tx63; exact Or.inr (Or.inr (Or.inl ⟨by omega, ⟨by omega, by omega, by omega⟩, ⟨by omega, by omega, by omega⟩, Or.inr (fun d => by unfold jDg at d; omega), by omega⟩))), (by omega), (by omega)⟩⟩⟩ hP hS dX7_number_69
                      · obtain ⟨q100, k99⟩ := h70
                        exact by
                         have q100 := q100.symm
                         subst q100
                         refine jcallS (As := [.int (-1)]) (rest := []) ⟨hx, hb, hml, hown, hts⟩ hK hP hA hS hZ (c_X7_isDigit l D cI cL ad zz hJ σ60 τ (-1) ((-1)) jz_m1) cw_RX7_39 ⟨Nat.le_of_ble_eq_true rfl, Nat.le_of_ble_eq_true rfl⟩ rfl rfl rfl hl.1 rfl (Nat.le_of_ble_eq_true rfl) dX7_number_31 ⟨Nat.zero_le _, Nat.zero_le _⟩ (fun r102 σ101 τ101 H locs h101 hP hS => ?_)
                         obtain ⟨⟨rfl, rfl⟩, h101⟩ := h101
                         rcases h101 with h103 | h104
                         · obtain ⟨q106, k105⟩ := h103
                           exact absurd (by omega : False) id
                         · obtain ⟨q108, k107⟩ := h104
                           have q108 := q108.symm
                           subst q108
                           refine lv_if_eq (tgt := 68) hx hb dX7_number_34 (of_decide_eq_true rfl) (fun _ => ?_) (fun c => absurd (of_decide_eq_true rfl) c)
                           refine lv_iload_n hx hb dX7_number_68 rfl (lv_at hl 1 rfl) ?_
                           exact by
                            have I109 : jI91 σ60 := ⟨(by omega), (by omega)⟩
                            have I110 : jI92 σ60 := jI92_fr ((jkp 2 eσ60 (of_decide_eq_true rfl)).trans (jkp 2 eσ37 (of_decide_eq_true rfl))) hI92
                            have z111 : (σ60 9 2).toInt = (σ 9 2).toInt := (congrArg Int32.toInt (show σ60 9 2 = (σ 9 2) from ((jkp 2 eσ60 (of_decide_eq_true rfl)).trans (jkp 2 eσ37 (of_decide_eq_true rfl)))))
                            exact by exact hret x63 σ60 τ _ _ _ _ rfl ⟨rfl, (fun i hi => ((jnp i eσ60 (imp_37 i hi)).trans (jnp i eσ37 (imp_37 i hi)))), (fun i hi => ((jkp i eσ60 (imp_39 i hi)).trans (jkp i eσ37 (imp_39 i hi)))), I64, I109, I110, ⟨trivial, (by have h9 := tx63; omega), ⟨2, (by have i0 := jix (f := σ 10) (show (σ 9 1).toInt = (σ 9 1).toInt by omega); have p1 := tx36; have i1 := jix (f := σ 10) (show x36.toInt = (σ 9 1).toInt + 1 by omega); have h9 := tx63; exact Or.inr (Or.inr (Or.inl ⟨by omega, ⟨by omega, by omega, by omega⟩, ⟨by omega, by omega, by omega⟩, Or.inr (fun d => by unfold jDg at d; omega), by omega⟩))), (by omega), (by omega)⟩⟩⟩ hP hS dX7_number_69
                · obtain ⟨q113, k112⟩ := h54
                  have q113 := q113.symm
                  subst q113
                  refine lv_if_eq (tgt := 68) hx hb dX7_number_34 (of_decide_eq_true rfl) (fun _ => ?_) (fun c => absurd (of_decide_eq_true rfl) c)
                  refine lv_iload_n hx hb dX7_number_68 rfl (lv_at hl 1 rfl) ?_
                  exact by
                   have I114 : jI91 σ37 := ⟨(by omega), (by omega)⟩
                   have I115 : jI92 σ37 := jI92_fr (jkp 2 eσ37 (of_decide_eq_true rfl)) hI92
                   have z116 : (σ37 9 2).toInt = (σ 9 2).toInt := (congrArg Int32.toInt (show σ37 9 2 = (σ 9 2) from (jkp 2 eσ37 (of_decide_eq_true rfl))))
                   exact by exact hret x39 σ37 τ _ _ _ _ rfl ⟨rfl, (fun i hi => (jnp i eσ37 (imp_37 i hi))), (fun i hi => (jkp i eσ37 (imp_39 i hi))), I40, I114, I115, ⟨trivial, (by have h9 := tx39; omega), ⟨1, (by have i0 := jix (f := σ 10) (show (σ 9 1).toInt = (σ 9 1).toInt by omega); have p1 := tx36; have i1 := jix (f := σ 10) (show x36.toInt = (σ 9 1).toInt + 1 by omega); have h9 := tx39; exact Or.inr (Or.inl ⟨by omega, ⟨by omega, by omega, by omega⟩, (fun d => by unfold jDg at d; omega), by omega⟩)), (by omega), (by omega)⟩⟩⟩ hP hS dX7_number_69
             · obtain ⟨q118, k117⟩ := h46
               have q118 := q118.symm
               subst q118
               refine jcallS (As := [.int (-1)]) (rest := []) ⟨hx, hb, hml, hown, hts⟩ hK hP hA hS hZ (c_X7_isDigit l D cI cL ad zz hJ σ37 τ (-1) ((-1)) jz_m1) cw_RX7_39 ⟨Nat.le_of_ble_eq_true rfl, Nat.le_of_ble_eq_true rfl⟩ rfl rfl rfl hl.1 rfl (Nat.le_of_ble_eq_true rfl) dX7_number_31 ⟨Nat.zero_le _, Nat.zero_le _⟩ (fun r120 σ119 τ119 H locs h119 hP hS => ?_)
               obtain ⟨⟨rfl, rfl⟩, h119⟩ := h119
               rcases h119 with h121 | h122
               · obtain ⟨q124, k123⟩ := h121
                 exact absurd (by omega : False) id
               · obtain ⟨q126, k125⟩ := h122
                 have q126 := q126.symm
                 subst q126
                 refine lv_if_eq (tgt := 68) hx hb dX7_number_34 (of_decide_eq_true rfl) (fun _ => ?_) (fun c => absurd (of_decide_eq_true rfl) c)
                 refine lv_iload_n hx hb dX7_number_68 rfl (lv_at hl 1 rfl) ?_
                 exact by
                  have I127 : jI91 σ37 := ⟨(by omega), (by omega)⟩
                  have I128 : jI92 σ37 := jI92_fr (jkp 2 eσ37 (of_decide_eq_true rfl)) hI92
                  have z129 : (σ37 9 2).toInt = (σ 9 2).toInt := (congrArg Int32.toInt (show σ37 9 2 = (σ 9 2) from (jkp 2 eσ37 (of_decide_eq_true rfl))))
                  exact by exact hret x39 σ37 τ _ _ _ _ rfl ⟨rfl, (fun i hi => (jnp i eσ37 (imp_37 i hi))), (fun i hi => (jkp i eσ37 (imp_39 i hi))), I40, I127, I128, ⟨trivial, (by have h9 := tx39; omega), ⟨1, (by have i0 := jix (f := σ 10) (show (σ 9 1).toInt = (σ 9 1).toInt by omega); have h9 := tx39; exact Or.inr (Or.inl ⟨by omega, ⟨by omega, by omega, by omega⟩, (fun d => by unfold jDg at d; omega), by omega⟩)), (by omega), (by omega)⟩⟩⟩ hP hS dX7_number_69
        · obtain ⟨q131, k130⟩ := h32
          exact absurd (by omega : False) id
      · obtain ⟨q133, k132⟩ := h24
        exact absurd (by omega : False) id
    · obtain ⟨q135, k134⟩ := h18
      have q135 := q135.symm
      subst q135
      refine lv_if_ne (tgt := 18) hx hb dX7_number_7 (of_decide_eq_true rfl) (fun c => absurd (of_decide_eq_true rfl) c) (fun _ => ?_)
      refine lv_aload_n hx hb dX7_number_10 rfl (lv_at hl 0 rfl) ?_
      refine lv_aload_n hx hb dX7_number_11 rfl (lv_at hl 0 rfl) ?_
      refine va_get (D := D) hx hb hts inlX7 hown hK hP 9 (jc_9 cI cL ad σ τ) rfl 1 (of_decide_eq_true rfl) (hts _ kw_13_17) (fun _ h9 => h9) rfl dX7_number_12 ?_
      exact by
       refine jcallVv (As := [.int (σ 9 1)]) (rest := []) ⟨hx, hb, hml, hown, hts⟩ hK hP hA hS hZ (c_X7_fail_9 l D cI cL ad zz hJ σ τ (σ 9 1) ((σ 9 1).toInt) rfl hI92 (by omega)) cw_RX7_43 (jc_9 cI cL ad σ τ) rfl ⟨Nat.le_of_ble_eq_true rfl, Nat.le_of_ble_eq_true rfl⟩ rfl rfl rfl hl.1 rfl (Nat.le_of_ble_eq_true rfl) dX7_number_15 ⟨Nat.zero_le _, Nat.zero_le _⟩ (fun σ136 τ136 H locs h136 hP hS => ?_)
       obtain ⟨rfl, f138, f139, h136⟩ := h136
       obtain ⟨k141, k142, h136⟩ := h136
       refine lv_iconst (v := 0) hx hb dX7_number_18 (of_decide_eq_true rfl) ?_
       refine lv_istore_n (lv' := [(2, .int 0), (0, .ref (ad 9)), (1, .int 3)]) hx hb dX7_number_19 rfl hl (of_decide_eq_true rfl) rfl (fun ls hl => ?_)
       refine lv_iconst (v := 0) hx hb dX7_number_20 (of_decide_eq_true rfl) ?_
       refine lv_istore_n (lv' := [(3, .int 0), (2, .int 0), (0, .ref (ad 9)), (1, .int 3)]) hx hb dX7_number_21 rfl hl (of_decide_eq_true rfl) rfl (fun ls hl => ?_)
       refine lv_iload_n hx hb dX7_number_22 rfl (lv_at hl 0 rfl) ?_
       refine lv_iload_n hx hb dX7_number_23 rfl (lv_at hl 3 rfl) ?_
       refine lv_icmp_ge (tgt := 68) hx hb dX7_number_24 (of_decide_eq_true rfl) (fun c => absurd c (of_decide_eq_true rfl)) (fun _ => ?_)
       refine lv_aload_n hx hb dX7_number_27 rfl (lv_at hl 2 rfl) ?_
       have I143 : jI9 σ136 := jI9_fr (f139 0 (of_decide_eq_true rfl)) (f138 10 (of_decide_eq_true rfl)) (f138 11 (of_decide_eq_true rfl)) hI9
       have z144 : (σ136 9 1).toInt = (σ 9 1).toInt := (congrArg Int32.toInt (show σ136 9 1 = (σ 9 1) from (f139 1 (of_decide_eq_true rfl))))
       have z145 : (σ136 9 0).toInt = (σ 9 0).toInt := (congrArg Int32.toInt (show σ136 9 0 = (σ 9 0) from (f139 0 (of_decide_eq_true rfl))))
       refine jcallV (As := []) (rest := []) ⟨hx, hb, hml, hown, hts⟩ hK hP hA hS hZ (c_X7_sign_9 l D cI cL ad zz hJ σ136 τ I143) cw_RX7_35 (jc_9 cI cL ad σ136 τ) rfl ⟨Nat.le_of_ble_eq_true rfl, Nat.le_of_ble_eq_true rfl⟩ rfl rfl rfl hl.1 rfl (Nat.le_of_ble_eq_true rfl) dX7_number_28 ⟨Nat.zero_le _, Nat.zero_le _⟩ (fun r147 σ146 τ146 H locs h146 hP hS => ?_)
       obtain ⟨⟨rfl, rfl⟩, h146⟩ := h146
       rcases h146 with h148 | h149
       · obtain ⟨q152, k150, k151⟩ := h148
         exact by
          have q153 : r147 = (σ 10 (σ 9 1).toNatClampNeg) := q152.trans (by rw [(show σ136 9 1 = (σ 9 1) from (f139 1 (of_decide_eq_true rfl))), f138 10 (of_decide_eq_true rfl)])
          have q153e : (σ136 10 (σ136 9 1).toNatClampNeg).toInt = (σ 10 (σ 9 1).toNatClampNeg).toInt := by rw [← q152, ← q153]
          have q153 := q153.symm
          subst q153
          refine jcallS (As := [.int (σ 10 (σ 9 1).toNatClampNeg)]) (rest := []) ⟨hx, hb, hml, hown, hts⟩ hK hP hA hS hZ (c_X7_isDigit l D cI cL ad zz hJ σ136 τ (σ 10 (σ 9 1).toNatClampNeg) ((σ 10 (σ 9 1).toNatClampNeg).toInt) rfl) cw_RX7_39 ⟨Nat.le_of_ble_eq_true rfl, Nat.le_of_ble_eq_true rfl⟩ rfl rfl rfl hl.1 rfl (Nat.le_of_ble_eq_true rfl) dX7_number_31 ⟨Nat.zero_le _, Nat.zero_le _⟩ (fun r155 σ154 τ154 H locs h154 hP hS => ?_)
          obtain ⟨⟨rfl, rfl⟩, h154⟩ := h154
          rcases h154 with h156 | h157
          · obtain ⟨q159, k158⟩ := h156
            exact absurd (by omega : False) id
          · obtain ⟨q161, k160⟩ := h157
            have q161 := q161.symm
            subst q161
            refine lv_if_eq (tgt := 68) hx hb dX7_number_34 (of_decide_eq_true rfl) (fun _ => ?_) (fun c => absurd (of_decide_eq_true rfl) c)
            refine lv_iload_n hx hb dX7_number_68 rfl (lv_at hl 1 rfl) ?_
            have I162 : jI91 σ136 := jI91_fr (f139 0 (of_decide_eq_true rfl)) (f139 1 (of_decide_eq_true rfl)) hI91
            have I163 : jI92 σ136 := (show (-1) ≤ (σ136 9 2).toInt by omega)
            exact by exact hret 0 σ136 τ _ _ _ _ rfl ⟨rfl, (fun i hi => (f138 i hi)), (fun i hi => (f139 i (imp_43 i hi))), I143, I162, I163, ⟨trivial, (by have h9 := jz_0; omega), ⟨0, (by have i0 := jix (f := σ 10) (show (σ 9 1).toInt = (σ 9 1).toInt by omega); have h9 := jz_0; exact Or.inl ⟨by omega, by omega, (fun d => by unfold jDg at d; omega)⟩), (by omega), (by omega)⟩⟩⟩ hP hS dX7_number_69
       · obtain ⟨q165, k164⟩ := h149
         have q165 := q165.symm
         subst q165
         refine jcallS (As := [.int (-1)]) (rest := []) ⟨hx, hb, hml, hown, hts⟩ hK hP hA hS hZ (c_X7_isDigit l D cI cL ad zz hJ σ136 τ (-1) ((-1)) jz_m1) cw_RX7_39 ⟨Nat.le_of_ble_eq_true rfl, Nat.le_of_ble_eq_true rfl⟩ rfl rfl rfl hl.1 rfl (Nat.le_of_ble_eq_true rfl) dX7_number_31 ⟨Nat.zero_le _, Nat.zero_le _⟩ (fun r167 σ166 τ166 H locs h166 hP hS => ?_)
         obtain ⟨⟨rfl, rfl⟩, h166⟩ := h166
         rcases h166 with h168 | h169
         · obtain ⟨q171, k170⟩ := h168
           exact absurd (by omega : False) id
         · obtain ⟨q173, k172⟩ := h169
           have q173 := q173.symm
           subst q173
           refine lv_if_eq (tgt := 68) hx hb dX7_number_34 (of_decide_eq_true rfl) (fun _ => ?_) (fun c => absurd (of_decide_eq_true rfl) c)
           refine lv_iload_n hx hb dX7_number_68 rfl (lv_at hl 1 rfl) ?_
           have I174 : jI91 σ136 := jI91_fr (f139 0 (of_decide_eq_true rfl)) (f139 1 (of_decide_eq_true rfl)) hI91
           have I175 : jI92 σ136 := (show (-1) ≤ (σ136 9 2).toInt by omega)
           exact by exact hret 0 σ136 τ _ _ _ _ rfl ⟨rfl, (fun i hi => (f138 i hi)), (fun i hi => (f139 i (imp_43 i hi))), I143, I174, I175, ⟨trivial, (by have h9 := jz_0; omega), ⟨0, (by have i0 := jix (f := σ 10) (show (σ 9 1).toInt = (σ 9 1).toInt by omega); have h9 := jz_0; exact Or.inl ⟨by omega, by omega, (fun d => by unfold jDg at d; omega)⟩), (by omega), (by omega)⟩⟩⟩ hP hS dX7_number_69
  · obtain ⟨q177, k176⟩ := h10
    have q177 := q177.symm
    subst q177
    refine jcallS (As := [.int (-1)]) (rest := []) ⟨hx, hb, hml, hown, hts⟩ hK hP hA hS hZ (c_X7_isDigit l D cI cL ad zz hJ σ τ (-1) ((-1)) jz_m1) cw_RX7_39 ⟨Nat.le_of_ble_eq_true rfl, Nat.le_of_ble_eq_true rfl⟩ rfl rfl rfl hl.1 rfl (Nat.le_of_ble_eq_true rfl) dX7_number_4 ⟨Nat.zero_le _, Nat.zero_le _⟩ (fun r179 σ178 τ178 H locs h178 hP hS => ?_)
    obtain ⟨⟨rfl, rfl⟩, h178⟩ := h178
    rcases h178 with h180 | h181
    · obtain ⟨q183, k182⟩ := h180
      exact absurd (by omega : False) id
    · obtain ⟨q185, k184⟩ := h181
      have q185 := q185.symm
      subst q185
      refine lv_if_ne (tgt := 18) hx hb dX7_number_7 (of_decide_eq_true rfl) (fun c => absurd (of_decide_eq_true rfl) c) (fun _ => ?_)
      refine lv_aload_n hx hb dX7_number_10 rfl (lv_at hl 0 rfl) ?_
      refine lv_aload_n hx hb dX7_number_11 rfl (lv_at hl 0 rfl) ?_
      refine va_get (D := D) hx hb hts inlX7 hown hK hP 9 (jc_9 cI cL ad σ τ) rfl 1 (of_decide_eq_true rfl) (hts _ kw_13_17) (fun _ h9 => h9) rfl dX7_number_12 ?_
      exact by
       refine jcallVv (As := [.int (σ 9 1)]) (rest := []) ⟨hx, hb, hml, hown, hts⟩ hK hP hA hS hZ (c_X7_fail_9 l D cI cL ad zz hJ σ τ (σ 9 1) ((σ 9 1).toInt) rfl hI92 (by omega)) cw_RX7_43 (jc_9 cI cL ad σ τ) rfl ⟨Nat.le_of_ble_eq_true rfl, Nat.le_of_ble_eq_true rfl⟩ rfl rfl rfl hl.1 rfl (Nat.le_of_ble_eq_true rfl) dX7_number_15 ⟨Nat.zero_le _, Nat.zero_le _⟩ (fun σ186 τ186 H locs h186 hP hS => ?_)
       obtain ⟨rfl, f188, f189, h186⟩ := h186
       obtain ⟨k191, k192, h186⟩ := h186
       refine lv_iconst (v := 0) hx hb dX7_number_18 (of_decide_eq_true rfl) ?_
       refine lv_istore_n (lv' := [(2, .int 0), (0, .ref (ad 9)), (1, .int 3)]) hx hb dX7_number_19 rfl hl (of_decide_eq_true rfl) rfl (fun ls hl => ?_)
       refine lv_iconst (v := 0) hx hb dX7_number_20 (of_decide_eq_true rfl) ?_
       refine lv_istore_n (lv' := [(3, .int 0), (2, .int 0), (0, .ref (ad 9)), (1, .int 3)]) hx hb dX7_number_21 rfl hl (of_decide_eq_true rfl) rfl (fun ls hl => ?_)
       refine lv_iload_n hx hb dX7_number_22 rfl (lv_at hl 0 rfl) ?_
       refine lv_iload_n hx hb dX7_number_23 rfl (lv_at hl 3 rfl) ?_
       refine lv_icmp_ge (tgt := 68) hx hb dX7_number_24 (of_decide_eq_true rfl) (fun c => absurd c (of_decide_eq_true rfl)) (fun _ => ?_)
       refine lv_aload_n hx hb dX7_number_27 rfl (lv_at hl 2 rfl) ?_
       have I193 : jI9 σ186 := jI9_fr (f189 0 (of_decide_eq_true rfl)) (f188 10 (of_decide_eq_true rfl)) (f188 11 (of_decide_eq_true rfl)) hI9
       have z194 : (σ186 9 1).toInt = (σ 9 1).toInt := (congrArg Int32.toInt (show σ186 9 1 = (σ 9 1) from (f189 1 (of_decide_eq_true rfl))))
       have z195 : (σ186 9 0).toInt = (σ 9 0).toInt := (congrArg Int32.toInt (show σ186 9 0 = (σ 9 0) from (f189 0 (of_decide_eq_true rfl))))
       refine jcallV (As := []) (rest := []) ⟨hx, hb, hml, hown, hts⟩ hK hP hA hS hZ (c_X7_sign_9 l D cI cL ad zz hJ σ186 τ I193) cw_RX7_35 (jc_9 cI cL ad σ186 τ) rfl ⟨Nat.le_of_ble_eq_true rfl, Nat.le_of_ble_eq_true rfl⟩ rfl rfl rfl hl.1 rfl (Nat.le_of_ble_eq_true rfl) dX7_number_28 ⟨Nat.zero_le _, Nat.zero_le _⟩ (fun r197 σ196 τ196 H locs h196 hP hS => ?_)
       obtain ⟨⟨rfl, rfl⟩, h196⟩ := h196
       rcases h196 with h198 | h199
       · obtain ⟨q202, k200, k201⟩ := h198
         exact by
          have q203 : r197 = (σ 10 (σ 9 1).toNatClampNeg) := q202.trans (by rw [(show σ186 9 1 = (σ 9 1) from (f189 1 (of_decide_eq_true rfl))), f188 10 (of_decide_eq_true rfl)])
          have q203e : (σ186 10 (σ186 9 1).toNatClampNeg).toInt = (σ 10 (σ 9 1).toNatClampNeg).toInt := by rw [← q202, ← q203]
          have q203 := q203.symm
          subst q203
          refine jcallS (As := [.int (σ 10 (σ 9 1).toNatClampNeg)]) (rest := []) ⟨hx, hb, hml, hown, hts⟩ hK hP hA hS hZ (c_X7_isDigit l D cI cL ad zz hJ σ186 τ (σ 10 (σ 9 1).toNatClampNeg) ((σ 10 (σ 9 1).toNatClampNeg).toInt) rfl) cw_RX7_39 ⟨Nat.le_of_ble_eq_true rfl, Nat.le_of_ble_eq_true rfl⟩ rfl rfl rfl hl.1 rfl (Nat.le_of_ble_eq_true rfl) dX7_number_31 ⟨Nat.zero_le _, Nat.zero_le _⟩ (fun r205 σ204 τ204 H locs h204 hP hS => ?_)
          obtain ⟨⟨rfl, rfl⟩, h204⟩ := h204
          rcases h204 with h206 | h207
          · obtain ⟨q209, k208⟩ := h206
            have q209 := q209.symm
            subst q209
            refine lv_if_eq (tgt := 68) hx hb dX7_number_34 (of_decide_eq_true rfl) (fun c => absurd c (of_decide_eq_true rfl)) (fun _ => ?_)
            refine lv_iload_n hx hb dX7_number_37 rfl (lv_at hl 1 rfl) ?_
            refine lv_bipush (v := 10) hx hb dX7_number_38 (of_decide_eq_true rfl) ?_
            refine lv_imul hx hb dX7_number_40 ?_
            refine jtopr (y := 0) (of_decide_eq_true rfl) ?_
            refine lv_aload_n hx hb dX7_number_41 rfl (lv_at hl 2 rfl) ?_
            refine va_get (D := D) hx hb hts inlX7 hown hK hP 9 (jc_9 cI cL ad σ186 τ) rfl 3 (of_decide_eq_true rfl) (hts _ kw_3_20) (fun _ h9 => h9) rfl dX7_number_42 ?_
            refine lv_aload_n hx hb dX7_number_45 rfl (lv_at hl 2 rfl) ?_
            refine lv_dup hx hb dX7_number_46 rfl ?_
            refine va_get (D := D) hx hb hts inlX7 hown hK hP 9 (jc_9 cI cL ad σ186 τ) rfl 1 (of_decide_eq_true rfl) (hts _ kw_13_17) (fun _ h9 => h9) rfl dX7_number_47 ?_
            have m210 : σ186 9 1 = (σ 9 1) := (f189 1 (of_decide_eq_true rfl))
            refine jtopr m210 ?_
            refine lv_dup_x1 hx hb dX7_number_50 rfl rfl ?_
            refine lv_iconst (v := 1) hx hb dX7_number_51 (of_decide_eq_true rfl) ?_
            have g211 := jrg (rfl : (σ 9 1).toInt = (σ 9 1).toInt)
            refine lv_iadd hx hb dX7_number_52 ?_
            refine lv_topi (fun x212 ex212 => ?_)
            exact by
             have tx212 : x212.toInt = (σ 9 1).toInt + 1 := (jadd ex212 rfl jz_1 (by omega) (by omega)).trans (by omega)
             refine jput (ty := .int) hx hb hts inlX7 tyX7 tyX7_ok nmX7 hown hK hP hJ hA hS (jc_9 cI cL ad σ186 τ) rfl (k := 1) (of_decide_eq_true rfl) (Nat.le_of_ble_eq_true rfl) (jp_9_1 cI cL ad σ186 τ x212) (hts _ kw_13_17) (fun _ h9 => h9) rfl (by decide +kernel) rfl rfl dX7_number_53 (fun σ213 H locs eσ213 hP hS => ?_)
             refine jald hx hb hK hP (jc_10 cI cL ad σ213 τ) (jin rfl (by omega) (by omega)) dX7_number_56 ?_
             refine jtopr (y := (σ 10 (σ 9 1).toNatClampNeg)) (by rw [jnp 10 eσ213 (of_decide_eq_true rfl), f188 10 (of_decide_eq_true rfl)]) ?_
             refine lv_iadd hx hb dX7_number_57 ?_
             refine jtopr (y := (σ 10 (σ 9 1).toNatClampNeg)) (by rw [Int32.zero_add]) ?_
             refine lv_bipush (v := 48) hx hb dX7_number_58 (of_decide_eq_true rfl) ?_
             have g214 := jrg (rfl : (σ 10 (σ 9 1).toNatClampNeg).toInt = (σ 10 (σ 9 1).toNatClampNeg).toInt)
             refine lv_isub hx hb dX7_number_60 ?_
             exact by
              refine lv_topi (fun x215 ex215 => ?_)
              have tx215 : x215.toInt = (σ 10 (σ 9 1).toNatClampNeg).toInt - 48 := (jsub ex215 rfl jz_48 (by omega) (by omega)).trans (by omega)
              refine lv_istore_n (lv' := [(2, .int x215), (3, .int 0), (0, .ref (ad 9)), (1, .int 3)]) hx hb dX7_number_61 rfl hl (of_decide_eq_true rfl) rfl (fun ls hl => ?_)
              refine lv_iinc (v := 1) (lv' := [(3, .int 1), (2, .int x215), (0, .ref (ad 9)), (1, .int 3)]) hx hb dX7_number_62 hl (k := 1) rfl (of_decide_eq_true rfl) (of_decide_eq_true rfl) rfl (fun ls hl => ?_)
              refine lv_goto (tgt := 22) hx hb dX7_number_65 (of_decide_eq_true rfl) ?_
              refine lv_iload_n hx hb dX7_number_22 rfl (lv_at hl 0 rfl) ?_
              refine lv_iload_n hx hb dX7_number_23 rfl (lv_at hl 3 rfl) ?_
              refine lv_icmp_ge (tgt := 68) hx hb dX7_number_24 (of_decide_eq_true rfl) (fun c => absurd c (of_decide_eq_true rfl)) (fun _ => ?_)
              refine lv_aload_n hx hb dX7_number_27 rfl (lv_at hl 2 rfl) ?_
              exact by
               have I216 : jI9 σ213 := jI9_fr (jkp 0 eσ213 (of_decide_eq_true rfl)) (jnp 10 eσ213 (of_decide_eq_true rfl)) (jnp 11 eσ213 (of_decide_eq_true rfl)) I193
               have z217 : (σ213 9 1).toInt = (σ 9 1).toInt + 1 := ((congrArg Int32.toInt (show σ213 9 1 = x212 from (jsp eσ213))).trans tx212)
               have z218 : (σ213 9 0).toInt = (σ 9 0).toInt := (congrArg Int32.toInt (show σ213 9 0 = (σ 9 0) from ((jkp 0 eσ213 (of_decide_eq_true rfl)).trans (f189 0 (of_decide_eq_true rfl)))))
               refine jcallV (As := []) (rest := []) ⟨hx, hb, hml, hown, hts⟩ hK hP hA hS hZ (c_X7_sign_9 l D cI cL ad zz hJ σ213 τ I216) cw_RX7_35 (jc_9 cI cL ad σ213 τ) rfl ⟨Nat.le_of_ble_eq_true rfl, Nat.le_of_ble_eq_true rfl⟩ rfl rfl rfl hl.1 rfl (Nat.le_of_ble_eq_true rfl) dX7_number_28 ⟨Nat.zero_le _, Nat.zero_le _⟩ (fun r220 σ219 τ219 H locs h219 hP hS => ?_)
               obtain ⟨⟨rfl, rfl⟩, h219⟩ := h219
               rcases h219 with h221 | h222
               · obtain ⟨q225, k223, k224⟩ := h221
                 exact absurd (by omega : False) id
               · obtain ⟨q227, k226⟩ := h222
                 have q227 := q227.symm
                 subst q227
                 refine jcallS (As := [.int (-1)]) (rest := []) ⟨hx, hb, hml, hown, hts⟩ hK hP hA hS hZ (c_X7_isDigit l D cI cL ad zz hJ σ213 τ (-1) ((-1)) jz_m1) cw_RX7_39 ⟨Nat.le_of_ble_eq_true rfl, Nat.le_of_ble_eq_true rfl⟩ rfl rfl rfl hl.1 rfl (Nat.le_of_ble_eq_true rfl) dX7_number_31 ⟨Nat.zero_le _, Nat.zero_le _⟩ (fun r229 σ228 τ228 H locs h228 hP hS => ?_)
                 obtain ⟨⟨rfl, rfl⟩, h228⟩ := h228
                 rcases h228 with h230 | h231
                 · obtain ⟨q233, k232⟩ := h230
                   exact absurd (by omega : False) id
                 · obtain ⟨q235, k234⟩ := h231
                   have q235 := q235.symm
                   subst q235
                   refine lv_if_eq (tgt := 68) hx hb dX7_number_34 (of_decide_eq_true rfl) (fun _ => ?_) (fun c => absurd (of_decide_eq_true rfl) c)
                   refine lv_iload_n hx hb dX7_number_68 rfl (lv_at hl 1 rfl) ?_
                   exact by
                    have I236 : jI91 σ213 := ⟨(by omega), (by omega)⟩
                    have z237 : (σ213 9 2).toInt = (σ186 9 2).toInt := (congrArg Int32.toInt (show σ213 9 2 = (σ186 9 2) from (jkp 2 eσ213 (of_decide_eq_true rfl))))
                    have I238 : jI92 σ213 := (show (-1) ≤ (σ213 9 2).toInt by omega)
                    exact by exact hret x215 σ213 τ _ _ _ _ rfl ⟨rfl, (fun i hi => ((jnp i eσ213 (imp_37 i hi)).trans (f188 i hi))), (fun i hi => ((jkp i eσ213 (imp_39 i hi)).trans (f189 i (imp_43 i hi)))), I216, I236, I238, ⟨trivial, (by have h9 := tx215; omega), ⟨1, (by have i0 := jix (f := σ 10) (show (σ 9 1).toInt = (σ 9 1).toInt by omega); have h9 := tx215; exact Or.inr (Or.inl ⟨by omega, ⟨by omega, by omega, by omega⟩, (fun d => by unfold jDg at d; omega), by omega⟩)), (by omega), (by omega)⟩⟩⟩ hP hS dX7_number_69
          · obtain ⟨q240, k239⟩ := h207
            have q240 := q240.symm
            subst q240
            refine lv_if_eq (tgt := 68) hx hb dX7_number_34 (of_decide_eq_true rfl) (fun _ => ?_) (fun c => absurd (of_decide_eq_true rfl) c)
            refine lv_iload_n hx hb dX7_number_68 rfl (lv_at hl 1 rfl) ?_
            have I241 : jI91 σ186 := jI91_fr (f189 0 (of_decide_eq_true rfl)) (f189 1 (of_decide_eq_true rfl)) hI91
            have I242 : jI92 σ186 := (show (-1) ≤ (σ186 9 2).toInt by omega)
            exact by exact hret 0 σ186 τ _ _ _ _ rfl ⟨rfl, (fun i hi => (f188 i hi)), (fun i hi => (f189 i (imp_43 i hi))), I193, I241, I242, ⟨trivial, (by have h9 := jz_0; omega), ⟨0, (by have i0 := jix (f := σ 10) (show (σ 9 1).toInt = (σ 9 1).toInt by omega); have h9 := jz_0; exact Or.inl ⟨by omega, by omega, (fun d => by unfold jDg at d; omega)⟩), (by omega), (by omega)⟩⟩⟩ hP hS dX7_number_69
       · obtain ⟨q244, k243⟩ := h199
         have q244 := q244.symm
         subst q244
         refine jcallS (As := [.int (-1)]) (rest := []) ⟨hx, hb, hml, hown, hts⟩ hK hP hA hS hZ (c_X7_isDigit l D cI cL ad zz hJ σ186 τ (-1) ((-1)) jz_m1) cw_RX7_39 ⟨Nat.le_of_ble_eq_true rfl, Nat.le_of_ble_eq_true rfl⟩ rfl rfl rfl hl.1 rfl (Nat.le_of_ble_eq_true rfl) dX7_number_31 ⟨Nat.zero_le _, Nat.zero_le _⟩ (fun r246 σ245 τ245 H locs h245 hP hS => ?_)
         obtain ⟨⟨rfl, rfl⟩, h245⟩ := h245
         rcases h245 with h247 | h248
         · obtain ⟨q250, k249⟩ := h247
           exact absurd (by omega : False) id
         · obtain ⟨q252, k251⟩ := h248
           have q252 := q252.symm
           subst q252
           refine lv_if_eq (tgt := 68) hx hb dX7_number_34 (of_decide_eq_true rfl) (fun _ => ?_) (fun c => absurd (of_decide_eq_true rfl) c)
           refine lv_iload_n hx hb dX7_number_68 rfl (lv_at hl 1 rfl) ?_
           have I253 : jI91 σ186 := jI91_fr (f189 0 (of_decide_eq_true rfl)) (f189 1 (of_decide_eq_true rfl)) hI91
           have I254 : jI92 σ186 := (show (-1) ≤ (σ186 9 2).toInt by omega)
           exact by exact hret 0 σ186 τ _ _ _ _ rfl ⟨rfl, (fun i hi => (f188 i hi)), (fun i hi => (f189 i (imp_43 i hi))), I193, I253, I254, ⟨trivial, (by have h9 := jz_0; omega), ⟨0, (by have h9 := jz_0; exact Or.inl ⟨by omega, by omega, (fun d => by unfold jDg at d; omega)⟩), (by omega), (by omega)⟩⟩⟩ hP hS dX7_number_69
set_option maxHeartbeats 4000000 in
set_option maxRecDepth 100000 in
theorem c_X7_levelOf (l : Launch) (D : va_G) (cI cL : ClassId) (ad zz : Nat → Nat) (hJ : jD ad) (σ : Nat → Nat → Int32) (τ : Nat → Nat → Int64) (a1 : Int32) (A1 : Int) (t1 : a1.toInt = A1) : jM l yX7_levelOf cX7_levelOf 1 (some .int) ({ frames := 0, cells := 0, slots := 0, locals := 0 }) D cI cL ad zz [.int a1] σ τ (fun r σ' τ' => (σ = σ' ∧ τ = τ') ∧ ((r = 0 ∧ (A1 = 124)) ∨ (r = 1 ∧ (A1 = 38)) ∨ (r = 2 ∧ (A1 = 60)) ∨ (r = 2 ∧ (A1 = 61)) ∨ (r = 2 ∧ (A1 = 62)) ∨ (r = 3 ∧ (A1 = 43)) ∨ (r = 3 ∧ (A1 = 45)) ∨ (r = 4 ∧ (A1 = 42)) ∨ (r = 4 ∧ (A1 = 47)) ∨ (r = 4 ∧ (A1 = 37)) ∨ (r = 5 ∧ True))) := by
  refine jM.of hJ (by decide +kernel) (nt := .int) rfl (Nat.le_of_ble_eq_true rfl) ?_
  intro p e s m args below meth c Q ls hC hret hl hP
  obtain ⟨hx, hb, hr, hml, hown, hts, hK, -, hlocks, hZ⟩ := hC
  have hown : s.vm.findClass RX7 = some m.cls := hown
  have hS : va_S (jA ad) s.heap s.heap [] := va_S.rf
  have hA : ∀ q, jA ad q → jA ad q := fun _ h => h
  have hl : lv_has ls 1 [(0, .int a1)] := hl
  have g1 := jrg t1
  refine lv_iload_n hx hb dX7_levelOf_0 rfl (lv_at hl 0 rfl) ?_
  by_cases c1 : a1 = 37
  · have kc1 := jeq c1 t1 jz_37
    refine jtopr c1 ?_
    refine lv_lookup (off := 99) (tgt := 100) hx hb dX7_levelOf_1 (of_decide_eq_true rfl) (of_decide_eq_true rfl) (of_decide_eq_true rfl) ?_
    refine lv_iconst (v := 4) hx hb dX7_levelOf_100 (of_decide_eq_true rfl) ?_
    exact hret 4 σ τ _ _ _ _ rfl ⟨⟨rfl, rfl⟩, Or.inr (Or.inr (Or.inr (Or.inr (Or.inr (Or.inr (Or.inr (Or.inr (Or.inr (Or.inl ⟨rfl, (by have h9 := jz_4; omega)⟩)))))))))⟩ hP hS dX7_levelOf_101
  have kc1 := jne c1 t1 jz_37
  by_cases c2 : a1 = 38
  · have kc2 := jeq c2 t1 jz_38
    refine jtopr c2 ?_
    refine lv_lookup (off := 93) (tgt := 94) hx hb dX7_levelOf_1 (of_decide_eq_true rfl) (of_decide_eq_true rfl) (of_decide_eq_true rfl) ?_
    refine lv_iconst (v := 1) hx hb dX7_levelOf_94 (of_decide_eq_true rfl) ?_
    exact hret 1 σ τ _ _ _ _ rfl ⟨⟨rfl, rfl⟩, Or.inr (Or.inl ⟨rfl, (by have h9 := jz_1; omega)⟩)⟩ hP hS dX7_levelOf_95
  have kc2 := jne c2 t1 jz_38
  by_cases c3 : a1 = 42
  · have kc3 := jeq c3 t1 jz_42
    refine jtopr c3 ?_
    refine lv_lookup (off := 99) (tgt := 100) hx hb dX7_levelOf_1 (of_decide_eq_true rfl) (of_decide_eq_true rfl) (of_decide_eq_true rfl) ?_
    refine lv_iconst (v := 4) hx hb dX7_levelOf_100 (of_decide_eq_true rfl) ?_
    exact hret 4 σ τ _ _ _ _ rfl ⟨⟨rfl, rfl⟩, Or.inr (Or.inr (Or.inr (Or.inr (Or.inr (Or.inr (Or.inr (Or.inl ⟨rfl, (by have h9 := jz_4; omega)⟩)))))))⟩ hP hS dX7_levelOf_101
  have kc3 := jne c3 t1 jz_42
  by_cases c4 : a1 = 43
  · have kc4 := jeq c4 t1 jz_43
    refine jtopr c4 ?_
    refine lv_lookup (off := 97) (tgt := 98) hx hb dX7_levelOf_1 (of_decide_eq_true rfl) (of_decide_eq_true rfl) (of_decide_eq_true rfl) ?_
    refine lv_iconst (v := 3) hx hb dX7_levelOf_98 (of_decide_eq_true rfl) ?_
    exact hret 3 σ τ _ _ _ _ rfl ⟨⟨rfl, rfl⟩, Or.inr (Or.inr (Or.inr (Or.inr (Or.inr (Or.inl ⟨rfl, (by have h9 := jz_3; omega)⟩)))))⟩ hP hS dX7_levelOf_99
  have kc4 := jne c4 t1 jz_43
  by_cases c5 : a1 = 45
  · have kc5 := jeq c5 t1 jz_45
    refine jtopr c5 ?_
    refine lv_lookup (off := 97) (tgt := 98) hx hb dX7_levelOf_1 (of_decide_eq_true rfl) (of_decide_eq_true rfl) (of_decide_eq_true rfl) ?_
    refine lv_iconst (v := 3) hx hb dX7_levelOf_98 (of_decide_eq_true rfl) ?_
    exact hret 3 σ τ _ _ _ _ rfl ⟨⟨rfl, rfl⟩, Or.inr (Or.inr (Or.inr (Or.inr (Or.inr (Or.inr (Or.inl ⟨rfl, (by have h9 := jz_3; omega)⟩))))))⟩ hP hS dX7_levelOf_99
  have kc5 := jne c5 t1 jz_45
  by_cases c6 : a1 = 47
  · have kc6 := jeq c6 t1 jz_47
    refine jtopr c6 ?_
    refine lv_lookup (off := 99) (tgt := 100) hx hb dX7_levelOf_1 (of_decide_eq_true rfl) (of_decide_eq_true rfl) (of_decide_eq_true rfl) ?_
    refine lv_iconst (v := 4) hx hb dX7_levelOf_100 (of_decide_eq_true rfl) ?_
    exact hret 4 σ τ _ _ _ _ rfl ⟨⟨rfl, rfl⟩, Or.inr (Or.inr (Or.inr (Or.inr (Or.inr (Or.inr (Or.inr (Or.inr (Or.inl ⟨rfl, (by have h9 := jz_4; omega)⟩))))))))⟩ hP hS dX7_levelOf_101
  have kc6 := jne c6 t1 jz_47
  by_cases c7 : a1 = 60
  · have kc7 := jeq c7 t1 jz_60
    refine jtopr c7 ?_
    refine lv_lookup (off := 95) (tgt := 96) hx hb dX7_levelOf_1 (of_decide_eq_true rfl) (of_decide_eq_true rfl) (of_decide_eq_true rfl) ?_
    refine lv_iconst (v := 2) hx hb dX7_levelOf_96 (of_decide_eq_true rfl) ?_
    exact hret 2 σ τ _ _ _ _ rfl ⟨⟨rfl, rfl⟩, Or.inr (Or.inr (Or.inl ⟨rfl, (by have h9 := jz_2; omega)⟩))⟩ hP hS dX7_levelOf_97
  have kc7 := jne c7 t1 jz_60
  by_cases c8 : a1 = 61
  · have kc8 := jeq c8 t1 jz_61
    refine jtopr c8 ?_
    refine lv_lookup (off := 95) (tgt := 96) hx hb dX7_levelOf_1 (of_decide_eq_true rfl) (of_decide_eq_true rfl) (of_decide_eq_true rfl) ?_
    refine lv_iconst (v := 2) hx hb dX7_levelOf_96 (of_decide_eq_true rfl) ?_
    exact hret 2 σ τ _ _ _ _ rfl ⟨⟨rfl, rfl⟩, Or.inr (Or.inr (Or.inr (Or.inl ⟨rfl, (by have h9 := jz_2; omega)⟩)))⟩ hP hS dX7_levelOf_97
  have kc8 := jne c8 t1 jz_61
  by_cases c9 : a1 = 62
  · have kc9 := jeq c9 t1 jz_62
    refine jtopr c9 ?_
    refine lv_lookup (off := 95) (tgt := 96) hx hb dX7_levelOf_1 (of_decide_eq_true rfl) (of_decide_eq_true rfl) (of_decide_eq_true rfl) ?_
    refine lv_iconst (v := 2) hx hb dX7_levelOf_96 (of_decide_eq_true rfl) ?_
    exact hret 2 σ τ _ _ _ _ rfl ⟨⟨rfl, rfl⟩, Or.inr (Or.inr (Or.inr (Or.inr (Or.inl ⟨rfl, (by have h9 := jz_2; omega)⟩))))⟩ hP hS dX7_levelOf_97
  have kc9 := jne c9 t1 jz_62
  by_cases c10 : a1 = 124
  · have kc10 := jeq c10 t1 jz_124
    refine jtopr c10 ?_
    refine lv_lookup (off := 91) (tgt := 92) hx hb dX7_levelOf_1 (of_decide_eq_true rfl) (of_decide_eq_true rfl) (of_decide_eq_true rfl) ?_
    refine lv_iconst (v := 0) hx hb dX7_levelOf_92 (of_decide_eq_true rfl) ?_
    exact hret 0 σ τ _ _ _ _ rfl ⟨⟨rfl, rfl⟩, Or.inl ⟨rfl, (by have h9 := jz_0; omega)⟩⟩ hP hS dX7_levelOf_93
  have kc10 := jne c10 t1 jz_124
  refine lv_lookup (off := 101) (tgt := 102) hx hb dX7_levelOf_1 (of_decide_eq_true rfl) (jlook (fun p hp => by have h9 := t1; simp only [List.mem_cons, List.not_mem_nil, or_false] at hp; rcases hp with hp | hp | hp | hp | hp | hp | hp | hp | hp | hp <;> subst hp <;> simp only [] <;> omega)) (of_decide_eq_true rfl) ?_
  refine lv_iconst (v := 5) hx hb dX7_levelOf_102 (of_decide_eq_true rfl) ?_
  exact hret 5 σ τ _ _ _ _ rfl ⟨⟨rfl, rfl⟩, Or.inr (Or.inr (Or.inr (Or.inr (Or.inr (Or.inr (Or.inr (Or.inr (Or.inr (Or.inr (⟨rfl, trivial⟩))))))))))⟩ hP hS dX7_levelOf_103
set_option maxHeartbeats 4000000 in
set_option maxRecDepth 100000 in
theorem c_X7_nameOf (l : Launch) (D : va_G) (cI cL : ClassId) (ad zz : Nat → Nat) (hJ : jD ad) (σ : Nat → Nat → Int32) (τ : Nat → Nat → Int64) (a1 : Int32) (A1 : Int) (t1 : a1.toInt = A1) : jM l yX7_nameOf cX7_nameOf 1 (some .int) ({ frames := 0, cells := 0, slots := 0, locals := 0 }) D cI cL ad zz [.int a1] σ τ (fun r σ' τ' => (σ = σ' ∧ τ = τ') ∧ ((True ∧ (0 ≤ r.toInt ∧ r.toInt ≤ 7) ∧ (0 ≤ A1)) ∨ (r = (-1) ∧ True))) := by
  refine jM.of hJ (by decide +kernel) (nt := .int) rfl (Nat.le_of_ble_eq_true rfl) ?_
  intro p e s m args below meth c Q ls hC hret hl hP
  obtain ⟨hx, hb, hr, hml, hown, hts, hK, -, hlocks, hZ⟩ := hC
  have hown : s.vm.findClass RX7 = some m.cls := hown
  have hS : va_S (jA ad) s.heap s.heap [] := va_S.rf
  have hA : ∀ q, jA ad q → jA ad q := fun _ h => h
  have hl : lv_has ls 1 [(0, .int a1)] := hl
  have g1 := jrg t1
  refine lv_iload_n hx hb dX7_nameOf_0 rfl (lv_at hl 0 rfl) ?_
  by_cases c1 : a1 = 98
  · have kc1 := jeq c1 t1 jz_98
    refine jtopr c1 ?_
    refine lv_tableIn (off := 109) (tgt := 110) hx hb dX7_nameOf_1 (of_decide_eq_true rfl) (of_decide_eq_true rfl) (of_decide_eq_true rfl) (of_decide_eq_true rfl) ?_
    refine lv_iconst (v := 3) hx hb dX7_nameOf_110 (of_decide_eq_true rfl) ?_
    exact by exact hret 3 σ τ _ _ _ _ rfl ⟨⟨rfl, rfl⟩, Or.inl ⟨trivial, (by have h9 := jz_3; omega), (by have h9 := jz_3; omega)⟩⟩ hP hS dX7_nameOf_111
  have kc1 := jne c1 t1 jz_98
  by_cases c2 : a1 = 99
  · have kc2 := jeq c2 t1 jz_99
    refine jtopr c2 ?_
    refine lv_tableIn (off := 121) (tgt := 122) hx hb dX7_nameOf_1 (of_decide_eq_true rfl) (of_decide_eq_true rfl) (of_decide_eq_true rfl) (of_decide_eq_true rfl) ?_
    refine lv_iconst (v := (-1)) hx hb dX7_nameOf_122 (of_decide_eq_true rfl) ?_
    exact hret (-1) σ τ _ _ _ _ rfl ⟨⟨rfl, rfl⟩, Or.inr (⟨rfl, trivial⟩)⟩ hP hS dX7_nameOf_123
  have kc2 := jne c2 t1 jz_99
  by_cases c3 : a1 = 100
  · have kc3 := jeq c3 t1 jz_100
    refine jtopr c3 ?_
    refine lv_tableIn (off := 121) (tgt := 122) hx hb dX7_nameOf_1 (of_decide_eq_true rfl) (of_decide_eq_true rfl) (of_decide_eq_true rfl) (of_decide_eq_true rfl) ?_
    refine lv_iconst (v := (-1)) hx hb dX7_nameOf_122 (of_decide_eq_true rfl) ?_
    exact hret (-1) σ τ _ _ _ _ rfl ⟨⟨rfl, rfl⟩, Or.inr (⟨rfl, trivial⟩)⟩ hP hS dX7_nameOf_123
  have kc3 := jne c3 t1 jz_100
  by_cases c4 : a1 = 101
  · have kc4 := jeq c4 t1 jz_101
    refine jtopr c4 ?_
    refine lv_tableIn (off := 121) (tgt := 122) hx hb dX7_nameOf_1 (of_decide_eq_true rfl) (of_decide_eq_true rfl) (of_decide_eq_true rfl) (of_decide_eq_true rfl) ?_
    refine lv_iconst (v := (-1)) hx hb dX7_nameOf_122 (of_decide_eq_true rfl) ?_
    exact hret (-1) σ τ _ _ _ _ rfl ⟨⟨rfl, rfl⟩, Or.inr (⟨rfl, trivial⟩)⟩ hP hS dX7_nameOf_123
  have kc4 := jne c4 t1 jz_101
  by_cases c5 : a1 = 102
  · have kc5 := jeq c5 t1 jz_102
    refine jtopr c5 ?_
    refine lv_tableIn (off := 121) (tgt := 122) hx hb dX7_nameOf_1 (of_decide_eq_true rfl) (of_decide_eq_true rfl) (of_decide_eq_true rfl) (of_decide_eq_true rfl) ?_
    refine lv_iconst (v := (-1)) hx hb dX7_nameOf_122 (of_decide_eq_true rfl) ?_
    exact hret (-1) σ τ _ _ _ _ rfl ⟨⟨rfl, rfl⟩, Or.inr (⟨rfl, trivial⟩)⟩ hP hS dX7_nameOf_123
  have kc5 := jne c5 t1 jz_102
  by_cases c6 : a1 = 103
  · have kc6 := jeq c6 t1 jz_103
    refine jtopr c6 ?_
    refine lv_tableIn (off := 121) (tgt := 122) hx hb dX7_nameOf_1 (of_decide_eq_true rfl) (of_decide_eq_true rfl) (of_decide_eq_true rfl) (of_decide_eq_true rfl) ?_
    refine lv_iconst (v := (-1)) hx hb dX7_nameOf_122 (of_decide_eq_true rfl) ?_
    exact hret (-1) σ τ _ _ _ _ rfl ⟨⟨rfl, rfl⟩, Or.inr (⟨rfl, trivial⟩)⟩ hP hS dX7_nameOf_123
  have kc6 := jne c6 t1 jz_103
  by_cases c7 : a1 = 104
  · have kc7 := jeq c7 t1 jz_104
    refine jtopr c7 ?_
    refine lv_tableIn (off := 121) (tgt := 122) hx hb dX7_nameOf_1 (of_decide_eq_true rfl) (of_decide_eq_true rfl) (of_decide_eq_true rfl) (of_decide_eq_true rfl) ?_
    refine lv_iconst (v := (-1)) hx hb dX7_nameOf_122 (of_decide_eq_true rfl) ?_
    exact hret (-1) σ τ _ _ _ _ rfl ⟨⟨rfl, rfl⟩, Or.inr (⟨rfl, trivial⟩)⟩ hP hS dX7_nameOf_123
  have kc7 := jne c7 t1 jz_104
  by_cases c8 : a1 = 105
  · have kc8 := jeq c8 t1 jz_105
    refine jtopr c8 ?_
    refine lv_tableIn (off := 121) (tgt := 122) hx hb dX7_nameOf_1 (of_decide_eq_true rfl) (of_decide_eq_true rfl) (of_decide_eq_true rfl) (of_decide_eq_true rfl) ?_
    refine lv_iconst (v := (-1)) hx hb dX7_nameOf_122 (of_decide_eq_true rfl) ?_
    exact hret (-1) σ τ _ _ _ _ rfl ⟨⟨rfl, rfl⟩, Or.inr (⟨rfl, trivial⟩)⟩ hP hS dX7_nameOf_123
  have kc8 := jne c8 t1 jz_105
  by_cases c9 : a1 = 106
  · have kc9 := jeq c9 t1 jz_106
    refine jtopr c9 ?_
    refine lv_tableIn (off := 121) (tgt := 122) hx hb dX7_nameOf_1 (of_decide_eq_true rfl) (of_decide_eq_true rfl) (of_decide_eq_true rfl) (of_decide_eq_true rfl) ?_
    refine lv_iconst (v := (-1)) hx hb dX7_nameOf_122 (of_decide_eq_true rfl) ?_
    exact hret (-1) σ τ _ _ _ _ rfl ⟨⟨rfl, rfl⟩, Or.inr (⟨rfl, trivial⟩)⟩ hP hS dX7_nameOf_123
  have kc9 := jne c9 t1 jz_106
  by_cases c10 : a1 = 107
  · have kc10 := jeq c10 t1 jz_107
    refine jtopr c10 ?_
    refine lv_tableIn (off := 118) (tgt := 119) hx hb dX7_nameOf_1 (of_decide_eq_true rfl) (of_decide_eq_true rfl) (of_decide_eq_true rfl) (of_decide_eq_true rfl) ?_
    refine lv_bipush (v := 7) hx hb dX7_nameOf_119 (of_decide_eq_true rfl) ?_
    exact by exact hret 7 σ τ _ _ _ _ rfl ⟨⟨rfl, rfl⟩, Or.inl ⟨trivial, (by have h9 := jz_7; omega), (by have h9 := jz_7; omega)⟩⟩ hP hS dX7_nameOf_121
  have kc10 := jne c10 t1 jz_107
  by_cases c11 : a1 = 108
  · have kc11 := jeq c11 t1 jz_108
    refine jtopr c11 ?_
    refine lv_tableIn (off := 113) (tgt := 114) hx hb dX7_nameOf_1 (of_decide_eq_true rfl) (of_decide_eq_true rfl) (of_decide_eq_true rfl) (of_decide_eq_true rfl) ?_
    refine lv_iconst (v := 5) hx hb dX7_nameOf_114 (of_decide_eq_true rfl) ?_
    exact by exact hret 5 σ τ _ _ _ _ rfl ⟨⟨rfl, rfl⟩, Or.inl ⟨trivial, (by have h9 := jz_5; omega), (by have h9 := jz_5; omega)⟩⟩ hP hS dX7_nameOf_115
  have kc11 := jne c11 t1 jz_108
  by_cases c12 : a1 = 109
  · have kc12 := jeq c12 t1 jz_109
    refine jtopr c12 ?_
    refine lv_tableIn (off := 121) (tgt := 122) hx hb dX7_nameOf_1 (of_decide_eq_true rfl) (of_decide_eq_true rfl) (of_decide_eq_true rfl) (of_decide_eq_true rfl) ?_
    refine lv_iconst (v := (-1)) hx hb dX7_nameOf_122 (of_decide_eq_true rfl) ?_
    exact hret (-1) σ τ _ _ _ _ rfl ⟨⟨rfl, rfl⟩, Or.inr (⟨rfl, trivial⟩)⟩ hP hS dX7_nameOf_123
  have kc12 := jne c12 t1 jz_109
  by_cases c13 : a1 = 110
  · have kc13 := jeq c13 t1 jz_110
    refine jtopr c13 ?_
    refine lv_tableIn (off := 121) (tgt := 122) hx hb dX7_nameOf_1 (of_decide_eq_true rfl) (of_decide_eq_true rfl) (of_decide_eq_true rfl) (of_decide_eq_true rfl) ?_
    refine lv_iconst (v := (-1)) hx hb dX7_nameOf_122 (of_decide_eq_true rfl) ?_
    exact hret (-1) σ τ _ _ _ _ rfl ⟨⟨rfl, rfl⟩, Or.inr (⟨rfl, trivial⟩)⟩ hP hS dX7_nameOf_123
  have kc13 := jne c13 t1 jz_110
  by_cases c14 : a1 = 111
  · have kc14 := jeq c14 t1 jz_111
    refine jtopr c14 ?_
    refine lv_tableIn (off := 103) (tgt := 104) hx hb dX7_nameOf_1 (of_decide_eq_true rfl) (of_decide_eq_true rfl) (of_decide_eq_true rfl) (of_decide_eq_true rfl) ?_
    refine lv_iconst (v := 0) hx hb dX7_nameOf_104 (of_decide_eq_true rfl) ?_
    exact by exact hret 0 σ τ _ _ _ _ rfl ⟨⟨rfl, rfl⟩, Or.inl ⟨trivial, (by have h9 := jz_0; omega), (by have h9 := jz_0; omega)⟩⟩ hP hS dX7_nameOf_105
  have kc14 := jne c14 t1 jz_111
  by_cases c15 : a1 = 112
  · have kc15 := jeq c15 t1 jz_112
    refine jtopr c15 ?_
    refine lv_tableIn (off := 115) (tgt := 116) hx hb dX7_nameOf_1 (of_decide_eq_true rfl) (of_decide_eq_true rfl) (of_decide_eq_true rfl) (of_decide_eq_true rfl) ?_
    refine lv_bipush (v := 6) hx hb dX7_nameOf_116 (of_decide_eq_true rfl) ?_
    exact by exact hret 6 σ τ _ _ _ _ rfl ⟨⟨rfl, rfl⟩, Or.inl ⟨trivial, (by have h9 := jz_6; omega), (by have h9 := jz_6; omega)⟩⟩ hP hS dX7_nameOf_118
  have kc15 := jne c15 t1 jz_112
  by_cases c16 : a1 = 113
  · have kc16 := jeq c16 t1 jz_113
    refine jtopr c16 ?_
    refine lv_tableIn (off := 121) (tgt := 122) hx hb dX7_nameOf_1 (of_decide_eq_true rfl) (of_decide_eq_true rfl) (of_decide_eq_true rfl) (of_decide_eq_true rfl) ?_
    refine lv_iconst (v := (-1)) hx hb dX7_nameOf_122 (of_decide_eq_true rfl) ?_
    exact hret (-1) σ τ _ _ _ _ rfl ⟨⟨rfl, rfl⟩, Or.inr (⟨rfl, trivial⟩)⟩ hP hS dX7_nameOf_123
  have kc16 := jne c16 t1 jz_113
  by_cases c17 : a1 = 114
  · have kc17 := jeq c17 t1 jz_114
    refine jtopr c17 ?_
    refine lv_tableIn (off := 121) (tgt := 122) hx hb dX7_nameOf_1 (of_decide_eq_true rfl) (of_decide_eq_true rfl) (of_decide_eq_true rfl) (of_decide_eq_true rfl) ?_
    refine lv_iconst (v := (-1)) hx hb dX7_nameOf_122 (of_decide_eq_true rfl) ?_
    exact hret (-1) σ τ _ _ _ _ rfl ⟨⟨rfl, rfl⟩, Or.inr (⟨rfl, trivial⟩)⟩ hP hS dX7_nameOf_123
  have kc17 := jne c17 t1 jz_114
  by_cases c18 : a1 = 115
  · have kc18 := jeq c18 t1 jz_115
    refine jtopr c18 ?_
    refine lv_tableIn (off := 107) (tgt := 108) hx hb dX7_nameOf_1 (of_decide_eq_true rfl) (of_decide_eq_true rfl) (of_decide_eq_true rfl) (of_decide_eq_true rfl) ?_
    refine lv_iconst (v := 2) hx hb dX7_nameOf_108 (of_decide_eq_true rfl) ?_
    exact by exact hret 2 σ τ _ _ _ _ rfl ⟨⟨rfl, rfl⟩, Or.inl ⟨trivial, (by have h9 := jz_2; omega), (by have h9 := jz_2; omega)⟩⟩ hP hS dX7_nameOf_109
  have kc18 := jne c18 t1 jz_115
  by_cases c19 : a1 = 116
  · have kc19 := jeq c19 t1 jz_116
    refine jtopr c19 ?_
    refine lv_tableIn (off := 111) (tgt := 112) hx hb dX7_nameOf_1 (of_decide_eq_true rfl) (of_decide_eq_true rfl) (of_decide_eq_true rfl) (of_decide_eq_true rfl) ?_
    refine lv_iconst (v := 4) hx hb dX7_nameOf_112 (of_decide_eq_true rfl) ?_
    exact by exact hret 4 σ τ _ _ _ _ rfl ⟨⟨rfl, rfl⟩, Or.inl ⟨trivial, (by have h9 := jz_4; omega), (by have h9 := jz_4; omega)⟩⟩ hP hS dX7_nameOf_113
  have kc19 := jne c19 t1 jz_116
  by_cases c20 : a1 = 117
  · have kc20 := jeq c20 t1 jz_117
    refine jtopr c20 ?_
    refine lv_tableIn (off := 121) (tgt := 122) hx hb dX7_nameOf_1 (of_decide_eq_true rfl) (of_decide_eq_true rfl) (of_decide_eq_true rfl) (of_decide_eq_true rfl) ?_
    refine lv_iconst (v := (-1)) hx hb dX7_nameOf_122 (of_decide_eq_true rfl) ?_
    exact hret (-1) σ τ _ _ _ _ rfl ⟨⟨rfl, rfl⟩, Or.inr (⟨rfl, trivial⟩)⟩ hP hS dX7_nameOf_123
  have kc20 := jne c20 t1 jz_117
  by_cases c21 : a1 = 118
  · have kc21 := jeq c21 t1 jz_118
    refine jtopr c21 ?_
    refine lv_tableIn (off := 121) (tgt := 122) hx hb dX7_nameOf_1 (of_decide_eq_true rfl) (of_decide_eq_true rfl) (of_decide_eq_true rfl) (of_decide_eq_true rfl) ?_
    refine lv_iconst (v := (-1)) hx hb dX7_nameOf_122 (of_decide_eq_true rfl) ?_
    exact hret (-1) σ τ _ _ _ _ rfl ⟨⟨rfl, rfl⟩, Or.inr (⟨rfl, trivial⟩)⟩ hP hS dX7_nameOf_123
  have kc21 := jne c21 t1 jz_118
  by_cases c22 : a1 = 119
  · have kc22 := jeq c22 t1 jz_119
    refine jtopr c22 ?_
    refine lv_tableIn (off := 105) (tgt := 106) hx hb dX7_nameOf_1 (of_decide_eq_true rfl) (of_decide_eq_true rfl) (of_decide_eq_true rfl) (of_decide_eq_true rfl) ?_
    refine lv_iconst (v := 1) hx hb dX7_nameOf_106 (of_decide_eq_true rfl) ?_
    exact by exact hret 1 σ τ _ _ _ _ rfl ⟨⟨rfl, rfl⟩, Or.inl ⟨trivial, (by have h9 := jz_1; omega), (by have h9 := jz_1; omega)⟩⟩ hP hS dX7_nameOf_107
  have kc22 := jne c22 t1 jz_119
  exact by
   refine lv_tableOut (tgt := 122) hx hb dX7_nameOf_1 (by rw [t1]; omega) (of_decide_eq_true rfl) ?_
   refine lv_iconst (v := (-1)) hx hb dX7_nameOf_122 (of_decide_eq_true rfl) ?_
   exact hret (-1) σ τ _ _ _ _ rfl ⟨⟨rfl, rfl⟩, Or.inr (⟨rfl, trivial⟩)⟩ hP hS dX7_nameOf_123
set_option maxHeartbeats 4000000 in
set_option maxRecDepth 100000 in
theorem c_X7_readOrder_9 (l : Launch) (D : va_G) (cI cL : ClassId) (ad zz : Nat → Nat) (hJ : jD ad) (σ : Nat → Nat → Int32) (τ : Nat → Nat → Int64) (hI9 : jI9 σ) (hI16 : jI16 σ) : jM l yX7_readOrder cX7_readOrder 6 (some .int) ({ frames := 2, cells := 0, slots := 0, locals := 44 }) D cI cL ad zz [.ref (ad 9), .ref (ad 16)] σ τ (fun r σ' τ' => τ = τ' ∧ (∀ i : Nat, (i < 9 ∨ 9 < i) ∧ (i < 11 ∨ 11 < i) ∧ (i < 16 ∨ 17 < i) → σ' i = σ i) ∧ (∀ k : Nat, (k < 0 ∨ 0 < k) ∧ (k < 1 ∨ 1 < k) ∧ (k < 2 ∨ 2 < k) → σ' 9 k = σ 9 k) ∧ (∀ k : Nat, (k < 0 ∨ 0 < k) ∧ (k < 1 ∨ 1 < k) ∧ (k < 2 ∨ 2 < k) → σ' 16 k = σ 16 k) ∧ (jI9 σ') ∧ (jI16 σ') ∧ (jOrB (σ 10) (σ' 17) (σ 17) (σ 9 0).toInt (r.toInt) ((σ' 16 0).toInt) ((σ' 16 1).toInt) ((σ' 16 2).toInt) ((σ 16 0).toInt) ((σ 16 1).toInt) ((σ 16 2).toInt)) ∧ ((σ' 9 0).toInt = 0) ∧ ((True ∧ ((-1) ≤ r.toInt ∧ r.toInt ≤ 80)))) := by
  refine jM.of hJ (by decide +kernel) (nt := .int) rfl (Nat.le_of_ble_eq_true rfl) ?_
  intro p e s m args below meth c Q ls hC hret hl hP
  obtain ⟨hx, hb, hr, hml, hown, hts, hK, -, hlocks, hZ⟩ := hC
  have hown : s.vm.findClass RX7 = some m.cls := hown
  have hS : va_S (jA ad) s.heap s.heap [] := va_S.rf
  have hA : ∀ q, jA ad q → jA ad q := fun _ h => h
  have hl : lv_has ls 6 [(0, .ref (ad 9)), (1, .ref (ad 16))] := hl
  obtain ⟨i1, w2, w3⟩ : (0 ≤ (σ 9 0).toInt ∧ (σ 9 0).toInt ≤ 80) ∧ (∀ k : Nat, k < 80 → 0 ≤ (σ 10 k).toInt ∧ (σ 10 k).toInt ≤ 255) ∧ (∀ k : Nat, k < 8 → 0 ≤ (σ 11 k).toInt ∧ (σ 11 k).toInt ≤ 3) := id hI9
  obtain ⟨i4, i5, i6, w7⟩ : (1 ≤ (σ 16 0).toInt ∧ (σ 16 0).toInt ≤ 8) ∧ (1 ≤ (σ 16 1).toInt ∧ (σ 16 1).toInt ≤ 12) ∧ (0 ≤ (σ 16 2).toInt ∧ (σ 16 2).toInt ≤ 999) ∧ (∀ k : Nat, k < 8 → 0 ≤ (σ 17 k).toInt ∧ (σ 17 k).toInt ≤ 3) := id hI16
  refine lv_aload_n hx hb dX7_readOrder_0 rfl (lv_at hl 0 rfl) ?_
  refine jcallVv (As := []) (rest := []) ⟨hx, hb, hml, hown, hts⟩ hK hP hA hS hZ (c_X7_begin_9 l D cI cL ad zz hJ σ τ hI9) cw_RX7_47 (jc_9 cI cL ad σ τ) rfl ⟨Nat.le_of_ble_eq_true rfl, Nat.le_of_ble_eq_true rfl⟩ rfl rfl rfl hl.1 rfl (Nat.le_of_ble_eq_true rfl) dX7_readOrder_1 ⟨Nat.zero_le _, Nat.zero_le _⟩ (fun σ8 τ8 H locs h8 hP hS => ?_)
  obtain ⟨rfl, f10, f11, m12, m13, I14, I15, I16, h8⟩ := h8
  obtain ⟨i18, w19, w20⟩ : (0 ≤ (σ8 9 0).toInt ∧ (σ8 9 0).toInt ≤ 80) ∧ (∀ k : Nat, k < 80 → 0 ≤ (σ8 10 k).toInt ∧ (σ8 10 k).toInt ≤ 255) ∧ (∀ k : Nat, k < 8 → 0 ≤ (σ8 11 k).toInt ∧ (σ8 11 k).toInt ≤ 3) := id I14
  obtain ⟨i21, i22⟩ : (0 ≤ (σ8 9 1).toInt) ∧ ((σ8 9 1).toInt ≤ (σ8 9 0).toInt) := id I15
  have i23 : (-1) ≤ (σ8 9 2).toInt := I16
  have z24 : (σ8 9 0).toInt = (σ 9 0).toInt := (congrArg Int32.toInt (show σ8 9 0 = (σ 9 0) from (f11 0 (of_decide_eq_true rfl))))
  have z25 : (σ8 9 1).toInt = 0 := ((congrArg Int32.toInt (show σ8 9 1 = 0 from m12)).trans jz_0)
  have z26 : (σ8 9 2).toInt = (-1) := ((congrArg Int32.toInt (show σ8 9 2 = (-1) from m13)).trans jz_m1)
  have lp27 : ∀ (x29 : Int32) (x30 : Int32) (x31 : Int32) (σ32 : Nat → Nat → Int32) (H : Heap) (locs : List Loc) (ls : Array Slot), 0 ≤ x29.toInt → x29.toInt ≤ 8 → 8 ≤ x30.toInt → x30.toInt ≤ 8 → 0 ≤ x31.toInt → x31.toInt ≤ 0 → 0 ≤ (σ32 9 1).toInt → (σ32 9 1).toInt ≤ (σ32 9 0).toInt → (σ32 9 1).toInt = x29.toInt → (σ32 9 2).toInt = (-1) → (∀ i : Nat, (i < 9 ∨ 9 < i) ∧ (i < 11 ∨ 11 < i) → σ32 i = σ8 i) → (∀ k : Nat, (k < 1 ∨ 1 < k) → σ32 9 k = σ8 9 k) → jI9 σ32 → (jMm (σ 10) (σ 9 0).toInt (x29.toInt) ∧ jDv (σ 10) (σ32 11) (x29.toInt)) → jH D cI cL ad σ32 τ H → va_S (jA ad) s.heap H locs → lv_has ls 6 [(0, .ref (ad 9)), (1, .ref (ad 16)), (2, .int x29), (3, .int x30), (4, .int x31)] → W p l e ({ frames := 2, cells := 0, slots := 0, locals := 44 }) s m args below meth c H locs 0 0 Q (F0 m 67 ls []) := by
    intro x29 x30 x31 σ32 H locs ls h34 h35 h36 h37 h38 h39 h40 h41 h42 h43 f44 f45 p46 q47 hP hS hl
    obtain ⟨i48, w49, w50⟩ : (0 ≤ (σ32 9 0).toInt ∧ (σ32 9 0).toInt ≤ 80) ∧ (∀ k : Nat, k < 80 → 0 ≤ (σ32 10 k).toInt ∧ (σ32 10 k).toInt ≤ 255) ∧ (∀ k : Nat, k < 8 → 0 ≤ (σ32 11 k).toInt ∧ (σ32 11 k).toInt ≤ 3) := id p46
    have z51 : (σ32 9 0).toInt = (σ 9 0).toInt := (congrArg Int32.toInt (show σ32 9 0 = (σ 9 0) from ((f45 0 (of_decide_eq_true rfl)).trans (f11 0 (of_decide_eq_true rfl)))))
    have z52 : (σ32 9 2).toInt = (-1) := ((congrArg Int32.toInt (show σ32 9 2 = (-1) from ((f45 2 (of_decide_eq_true rfl)).trans m13))).trans jz_m1)
    have lp53 : ∀  (σ55 : Nat → Nat → Int32) (H : Heap) (locs : List Loc) (ls : Array Slot), 0 ≤ (σ55 9 1).toInt → (σ55 9 1).toInt ≤ (σ55 9 0).toInt → (σ55 9 1).toInt = x29.toInt → (((σ55 9 2).toInt = (-1) ∧ 1 ≤ x29.toInt) ∨ ((σ55 9 2).toInt = 0 ∧ x29.toInt = 0)) → (∀ i : Nat, (i < 9 ∨ 9 < i) → σ55 i = σ32 i) → (∀ k : Nat, (k < 2 ∨ 2 < k) → σ55 9 k = σ32 9 k) → jH D cI cL ad σ55 τ H → va_S (jA ad) s.heap H locs → lv_has ls 6 [(0, .ref (ad 9)), (1, .ref (ad 16)), (2, .int x29), (3, .int x30), (4, .int x31)] → W p l e ({ frames := 2, cells := 0, slots := 0, locals := 44 }) s m args below meth c H locs 0 0 Q (F0 m 79 ls []) := by
      intro  σ55 H locs ls h57 h58 h59 h60 f61 f62 hP hS hl
      have z63 : (σ55 9 1).toInt = (σ32 9 1).toInt := (congrArg Int32.toInt (show σ55 9 1 = (σ32 9 1) from (f62 1 (of_decide_eq_true rfl))))
      have z64 : (σ55 9 0).toInt = (σ 9 0).toInt := (congrArg Int32.toInt (show σ55 9 0 = (σ 9 0) from ((f62 0 (of_decide_eq_true rfl)).trans ((f45 0 (of_decide_eq_true rfl)).trans (f11 0 (of_decide_eq_true rfl))))))
      have lp65 : ∀ (x67 : Int32) (σ68 : Nat → Nat → Int32) (H : Heap) (locs : List Loc) (ls : Array Slot), 0 ≤ (σ68 9 1).toInt → (σ68 9 1).toInt ≤ (σ68 9 0).toInt → (-1) ≤ (σ68 9 2).toInt → (((σ68 9 2).toInt = (-1) ∧ 1 ≤ x29.toInt ∧ 1 ≤ x67.toInt ∧ x67.toInt ≤ 12) ∨ (0 ≤ (σ68 9 2).toInt ∧ (σ68 9 2).toInt ≤ 80)) → (∀ i : Nat, (i < 9 ∨ 9 < i) → σ68 i = σ55 i) → (∀ k : Nat, (k < 1 ∨ 1 < k) ∧ (k < 2 ∨ 2 < k) → σ68 9 k = σ55 9 k) → (jTm (σ 10) (σ 9 0).toInt (x29.toInt) ((σ68 9 1).toInt) (x67.toInt) ((σ68 9 2).toInt) ∧ ((σ68 9 2).toInt = -1 → 0 ≤ (σ68 9 1).toInt)) → jH D cI cL ad σ68 τ H → va_S (jA ad) s.heap H locs → lv_has ls 6 [(0, .ref (ad 9)), (1, .ref (ad 16)), (2, .int x29), (3, .int x67), (4, .int x31)] → W p l e ({ frames := 2, cells := 0, slots := 0, locals := 44 }) s m args below meth c H locs 0 0 Q (F0 m 117 ls []) := by
        intro x67 σ68 H locs ls h70 h71 h72 h73 f74 f75 q76 hP hS hl
        have gx67 := jrg (rfl : x67.toInt = x67.toInt)
        have z77 : (σ68 9 0).toInt = (σ 9 0).toInt := (congrArg Int32.toInt (show σ68 9 0 = (σ 9 0) from ((f75 0 (of_decide_eq_true rfl)).trans ((f62 0 (of_decide_eq_true rfl)).trans ((f45 0 (of_decide_eq_true rfl)).trans (f11 0 (of_decide_eq_true rfl)))))))
        have lp78 : ∀ (x80 : Int32) (σ81 : Nat → Nat → Int32) (H : Heap) (locs : List Loc) (ls : Array Slot), 0 ≤ (σ81 9 1).toInt → (σ81 9 1).toInt ≤ (σ81 9 0).toInt → (-1) ≤ (σ81 9 2).toInt → (((σ81 9 2).toInt = (-1) ∧ 1 ≤ x29.toInt ∧ 1 ≤ x67.toInt ∧ x67.toInt ≤ 12 ∧ 0 ≤ x80.toInt ∧ x80.toInt ≤ 999) ∨ (0 ≤ (σ81 9 2).toInt ∧ (σ81 9 2).toInt ≤ 80)) → (∀ i : Nat, (i < 9 ∨ 9 < i) → σ81 i = σ68 i) → (∀ k : Nat, (k < 1 ∨ 1 < k) ∧ (k < 2 ∨ 2 < k) → σ81 9 k = σ68 9 k) → (∃ p x1 : Int, (jTm (σ 10) (σ 9 0).toInt (x29.toInt) p (x67.toInt) x1 ∧ (x1 = -1 → 0 ≤ p)) ∧ jRm (σ 10) (σ 9 0).toInt p (x80.toInt) x1 ((σ81 9 1).toInt) ((σ81 9 2).toInt)) → jH D cI cL ad σ81 τ H → va_S (jA ad) s.heap H locs → lv_has ls 6 [(0, .ref (ad 9)), (1, .ref (ad 16)), (2, .int x29), (3, .int x67), (4, .int x80)] → W p l e ({ frames := 2, cells := 0, slots := 0, locals := 44 }) s m args below meth c H locs 0 0 Q (F0 m 133 ls []) := by
          intro x80 σ81 H locs ls h83 h84 h85 h86 f87 f88 q89 hP hS hl
          have gx80 := jrg (rfl : x80.toInt = x80.toInt)
          have z90 : (σ81 9 0).toInt = (σ 9 0).toInt := (congrArg Int32.toInt (show σ81 9 0 = (σ 9 0) from ((f88 0 (of_decide_eq_true rfl)).trans ((f75 0 (of_decide_eq_true rfl)).trans ((f62 0 (of_decide_eq_true rfl)).trans ((f45 0 (of_decide_eq_true rfl)).trans (f11 0 (of_decide_eq_true rfl))))))))
          obtain ⟨p91, y92, t93, r94⟩ := q89
          refine lv_aload_n hx hb dX7_readOrder_133 rfl (lv_at hl 0 rfl) ?_
          have I95 : jI9 σ81 := jI9_fr ((f88 0 (of_decide_eq_true rfl)).trans ((f75 0 (of_decide_eq_true rfl)).trans (f62 0 (of_decide_eq_true rfl)))) ((f87 10 (of_decide_eq_true rfl)).trans ((f74 10 (of_decide_eq_true rfl)).trans (f61 10 (of_decide_eq_true rfl)))) ((f87 11 (of_decide_eq_true rfl)).trans ((f74 11 (of_decide_eq_true rfl)).trans (f61 11 (of_decide_eq_true rfl)))) p46
          exact by
           have I96 : jI91 σ81 := ⟨(by omega), (by omega)⟩
           have I97 : jI92 σ81 := (show (-1) ≤ (σ81 9 2).toInt by omega)
           refine jcallV (As := []) (rest := []) ⟨hx, hb, hml, hown, hts⟩ hK hP hA hS hZ (c_X7_end_9 l D cI cL ad zz hJ σ81 τ I95 I96 I97) cw_RX7_57 (jc_9 cI cL ad σ81 τ) rfl ⟨Nat.le_of_ble_eq_true rfl, Nat.le_of_ble_eq_true rfl⟩ rfl rfl rfl hl.1 rfl (Nat.le_of_ble_eq_true rfl) dX7_readOrder_134 ⟨Nat.zero_le _, Nat.zero_le _⟩ (fun r99 σ98 τ98 H locs h98 hP hS => ?_)
           obtain ⟨rfl, f100, f101, I102, I103, h98⟩ := h98
           obtain ⟨i105, w106, w107⟩ : (0 ≤ (σ98 9 0).toInt ∧ (σ98 9 0).toInt ≤ 80) ∧ (∀ k : Nat, k < 80 → 0 ≤ (σ98 10 k).toInt ∧ (σ98 10 k).toInt ≤ 255) ∧ (∀ k : Nat, k < 8 → 0 ≤ (σ98 11 k).toInt ∧ (σ98 11 k).toInt ≤ 3) := id I102
           have i108 : (-1) ≤ (σ98 9 2).toInt := I103
           obtain ⟨k109, h98⟩ := h98
           rcases h98 with h110 | h111
           · obtain ⟨q114, k112, k113⟩ := h110
             have q114 := q114.symm
             subst q114
             refine lv_istore (lv' := [(5, .int (-1)), (0, .ref (ad 9)), (1, .ref (ad 16)), (2, .int x29), (3, .int x67), (4, .int x80)]) hx hb dX7_readOrder_137 hl (of_decide_eq_true rfl) rfl (fun ls hl => ?_)
             refine lv_iload hx hb dX7_readOrder_139 (lv_at hl 0 rfl) ?_
             refine lv_iconst (v := (-1)) hx hb dX7_readOrder_141 (of_decide_eq_true rfl) ?_
             refine lv_icmp_eq (tgt := 148) hx hb dX7_readOrder_142 (of_decide_eq_true rfl) (fun _ => ?_) (fun c => absurd (of_decide_eq_true rfl) c)
             refine lv_aload_n hx hb dX7_readOrder_148 rfl (lv_at hl 2 rfl) ?_
             refine lv_iload_n hx hb dX7_readOrder_149 rfl (lv_at hl 3 rfl) ?_
             refine jput (ty := .int) hx hb hts inlX6 tyX6 tyX6_ok nmX6 hown hK hP hJ hA hS (jc_16 cI cL ad σ98 τ) rfl (k := 0) (of_decide_eq_true rfl) (Nat.le_of_ble_eq_true rfl) (jp_16_0 cI cL ad σ98 τ x29) (hts _ kw_13_18) (fun _ h9 => h9) rfl (by decide +kernel) rfl rfl dX7_readOrder_150 (fun σ115 H locs eσ115 hP hS => ?_)
             refine lv_aload_n hx hb dX7_readOrder_153 rfl (lv_at hl 2 rfl) ?_
             refine lv_iload_n hx hb dX7_readOrder_154 rfl (lv_at hl 4 rfl) ?_
             refine jput (ty := .int) hx hb hts inlX6 tyX6 tyX6_ok nmX6 hown hK hP hJ hA hS (jc_16 cI cL ad σ115 τ) rfl (k := 1) (of_decide_eq_true rfl) (Nat.le_of_ble_eq_true rfl) (jp_16_1 cI cL ad σ115 τ x67) (hts _ kw_13_19) (fun _ h9 => h9) rfl (by decide +kernel) rfl rfl dX7_readOrder_155 (fun σ116 H locs eσ116 hP hS => ?_)
             refine lv_aload_n hx hb dX7_readOrder_158 rfl (lv_at hl 2 rfl) ?_
             refine lv_iload hx hb dX7_readOrder_159 (lv_at hl 5 rfl) ?_
             refine jput (ty := .int) hx hb hts inlX6 tyX6 tyX6_ok nmX6 hown hK hP hJ hA hS (jc_16 cI cL ad σ116 τ) rfl (k := 2) (of_decide_eq_true rfl) (Nat.le_of_ble_eq_true rfl) (jp_16_2 cI cL ad σ116 τ x80) (hts _ kw_13_20) (fun _ h9 => h9) rfl (by decide +kernel) rfl rfl dX7_readOrder_161 (fun σ117 H locs eσ117 hP hS => ?_)
             refine lv_aload_n hx hb dX7_readOrder_164 rfl (lv_at hl 1 rfl) ?_
             refine va_get (D := D) hx hb hts inlX7 hown hK hP 9 (jc_9 cI cL ad σ117 τ) rfl 4 (of_decide_eq_true rfl) (hts _ kw_3_21) (fun _ h9 => h9) rfl dX7_readOrder_165 ?_
             refine lv_iconst (v := 0) hx hb dX7_readOrder_168 (of_decide_eq_true rfl) ?_
             refine lv_aload_n hx hb dX7_readOrder_169 rfl (lv_at hl 2 rfl) ?_
             refine va_get (D := D) hx hb hts inlX6 hown hK hP 16 (jc_16 cI cL ad σ117 τ) rfl 3 (of_decide_eq_true rfl) (hts _ kw_13_21) (fun _ h9 => h9) rfl dX7_readOrder_170 ?_
             refine lv_iconst (v := 0) hx hb dX7_readOrder_173 (of_decide_eq_true rfl) ?_
             refine lv_iload_n hx hb dX7_readOrder_174 rfl (lv_at hl 3 rfl) ?_
             exact by
              refine jcpyI (q0 := 11) (q1 := 17) hx hb (hml.trans hl.1.symm) hown (hts _ kw_13_22) (hts _ kw_13_23) (hts _ kw_14_0) (hts _ kw_14_1) hK hP hJ hA hS (jc_11 cI cL ad σ117 τ) (jc_17 cI cL ad σ117 τ) (fun _ => rfl) jz_0 jz_0 rfl (by omega) (by omega) (by omega) (by omega) (by omega) (Nat.le_of_ble_eq_true rfl) (Nat.le_of_ble_eq_true rfl) dX7_readOrder_175 (fun σ118 H locs eσ118 hP hS => ?_)
              have w119 : ∀ k : Nat, k < 8 → 0 ≤ (σ117 11 k).toInt ∧ (σ117 11 k).toInt ≤ 3 := (jrr_fr (jnp 11 eσ117 (of_decide_eq_true rfl)) (jrr_fr (jnp 11 eσ116 (of_decide_eq_true rfl)) (jrr_fr (jnp 11 eσ115 (of_decide_eq_true rfl)) w107)))
              have w120 : ∀ k : Nat, k < 8 → 0 ≤ (σ117 17 k).toInt ∧ (σ117 17 k).toInt ≤ 3 := (jrr_fr (jnp 17 eσ117 (of_decide_eq_true rfl)) (jrr_fr (jnp 17 eσ116 (of_decide_eq_true rfl)) (jrr_fr (jnp 17 eσ115 (of_decide_eq_true rfl)) (jrr_fr (f100 17 (of_decide_eq_true rfl)) (jrr_fr (f87 17 (of_decide_eq_true rfl)) (jrr_fr (f74 17 (of_decide_eq_true rfl)) (jrr_fr (f61 17 (of_decide_eq_true rfl)) (jrr_fr (f44 17 (of_decide_eq_true rfl)) (jrr_fr (f10 17 (of_decide_eq_true rfl)) w7)))))))))
              have f121 : (∀ i : Nat, (i < 17 ∨ 17 < i) → σ118 i = σ117 i) := by rw [eσ118]; exact jrow_n
              have w122 : ∀ k : Nat, k < 8 → 0 ≤ (σ118 17 k).toInt ∧ (σ118 17 k).toInt ≤ 3 := by rw [eσ118]; exact jrow_rr w119 w120 jz_0 rfl (n0 := 8) (by omega) (by omega) (by omega)
              refine lv_iconst (v := (-1)) hx hb dX7_readOrder_178 (of_decide_eq_true rfl) ?_
              have I123 : jI9 σ118 := jI9_fr ((congrFun (f121 9 (of_decide_eq_true rfl)) 0).trans ((congrFun (jnp 9 eσ117 (of_decide_eq_true rfl)) 0).trans ((congrFun (jnp 9 eσ116 (of_decide_eq_true rfl)) 0).trans (congrFun (jnp 9 eσ115 (of_decide_eq_true rfl)) 0)))) ((f121 10 (of_decide_eq_true rfl)).trans ((jnp 10 eσ117 (of_decide_eq_true rfl)).trans ((jnp 10 eσ116 (of_decide_eq_true rfl)).trans (jnp 10 eσ115 (of_decide_eq_true rfl))))) ((f121 11 (of_decide_eq_true rfl)).trans ((jnp 11 eσ117 (of_decide_eq_true rfl)).trans ((jnp 11 eσ116 (of_decide_eq_true rfl)).trans (jnp 11 eσ115 (of_decide_eq_true rfl))))) I102
              have z124 : (σ118 16 0).toInt = x29.toInt := (congrArg Int32.toInt (show σ118 16 0 = x29 from ((congrFun (f121 16 (of_decide_eq_true rfl)) 0).trans ((jkp 0 eσ117 (of_decide_eq_true rfl)).trans ((jkp 0 eσ116 (of_decide_eq_true rfl)).trans (jsp eσ115))))))
              have z125 : (σ118 16 1).toInt = x67.toInt := (congrArg Int32.toInt (show σ118 16 1 = x67 from ((congrFun (f121 16 (of_decide_eq_true rfl)) 1).trans ((jkp 1 eσ117 (of_decide_eq_true rfl)).trans (jsp eσ116)))))
              exact by
               have z126 : (σ118 16 2).toInt = x80.toInt := (congrArg Int32.toInt (show σ118 16 2 = x80 from ((congrFun (f121 16 (of_decide_eq_true rfl)) 2).trans (jsp eσ117))))
               have I127 : jI16 σ118 := ⟨(by omega), (by omega), (by omega), w122⟩
               have z128 : (σ118 9 1).toInt = (σ81 9 1).toInt := (congrArg Int32.toInt (show σ118 9 1 = (σ81 9 1) from ((congrFun (f121 9 (of_decide_eq_true rfl)) 1).trans ((congrFun (jnp 9 eσ117 (of_decide_eq_true rfl)) 1).trans ((congrFun (jnp 9 eσ116 (of_decide_eq_true rfl)) 1).trans ((congrFun (jnp 9 eσ115 (of_decide_eq_true rfl)) 1).trans (f101 1 (of_decide_eq_true rfl))))))))
               have z129 : (σ118 9 2).toInt = (σ98 9 2).toInt := (congrArg Int32.toInt (show σ118 9 2 = (σ98 9 2) from ((congrFun (f121 9 (of_decide_eq_true rfl)) 2).trans ((congrFun (jnp 9 eσ117 (of_decide_eq_true rfl)) 2).trans ((congrFun (jnp 9 eσ116 (of_decide_eq_true rfl)) 2).trans (congrFun (jnp 9 eσ115 (of_decide_eq_true rfl)) 2))))))
               have z130 : (σ118 9 0).toInt = (σ98 9 0).toInt := (congrArg Int32.toInt (show σ118 9 0 = (σ98 9 0) from ((congrFun (f121 9 (of_decide_eq_true rfl)) 0).trans ((congrFun (jnp 9 eσ117 (of_decide_eq_true rfl)) 0).trans ((congrFun (jnp 9 eσ116 (of_decide_eq_true rfl)) 0).trans (congrFun (jnp 9 eσ115 (of_decide_eq_true rfl)) 0))))))
               exact by exact hret (-1) σ118 τ _ _ _ _ rfl ⟨rfl, (fun i hi => ((f121 i (imp_44 i hi)).trans ((jnp i eσ117 (imp_45 i hi)).trans ((jnp i eσ116 (imp_45 i hi)).trans ((jnp i eσ115 (imp_45 i hi)).trans ((f100 i (imp_46 i hi)).trans ((f87 i (imp_46 i hi)).trans ((f74 i (imp_46 i hi)).trans ((f61 i (imp_46 i hi)).trans ((f44 i (imp_47 i hi)).trans (f10 i (imp_46 i hi)))))))))))), (fun i hi => ((congrFun (f121 9 (of_decide_eq_true rfl)) i).trans ((congrFun (jnp 9 eσ117 (of_decide_eq_true rfl)) i).trans ((congrFun (jnp 9 eσ116 (of_decide_eq_true rfl)) i).trans ((congrFun (jnp 9 eσ115 (of_decide_eq_true rfl)) i).trans ((f101 i (imp_48 i hi)).trans ((f88 i (imp_49 i hi)).trans ((f75 i (imp_49 i hi)).trans ((f62 i (imp_50 i hi)).trans ((f45 i (imp_51 i hi)).trans (f11 i (imp_49 i hi)))))))))))), (fun i hi => ((congrFun (f121 16 (of_decide_eq_true rfl)) i).trans ((jkp i eσ117 (imp_52 i hi)).trans ((jkp i eσ116 (imp_53 i hi)).trans ((jkp i eσ115 (imp_54 i hi)).trans ((congrFun (f100 16 (of_decide_eq_true rfl)) i).trans ((congrFun (f87 16 (of_decide_eq_true rfl)) i).trans ((congrFun (f74 16 (of_decide_eq_true rfl)) i).trans ((congrFun (f61 16 (of_decide_eq_true rfl)) i).trans ((congrFun (f44 16 (of_decide_eq_true rfl)) i).trans (congrFun (f10 16 (of_decide_eq_true rfl)) i))))))))))), I123, I127, ⟨x29.toInt, x67.toInt, x80.toInt, -1, ⟨q47.1, p91, y92, (σ81 9 1).toInt, (σ81 9 2).toInt, t93.1, t93.2, r94, (by have h9 := jz_m1; omega)⟩, Or.inr ⟨rfl, (by have h9 := jz_m1; omega), by omega, by omega, by omega, (fun j hj => by rw [congrFun eσ118 17, jrow_s, jcpy0 rfl rfl (rfl : x29.toInt = x29.toInt) j hj, show σ117 11 = σ32 11 from ((jnp 11 eσ117 (of_decide_eq_true rfl)).trans ((jnp 11 eσ116 (of_decide_eq_true rfl)).trans ((jnp 11 eσ115 (of_decide_eq_true rfl)).trans ((f100 11 (of_decide_eq_true rfl)).trans ((f87 11 (of_decide_eq_true rfl)).trans ((f74 11 (of_decide_eq_true rfl)).trans (f61 11 (of_decide_eq_true rfl))))))))]; exact q47.2 j hj)⟩⟩, (by omega), ⟨trivial, (by have h9 := jz_m1; omega)⟩⟩ hP hS dX7_readOrder_179
           · obtain ⟨q133, k131, k132⟩ := h111
             refine lv_istore (lv' := [(5, .int r99), (0, .ref (ad 9)), (1, .ref (ad 16)), (2, .int x29), (3, .int x67), (4, .int x80)]) hx hb dX7_readOrder_137 hl (of_decide_eq_true rfl) rfl (fun ls hl => ?_)
             refine lv_iload hx hb dX7_readOrder_139 (lv_at hl 0 rfl) ?_
             exact by
              refine lv_iconst (v := (-1)) hx hb dX7_readOrder_141 (of_decide_eq_true rfl) ?_
              refine lv_icmp_eq (tgt := 148) hx hb dX7_readOrder_142 (of_decide_eq_true rfl) (fun c => absurd (jeq c rfl jz_m1) (by omega)) (fun c134 => ?_)
              have kc134 := jne c134 rfl jz_m1
              refine lv_iload hx hb dX7_readOrder_145 (lv_at hl 0 rfl) ?_
              have I135 : jI16 σ98 := jI16_fr ((congrFun (f100 16 (of_decide_eq_true rfl)) 0).trans ((congrFun (f87 16 (of_decide_eq_true rfl)) 0).trans ((congrFun (f74 16 (of_decide_eq_true rfl)) 0).trans ((congrFun (f61 16 (of_decide_eq_true rfl)) 0).trans ((congrFun (f44 16 (of_decide_eq_true rfl)) 0).trans (congrFun (f10 16 (of_decide_eq_true rfl)) 0)))))) ((congrFun (f100 16 (of_decide_eq_true rfl)) 1).trans ((congrFun (f87 16 (of_decide_eq_true rfl)) 1).trans ((congrFun (f74 16 (of_decide_eq_true rfl)) 1).trans ((congrFun (f61 16 (of_decide_eq_true rfl)) 1).trans ((congrFun (f44 16 (of_decide_eq_true rfl)) 1).trans (congrFun (f10 16 (of_decide_eq_true rfl)) 1)))))) ((congrFun (f100 16 (of_decide_eq_true rfl)) 2).trans ((congrFun (f87 16 (of_decide_eq_true rfl)) 2).trans ((congrFun (f74 16 (of_decide_eq_true rfl)) 2).trans ((congrFun (f61 16 (of_decide_eq_true rfl)) 2).trans ((congrFun (f44 16 (of_decide_eq_true rfl)) 2).trans (congrFun (f10 16 (of_decide_eq_true rfl)) 2)))))) ((f100 17 (of_decide_eq_true rfl)).trans ((f87 17 (of_decide_eq_true rfl)).trans ((f74 17 (of_decide_eq_true rfl)).trans ((f61 17 (of_decide_eq_true rfl)).trans ((f44 17 (of_decide_eq_true rfl)).trans (f10 17 (of_decide_eq_true rfl))))))) hI16
              have z136 : (σ98 16 0).toInt = (σ 16 0).toInt := (congrArg Int32.toInt (show σ98 16 0 = (σ 16 0) from ((congrFun (f100 16 (of_decide_eq_true rfl)) 0).trans ((congrFun (f87 16 (of_decide_eq_true rfl)) 0).trans ((congrFun (f74 16 (of_decide_eq_true rfl)) 0).trans ((congrFun (f61 16 (of_decide_eq_true rfl)) 0).trans ((congrFun (f44 16 (of_decide_eq_true rfl)) 0).trans (congrFun (f10 16 (of_decide_eq_true rfl)) 0))))))))
              have z137 : (σ98 16 1).toInt = (σ 16 1).toInt := (congrArg Int32.toInt (show σ98 16 1 = (σ 16 1) from ((congrFun (f100 16 (of_decide_eq_true rfl)) 1).trans ((congrFun (f87 16 (of_decide_eq_true rfl)) 1).trans ((congrFun (f74 16 (of_decide_eq_true rfl)) 1).trans ((congrFun (f61 16 (of_decide_eq_true rfl)) 1).trans ((congrFun (f44 16 (of_decide_eq_true rfl)) 1).trans (congrFun (f10 16 (of_decide_eq_true rfl)) 1))))))))
              have z138 : (σ98 16 2).toInt = (σ 16 2).toInt := (congrArg Int32.toInt (show σ98 16 2 = (σ 16 2) from ((congrFun (f100 16 (of_decide_eq_true rfl)) 2).trans ((congrFun (f87 16 (of_decide_eq_true rfl)) 2).trans ((congrFun (f74 16 (of_decide_eq_true rfl)) 2).trans ((congrFun (f61 16 (of_decide_eq_true rfl)) 2).trans ((congrFun (f44 16 (of_decide_eq_true rfl)) 2).trans (congrFun (f10 16 (of_decide_eq_true rfl)) 2))))))))
              have z139 : (σ98 9 1).toInt = (σ81 9 1).toInt := (congrArg Int32.toInt (show σ98 9 1 = (σ81 9 1) from (f101 1 (of_decide_eq_true rfl))))
              exact by exact hret r99 σ98 τ _ _ _ _ rfl ⟨rfl, (fun i hi => ((f100 i (imp_46 i hi)).trans ((f87 i (imp_46 i hi)).trans ((f74 i (imp_46 i hi)).trans ((f61 i (imp_46 i hi)).trans ((f44 i (imp_47 i hi)).trans (f10 i (imp_46 i hi)))))))), (fun i hi => ((f101 i (imp_48 i hi)).trans ((f88 i (imp_49 i hi)).trans ((f75 i (imp_49 i hi)).trans ((f62 i (imp_50 i hi)).trans ((f45 i (imp_51 i hi)).trans (f11 i (imp_49 i hi)))))))), (fun i hi => ((congrFun (f100 16 (of_decide_eq_true rfl)) i).trans ((congrFun (f87 16 (of_decide_eq_true rfl)) i).trans ((congrFun (f74 16 (of_decide_eq_true rfl)) i).trans ((congrFun (f61 16 (of_decide_eq_true rfl)) i).trans ((congrFun (f44 16 (of_decide_eq_true rfl)) i).trans (congrFun (f10 16 (of_decide_eq_true rfl)) i))))))), I102, I135, ⟨x29.toInt, x67.toInt, x80.toInt, r99.toInt, ⟨q47.1, p91, y92, (σ81 9 1).toInt, (σ81 9 2).toInt, t93.1, t93.2, r94, (by omega)⟩, Or.inl ⟨by omega, rfl, by omega, by omega, by omega, ((f100 17 (of_decide_eq_true rfl)).trans ((f87 17 (of_decide_eq_true rfl)).trans ((f74 17 (of_decide_eq_true rfl)).trans ((f61 17 (of_decide_eq_true rfl)).trans ((f44 17 (of_decide_eq_true rfl)).trans (f10 17 (of_decide_eq_true rfl)))))))⟩⟩, (by omega), ⟨trivial, (by omega)⟩⟩ hP hS dX7_readOrder_147
        exact by
         refine lv_aload_n hx hb dX7_readOrder_117 rfl (lv_at hl 0 rfl) ?_
         refine lv_bipush (v := 114) hx hb dX7_readOrder_118 (of_decide_eq_true rfl) ?_
         have I140 : jI9 σ68 := jI9_fr ((f75 0 (of_decide_eq_true rfl)).trans (f62 0 (of_decide_eq_true rfl))) ((f74 10 (of_decide_eq_true rfl)).trans (f61 10 (of_decide_eq_true rfl))) ((f74 11 (of_decide_eq_true rfl)).trans (f61 11 (of_decide_eq_true rfl))) p46
         have I141 : jI91 σ68 := ⟨(by omega), (by omega)⟩
         have I142 : jI92 σ68 := (show (-1) ≤ (σ68 9 2).toInt by omega)
         refine jcallV (As := [.int 114]) (rest := []) ⟨hx, hb, hml, hown, hts⟩ hK hP hA hS hZ (c_X7_skip_9 l D cI cL ad zz hJ σ68 τ 114 (114) jz_114 I140 I141 I142 (by omega)) cw_RX7_50 (jc_9 cI cL ad σ68 τ) rfl ⟨Nat.le_of_ble_eq_true rfl, Nat.le_of_ble_eq_true rfl⟩ rfl rfl rfl hl.1 rfl (Nat.le_of_ble_eq_true rfl) dX7_readOrder_120 ⟨Nat.zero_le _, Nat.zero_le _⟩ (fun r144 σ143 τ143 H locs h143 hP hS => ?_)
         obtain ⟨rfl, f145, f146, I147, I148, I149, h143⟩ := h143
         obtain ⟨i151, w152, w153⟩ : (0 ≤ (σ143 9 0).toInt ∧ (σ143 9 0).toInt ≤ 80) ∧ (∀ k : Nat, k < 80 → 0 ≤ (σ143 10 k).toInt ∧ (σ143 10 k).toInt ≤ 255) ∧ (∀ k : Nat, k < 8 → 0 ≤ (σ143 11 k).toInt ∧ (σ143 11 k).toInt ≤ 3) := id I147
         obtain ⟨i154, i155⟩ : (0 ≤ (σ143 9 1).toInt) ∧ ((σ143 9 1).toInt ≤ (σ143 9 0).toInt) := id I148
         exact by
          have i156 : (-1) ≤ (σ143 9 2).toInt := I149
          have z157 : (σ143 9 0).toInt = (σ 9 0).toInt := (congrArg Int32.toInt (show σ143 9 0 = (σ 9 0) from ((f146 0 (of_decide_eq_true rfl)).trans ((f75 0 (of_decide_eq_true rfl)).trans ((f62 0 (of_decide_eq_true rfl)).trans ((f45 0 (of_decide_eq_true rfl)).trans (f11 0 (of_decide_eq_true rfl))))))))
          have z158 : (σ143 9 2).toInt = (σ68 9 2).toInt := (congrArg Int32.toInt (show σ143 9 2 = (σ68 9 2) from (f146 2 (of_decide_eq_true rfl))))
          rcases h143 with h159 | h160
          · obtain ⟨q165, k161, k162, k163, k164⟩ := h159
            have q165 := q165.symm
            subst q165
            rw [show (σ68 9 0).toInt = (σ 9 0).toInt from by omega, show σ68 10 = σ 10 from by rw [f74 10 (of_decide_eq_true rfl), f61 10 (of_decide_eq_true rfl), f44 10 (of_decide_eq_true rfl), f10 10 (of_decide_eq_true rfl)]] at k164
            refine lv_if_eq (tgt := 133) hx hb dX7_readOrder_123 (of_decide_eq_true rfl) (fun c => absurd c (of_decide_eq_true rfl)) (fun _ => ?_)
            refine lv_aload_n hx hb dX7_readOrder_126 rfl (lv_at hl 0 rfl) ?_
            refine lv_iconst (v := 3) hx hb dX7_readOrder_127 (of_decide_eq_true rfl) ?_
            exact by
             refine jcallV (As := [.int 3]) (rest := []) ⟨hx, hb, hml, hown, hts⟩ hK hP hA hS hZ (c_X7_number_3 l D cI cL ad zz hJ σ143 τ I147 I148 I149 (by omega)) cw_RX7_53 (jc_9 cI cL ad σ143 τ) rfl ⟨Nat.le_of_ble_eq_true rfl, Nat.le_of_ble_eq_true rfl⟩ rfl rfl rfl hl.1 rfl (Nat.le_of_ble_eq_true rfl) dX7_readOrder_128 ⟨Nat.zero_le _, Nat.zero_le _⟩ (fun r167 σ166 τ166 H locs h166 hP hS => ?_)
             obtain ⟨rfl, f168, f169, I170, I171, I172, h166⟩ := h166
             obtain ⟨i174, w175, w176⟩ : (0 ≤ (σ166 9 0).toInt ∧ (σ166 9 0).toInt ≤ 80) ∧ (∀ k : Nat, k < 80 → 0 ≤ (σ166 10 k).toInt ∧ (σ166 10 k).toInt ≤ 255) ∧ (∀ k : Nat, k < 8 → 0 ≤ (σ166 11 k).toInt ∧ (σ166 11 k).toInt ≤ 3) := id I170
             obtain ⟨i177, i178⟩ : (0 ≤ (σ166 9 1).toInt) ∧ ((σ166 9 1).toInt ≤ (σ166 9 0).toInt) := id I171
             have i179 : (-1) ≤ (σ166 9 2).toInt := I172
             have z180 : (σ166 9 0).toInt = (σ 9 0).toInt := (congrArg Int32.toInt (show σ166 9 0 = (σ 9 0) from ((f169 0 (of_decide_eq_true rfl)).trans ((f146 0 (of_decide_eq_true rfl)).trans ((f75 0 (of_decide_eq_true rfl)).trans ((f62 0 (of_decide_eq_true rfl)).trans ((f45 0 (of_decide_eq_true rfl)).trans (f11 0 (of_decide_eq_true rfl)))))))))
             have h181 := h166
             obtain ⟨q184, k182, k183⟩ := h181
             obtain ⟨q185, n187, k188, k189⟩ := k183
             rw [show (σ143 9 1).toInt = (σ68 9 1).toInt + 1 from by omega, show (σ143 9 0).toInt = (σ 9 0).toInt from by omega, show σ143 10 = σ 10 from by rw [f145 10 (of_decide_eq_true rfl), f74 10 (of_decide_eq_true rfl), f61 10 (of_decide_eq_true rfl), f44 10 (of_decide_eq_true rfl), f10 10 (of_decide_eq_true rfl)]] at n187
             refine lv_istore (lv' := [(4, .int r167), (0, .ref (ad 9)), (1, .ref (ad 16)), (2, .int x29), (3, .int x67)]) hx hb dX7_readOrder_131 hl (of_decide_eq_true rfl) rfl (fun ls hl => ?_)
             have g190 := jNb_bd n187
             exact by exact lp78 r167 σ166 _ _ ls (by omega) (by omega) (by omega) (by omega) (fun i hi => ((f168 i hi).trans (f145 i hi))) (fun i hi => ((f169 i hi).trans (f146 i (imp_55 i hi))))  ⟨(σ68 9 1).toInt, (σ68 9 2).toInt, q76, Or.inr (Or.inr ⟨by omega, k164, q185, r167.toInt, n187, (by omega)⟩)⟩ hP hS (lv_sub hl [1, 2, 3, 4, 0] rfl)
          · obtain ⟨q194, k191, k192, k193⟩ := h160
            have q194 := q194.symm
            subst q194
            rw [show (σ68 9 0).toInt = (σ 9 0).toInt from by omega, show σ68 10 = σ 10 from by rw [f74 10 (of_decide_eq_true rfl), f61 10 (of_decide_eq_true rfl), f44 10 (of_decide_eq_true rfl), f10 10 (of_decide_eq_true rfl)]] at k193
            refine lv_if_eq (tgt := 133) hx hb dX7_readOrder_123 (of_decide_eq_true rfl) (fun _ => ?_) (fun c => absurd (of_decide_eq_true rfl) c)
            have d195 : (σ68 9 2).toInt = -1 ∨ 0 ≤ (σ68 9 2).toInt := by omega
            exact by exact lp78 x31 σ143 _ _ ls (by omega) (by omega) (by omega) (by omega) (fun i hi => (f145 i hi)) (fun i hi => (f146 i (imp_55 i hi)))  ⟨(σ68 9 1).toInt, (σ68 9 2).toInt, q76, (Or.elim d195 (fun d => Or.inr (Or.inl ⟨d, k193 (by omega), (by omega), by omega, by omega⟩)) (fun d => Or.inl ⟨d, by omega⟩))⟩ hP hS (lv_sub hl [0, 1, 2, 3, 4] rfl)
      refine lv_aload_n hx hb dX7_readOrder_79 rfl (lv_at hl 0 rfl) ?_
      refine lv_bipush (v := 58) hx hb dX7_readOrder_80 (of_decide_eq_true rfl) ?_
      have I196 : jI9 σ55 := jI9_fr (f62 0 (of_decide_eq_true rfl)) (f61 10 (of_decide_eq_true rfl)) (f61 11 (of_decide_eq_true rfl)) p46
      exact by
       have I197 : jI91 σ55 := ⟨(by omega), (by omega)⟩
       have I198 : jI92 σ55 := (show (-1) ≤ (σ55 9 2).toInt by omega)
       refine jcallV (As := [.int 58]) (rest := []) ⟨hx, hb, hml, hown, hts⟩ hK hP hA hS hZ (c_X7_skip_9 l D cI cL ad zz hJ σ55 τ 58 (58) jz_58 I196 I197 I198 (by omega)) cw_RX7_50 (jc_9 cI cL ad σ55 τ) rfl ⟨Nat.le_of_ble_eq_true rfl, Nat.le_of_ble_eq_true rfl⟩ rfl rfl rfl hl.1 rfl (Nat.le_of_ble_eq_true rfl) dX7_readOrder_82 ⟨Nat.zero_le _, Nat.zero_le _⟩ (fun r200 σ199 τ199 H locs h199 hP hS => ?_)
       obtain ⟨rfl, f201, f202, I203, I204, I205, h199⟩ := h199
       obtain ⟨i207, w208, w209⟩ : (0 ≤ (σ199 9 0).toInt ∧ (σ199 9 0).toInt ≤ 80) ∧ (∀ k : Nat, k < 80 → 0 ≤ (σ199 10 k).toInt ∧ (σ199 10 k).toInt ≤ 255) ∧ (∀ k : Nat, k < 8 → 0 ≤ (σ199 11 k).toInt ∧ (σ199 11 k).toInt ≤ 3) := id I203
       obtain ⟨i210, i211⟩ : (0 ≤ (σ199 9 1).toInt) ∧ ((σ199 9 1).toInt ≤ (σ199 9 0).toInt) := id I204
       have i212 : (-1) ≤ (σ199 9 2).toInt := I205
       have z213 : (σ199 9 0).toInt = (σ 9 0).toInt := (congrArg Int32.toInt (show σ199 9 0 = (σ 9 0) from ((f202 0 (of_decide_eq_true rfl)).trans ((f62 0 (of_decide_eq_true rfl)).trans ((f45 0 (of_decide_eq_true rfl)).trans (f11 0 (of_decide_eq_true rfl)))))))
       have z214 : (σ199 9 2).toInt = (σ55 9 2).toInt := (congrArg Int32.toInt (show σ199 9 2 = (σ55 9 2) from (f202 2 (of_decide_eq_true rfl))))
       exact by
        rcases h199 with h215 | h216
        · obtain ⟨q221, k217, k218, k219, k220⟩ := h215
          have q221 := q221.symm
          subst q221
          rw [show (σ55 9 1).toInt = x29.toInt from by omega, show (σ55 9 0).toInt = (σ 9 0).toInt from by omega, show σ55 10 = σ 10 from by rw [f61 10 (of_decide_eq_true rfl), f44 10 (of_decide_eq_true rfl), f10 10 (of_decide_eq_true rfl)]] at k220
          refine lv_if_eq (tgt := 117) hx hb dX7_readOrder_85 (of_decide_eq_true rfl) (fun c => absurd c (of_decide_eq_true rfl)) (fun _ => ?_)
          refine lv_aload_n hx hb dX7_readOrder_88 rfl (lv_at hl 0 rfl) ?_
          refine va_get (D := D) hx hb hts inlX7 hown hK hP 9 (jc_9 cI cL ad σ199 τ) rfl 1 (of_decide_eq_true rfl) (hts _ kw_13_17) (fun _ h9 => h9) rfl dX7_readOrder_89 ?_
          refine lv_istore (lv' := [(5, .int (σ199 9 1)), (0, .ref (ad 9)), (1, .ref (ad 16)), (2, .int x29), (3, .int x30), (4, .int x31)]) hx hb dX7_readOrder_92 hl (of_decide_eq_true rfl) rfl (fun ls hl => ?_)
          refine lv_aload_n hx hb dX7_readOrder_94 rfl (lv_at hl 1 rfl) ?_
          refine lv_iconst (v := 2) hx hb dX7_readOrder_95 (of_decide_eq_true rfl) ?_
          exact by
           refine jcallV (As := [.int 2]) (rest := []) ⟨hx, hb, hml, hown, hts⟩ hK hP hA hS hZ (c_X7_number_2 l D cI cL ad zz hJ σ199 τ I203 I204 I205 (by omega)) cw_RX7_53 (jc_9 cI cL ad σ199 τ) rfl ⟨Nat.le_of_ble_eq_true rfl, Nat.le_of_ble_eq_true rfl⟩ rfl rfl rfl hl.1 rfl (Nat.le_of_ble_eq_true rfl) dX7_readOrder_96 ⟨Nat.zero_le _, Nat.zero_le _⟩ (fun r223 σ222 τ222 H locs h222 hP hS => ?_)
           obtain ⟨rfl, f224, f225, I226, I227, I228, h222⟩ := h222
           obtain ⟨i230, w231, w232⟩ : (0 ≤ (σ222 9 0).toInt ∧ (σ222 9 0).toInt ≤ 80) ∧ (∀ k : Nat, k < 80 → 0 ≤ (σ222 10 k).toInt ∧ (σ222 10 k).toInt ≤ 255) ∧ (∀ k : Nat, k < 8 → 0 ≤ (σ222 11 k).toInt ∧ (σ222 11 k).toInt ≤ 3) := id I226
           obtain ⟨i233, i234⟩ : (0 ≤ (σ222 9 1).toInt) ∧ ((σ222 9 1).toInt ≤ (σ222 9 0).toInt) := id I227
           have i235 : (-1) ≤ (σ222 9 2).toInt := I228
           have z236 : (σ222 9 0).toInt = (σ 9 0).toInt := (congrArg Int32.toInt (show σ222 9 0 = (σ 9 0) from ((f225 0 (of_decide_eq_true rfl)).trans ((f202 0 (of_decide_eq_true rfl)).trans ((f62 0 (of_decide_eq_true rfl)).trans ((f45 0 (of_decide_eq_true rfl)).trans (f11 0 (of_decide_eq_true rfl))))))))
           have h237 := h222
           obtain ⟨q240, k238, k239⟩ := h237
           obtain ⟨q241, n243, k244, k245⟩ := k239
           rw [show (σ199 9 1).toInt = x29.toInt + 1 from by omega, show (σ199 9 0).toInt = (σ 9 0).toInt from by omega, show σ199 10 = σ 10 from by rw [f201 10 (of_decide_eq_true rfl), f61 10 (of_decide_eq_true rfl), f44 10 (of_decide_eq_true rfl), f10 10 (of_decide_eq_true rfl)]] at n243
           refine lv_istore_n (lv' := [(3, .int r223), (5, .int (σ199 9 1)), (0, .ref (ad 9)), (1, .ref (ad 16)), (2, .int x29), (4, .int x31)]) hx hb dX7_readOrder_99 rfl hl (of_decide_eq_true rfl) rfl (fun ls hl => ?_)
           refine lv_iload_n hx hb dX7_readOrder_100 rfl (lv_at hl 0 rfl) ?_
           refine lv_iconst (v := 1) hx hb dX7_readOrder_101 (of_decide_eq_true rfl) ?_
           refine lv_icmp_lt (tgt := 111) hx hb dX7_readOrder_102 (of_decide_eq_true rfl) (fun c246 => ?_) (fun c246 => ?_)
           · have kc246 := jlt c246 rfl jz_1
             refine lv_aload_n hx hb dX7_readOrder_111 rfl (lv_at hl 2 rfl) ?_
             refine lv_iload hx hb dX7_readOrder_112 (lv_at hl 1 rfl) ?_
             exact by
              refine jcallVv (As := [.int (σ199 9 1)]) (rest := []) ⟨hx, hb, hml, hown, hts⟩ hK hP hA hS hZ (c_X7_fail_9 l D cI cL ad zz hJ σ222 τ (σ199 9 1) ((σ199 9 1).toInt) rfl I228 (by omega)) cw_RX7_43 (jc_9 cI cL ad σ222 τ) rfl ⟨Nat.le_of_ble_eq_true rfl, Nat.le_of_ble_eq_true rfl⟩ rfl rfl rfl hl.1 rfl (Nat.le_of_ble_eq_true rfl) dX7_readOrder_114 ⟨Nat.zero_le _, Nat.zero_le _⟩ (fun σ247 τ247 H locs h247 hP hS => ?_)
              obtain ⟨rfl, f249, f250, h247⟩ := h247
              obtain ⟨k252, k253, h247⟩ := h247
              have z254 : (σ247 9 1).toInt = (σ222 9 1).toInt := (congrArg Int32.toInt (show σ247 9 1 = (σ222 9 1) from (f250 1 (of_decide_eq_true rfl))))
              have z255 : (σ247 9 0).toInt = (σ 9 0).toInt := (congrArg Int32.toInt (show σ247 9 0 = (σ 9 0) from ((f250 0 (of_decide_eq_true rfl)).trans ((f225 0 (of_decide_eq_true rfl)).trans ((f202 0 (of_decide_eq_true rfl)).trans ((f62 0 (of_decide_eq_true rfl)).trans ((f45 0 (of_decide_eq_true rfl)).trans (f11 0 (of_decide_eq_true rfl)))))))))
              exact by exact lp65 r223 σ247 _ _ ls (by omega) (by omega) (by omega) (by omega) (fun i hi => ((f249 i hi).trans ((f224 i hi).trans (f201 i hi)))) (fun i hi => ((f250 i (imp_43 i hi)).trans ((f225 i hi).trans (f202 i (imp_55 i hi)))))  ⟨Or.inr (Or.inr ⟨by omega, k220, q241, r223.toInt, n243, (by omega)⟩), (fun _ => by omega)⟩ hP hS (lv_sub hl [2, 3, 4, 0, 5] rfl)
           · have kc246 := jnlt c246 rfl jz_1
             refine lv_iload_n hx hb dX7_readOrder_105 rfl (lv_at hl 0 rfl) ?_
             refine lv_bipush (v := 12) hx hb dX7_readOrder_106 (of_decide_eq_true rfl) ?_
             refine lv_icmp_le (tgt := 117) hx hb dX7_readOrder_108 (of_decide_eq_true rfl) (fun c256 => ?_) (fun c256 => ?_)
             · have kc256 := jle c256 rfl jz_12
               exact by exact lp65 r223 σ222 _ _ ls (by omega) (by omega) (by omega) (by omega) (fun i hi => ((f224 i hi).trans (f201 i hi))) (fun i hi => ((f225 i hi).trans (f202 i (imp_55 i hi))))  ⟨Or.inr (Or.inr ⟨by omega, k220, q241, r223.toInt, n243, (by omega)⟩), (fun _ => by omega)⟩ hP hS (lv_sub hl [2, 3, 4, 0, 5] rfl)
             · have kc256 := jnle c256 rfl jz_12
               refine lv_aload_n hx hb dX7_readOrder_111 rfl (lv_at hl 2 rfl) ?_
               refine lv_iload hx hb dX7_readOrder_112 (lv_at hl 1 rfl) ?_
               exact by
                refine jcallVv (As := [.int (σ199 9 1)]) (rest := []) ⟨hx, hb, hml, hown, hts⟩ hK hP hA hS hZ (c_X7_fail_9 l D cI cL ad zz hJ σ222 τ (σ199 9 1) ((σ199 9 1).toInt) rfl I228 (by omega)) cw_RX7_43 (jc_9 cI cL ad σ222 τ) rfl ⟨Nat.le_of_ble_eq_true rfl, Nat.le_of_ble_eq_true rfl⟩ rfl rfl rfl hl.1 rfl (Nat.le_of_ble_eq_true rfl) dX7_readOrder_114 ⟨Nat.zero_le _, Nat.zero_le _⟩ (fun σ257 τ257 H locs h257 hP hS => ?_)
                obtain ⟨rfl, f259, f260, h257⟩ := h257
                obtain ⟨k262, k263, h257⟩ := h257
                have z264 : (σ257 9 1).toInt = (σ222 9 1).toInt := (congrArg Int32.toInt (show σ257 9 1 = (σ222 9 1) from (f260 1 (of_decide_eq_true rfl))))
                have z265 : (σ257 9 0).toInt = (σ 9 0).toInt := (congrArg Int32.toInt (show σ257 9 0 = (σ 9 0) from ((f260 0 (of_decide_eq_true rfl)).trans ((f225 0 (of_decide_eq_true rfl)).trans ((f202 0 (of_decide_eq_true rfl)).trans ((f62 0 (of_decide_eq_true rfl)).trans ((f45 0 (of_decide_eq_true rfl)).trans (f11 0 (of_decide_eq_true rfl)))))))))
                exact by exact lp65 r223 σ257 _ _ ls (by omega) (by omega) (by omega) (by omega) (fun i hi => ((f259 i hi).trans ((f224 i hi).trans (f201 i hi)))) (fun i hi => ((f260 i (imp_43 i hi)).trans ((f225 i hi).trans (f202 i (imp_55 i hi)))))  ⟨Or.inr (Or.inr ⟨by omega, k220, q241, r223.toInt, n243, (by omega)⟩), (fun _ => by omega)⟩ hP hS (lv_sub hl [2, 3, 4, 0, 5] rfl)
        · obtain ⟨q269, k266, k267, k268⟩ := h216
          have q269 := q269.symm
          subst q269
          rw [show (σ55 9 1).toInt = x29.toInt from by omega, show (σ55 9 0).toInt = (σ 9 0).toInt from by omega, show σ55 10 = σ 10 from by rw [f61 10 (of_decide_eq_true rfl), f44 10 (of_decide_eq_true rfl), f10 10 (of_decide_eq_true rfl)]] at k268
          refine lv_if_eq (tgt := 117) hx hb dX7_readOrder_85 (of_decide_eq_true rfl) (fun _ => ?_) (fun c => absurd (of_decide_eq_true rfl) c)
          have d270 : (σ199 9 2).toInt = -1 ∨ 0 ≤ (σ199 9 2).toInt := by omega
          exact by exact lp65 x30 σ199 _ _ ls (by omega) (by omega) (by omega) (by omega) (fun i hi => (f201 i hi)) (fun i hi => (f202 i (imp_55 i hi)))  ⟨Or.elim d270 (fun d => Or.inr (Or.inl ⟨by omega, k268 (by omega), by omega, (by omega), by omega⟩)) (fun d => Or.inl ⟨by omega, by omega⟩), (fun _ => by omega)⟩ hP hS (lv_sub hl [0, 1, 2, 3, 4] rfl)
    refine lv_iload_n hx hb dX7_readOrder_67 rfl (lv_at hl 2 rfl) ?_
    refine lv_if_ne (tgt := 79) hx hb dX7_readOrder_68 (of_decide_eq_true rfl) (fun c271 => ?_) (fun c271 => ?_)
    · have kc271 := jne c271 rfl jz_0
      exact by exact lp53  σ32 _ _ ls (by omega) (by omega) (by omega) (by omega) (fun i hi => rfl) (fun i hi => rfl)   hP hS (lv_sub hl [0, 1, 2, 3, 4] rfl)
    · have kc271 := jeq c271 rfl jz_0
      refine lv_aload_n hx hb dX7_readOrder_71 rfl (lv_at hl 0 rfl) ?_
      refine lv_aload_n hx hb dX7_readOrder_72 rfl (lv_at hl 0 rfl) ?_
      refine va_get (D := D) hx hb hts inlX7 hown hK hP 9 (jc_9 cI cL ad σ32 τ) rfl 1 (of_decide_eq_true rfl) (hts _ kw_13_17) (fun _ h9 => h9) rfl dX7_readOrder_73 ?_
      have I272 : jI92 σ32 := jI92_fr (f45 2 (of_decide_eq_true rfl)) I16
      exact by
       refine jcallVv (As := [.int (σ32 9 1)]) (rest := []) ⟨hx, hb, hml, hown, hts⟩ hK hP hA hS hZ (c_X7_fail_9 l D cI cL ad zz hJ σ32 τ (σ32 9 1) ((σ32 9 1).toInt) rfl I272 (by omega)) cw_RX7_43 (jc_9 cI cL ad σ32 τ) rfl ⟨Nat.le_of_ble_eq_true rfl, Nat.le_of_ble_eq_true rfl⟩ rfl rfl rfl hl.1 rfl (Nat.le_of_ble_eq_true rfl) dX7_readOrder_76 ⟨Nat.zero_le _, Nat.zero_le _⟩ (fun σ273 τ273 H locs h273 hP hS => ?_)
       obtain ⟨rfl, f275, f276, h273⟩ := h273
       obtain ⟨k278, k279, h273⟩ := h273
       have z280 : (σ273 9 1).toInt = (σ32 9 1).toInt := (congrArg Int32.toInt (show σ273 9 1 = (σ32 9 1) from (f276 1 (of_decide_eq_true rfl))))
       have z281 : (σ273 9 0).toInt = (σ 9 0).toInt := (congrArg Int32.toInt (show σ273 9 0 = (σ 9 0) from ((f276 0 (of_decide_eq_true rfl)).trans ((f45 0 (of_decide_eq_true rfl)).trans (f11 0 (of_decide_eq_true rfl))))))
       exact by exact lp53  σ273 _ _ ls (by omega) (by omega) (by omega) (by omega) (fun i hi => (f275 i hi)) (fun i hi => (f276 i hi))   hP hS (lv_sub hl [0, 1, 2, 3, 4] rfl)
  refine lv_iconst (v := 0) hx hb dX7_readOrder_4 (of_decide_eq_true rfl) ?_
  refine lv_istore_n (lv' := [(2, .int 0), (0, .ref (ad 9)), (1, .ref (ad 16))]) hx hb dX7_readOrder_5 rfl hl (of_decide_eq_true rfl) rfl (fun ls hl => ?_)
  refine lv_bipush (v := 8) hx hb dX7_readOrder_6 (of_decide_eq_true rfl) ?_
  refine lv_istore_n (lv' := [(3, .int 8), (2, .int 0), (0, .ref (ad 9)), (1, .ref (ad 16))]) hx hb dX7_readOrder_8 rfl hl (of_decide_eq_true rfl) rfl (fun ls hl => ?_)
  refine lv_iconst (v := 0) hx hb dX7_readOrder_9 (of_decide_eq_true rfl) ?_
  refine lv_istore (lv' := [(4, .int 0), (3, .int 8), (2, .int 0), (0, .ref (ad 9)), (1, .ref (ad 16))]) hx hb dX7_readOrder_10 hl (of_decide_eq_true rfl) rfl (fun ls hl => ?_)
  have lp282 : ∀ (n283 : Nat) (x284 : Int32) (σ285 : Nat → Nat → Int32) (H : Heap) (locs : List Loc) (ls : Array Slot), (-x284.toInt + 8 : Int) < n283 → 0 ≤ x284.toInt → x284.toInt ≤ 8 → 0 ≤ (σ285 9 1).toInt → (σ285 9 1).toInt ≤ (σ285 9 0).toInt → (σ285 9 1).toInt = x284.toInt → (σ285 9 2).toInt = (-1) → (∀ i : Nat, (i < 9 ∨ 9 < i) ∧ (i < 11 ∨ 11 < i) → σ285 i = σ8 i) → (∀ k : Nat, (k < 1 ∨ 1 < k) → σ285 9 k = σ8 9 k) → jI9 σ285 → (jDs (σ 10) (σ 9 0).toInt (x284.toInt) ∧ jDv (σ 10) (σ285 11) (x284.toInt)) → jH D cI cL ad σ285 τ H → va_S (jA ad) s.heap H locs → lv_has ls 6 [(4, .int 0), (3, .int 8), (2, .int x284), (0, .ref (ad 9)), (1, .ref (ad 16))] → W p l e ({ frames := 2, cells := 0, slots := 0, locals := 44 }) s m args below meth c H locs 0 0 Q (F0 m 12 ls []) := by
    intro n283
    induction n283 with
    | zero => intro x284 σ285 H locs ls h287 h288 h289 h290 h291 h292 h293; exact absurd h287 (by omega)
    | succ n283 ihlp282 =>
      intro x284 σ285 H locs ls h287 h288 h289 h290 h291 h292 h293 f294 f295 p296 q297 hP hS hl
      exact by
       obtain ⟨i298, w299, w300⟩ : (0 ≤ (σ285 9 0).toInt ∧ (σ285 9 0).toInt ≤ 80) ∧ (∀ k : Nat, k < 80 → 0 ≤ (σ285 10 k).toInt ∧ (σ285 10 k).toInt ≤ 255) ∧ (∀ k : Nat, k < 8 → 0 ≤ (σ285 11 k).toInt ∧ (σ285 11 k).toInt ≤ 3) := id p296
       have z301 : (σ285 9 0).toInt = (σ 9 0).toInt := (congrArg Int32.toInt (show σ285 9 0 = (σ 9 0) from ((f295 0 (of_decide_eq_true rfl)).trans (f11 0 (of_decide_eq_true rfl)))))
       have z302 : (σ285 9 2).toInt = (-1) := ((congrArg Int32.toInt (show σ285 9 2 = (-1) from ((f295 2 (of_decide_eq_true rfl)).trans m13))).trans jz_m1)
       refine lv_iload_n hx hb dX7_readOrder_12 rfl (lv_at hl 2 rfl) ?_
       refine lv_bipush (v := 8) hx hb dX7_readOrder_13 (of_decide_eq_true rfl) ?_
       refine lv_icmp_ge (tgt := 67) hx hb dX7_readOrder_15 (of_decide_eq_true rfl) (fun c303 => ?_) (fun c303 => ?_)
       · have kc303 := jle c303 jz_8 rfl
         exact by exact lp27 x284 8 0 σ285 _ _ ls (by have h91 := jz_8; have h92 := jz_0; omega) (by have h91 := jz_8; have h92 := jz_0; omega) (by have h91 := jz_8; have h92 := jz_0; omega) (by have h91 := jz_8; have h92 := jz_0; omega) (by have h91 := jz_8; have h92 := jz_0; omega) (by have h91 := jz_8; have h92 := jz_0; omega) (by have h91 := jz_8; have h92 := jz_0; omega) (by have h91 := jz_8; have h92 := jz_0; omega) (by have h91 := jz_8; have h92 := jz_0; omega) (by have h91 := jz_8; have h92 := jz_0; omega) (fun i hi => (f294 i hi)) (fun i hi => (f295 i hi))  p296 ⟨⟨⟨by omega, by omega⟩, q297.1, (by omega)⟩, q297.2⟩ hP hS (lv_sub hl [3, 4, 2, 1, 0] rfl)
       · have kc303 := jnle c303 jz_8 rfl
         refine lv_aload_n hx hb dX7_readOrder_18 rfl (lv_at hl 3 rfl) ?_
         refine jcallV (As := []) (rest := []) ⟨hx, hb, hml, hown, hts⟩ hK hP hA hS hZ (c_X7_sign_9 l D cI cL ad zz hJ σ285 τ p296) cw_RX7_35 (jc_9 cI cL ad σ285 τ) rfl ⟨Nat.le_of_ble_eq_true rfl, Nat.le_of_ble_eq_true rfl⟩ rfl rfl rfl hl.1 rfl (Nat.le_of_ble_eq_true rfl) dX7_readOrder_19 ⟨Nat.zero_le _, Nat.zero_le _⟩ (fun r305 σ304 τ304 H locs h304 hP hS => ?_)
         obtain ⟨⟨rfl, rfl⟩, h304⟩ := h304
         rcases h304 with h306 | h307
         · obtain ⟨q310, k308, k309⟩ := h306
           exact by
            have q311 : r305 = (σ 10 (σ285 9 1).toNatClampNeg) := q310.trans (by rw [f294 10 (of_decide_eq_true rfl), f10 10 (of_decide_eq_true rfl)])
            have q311e : (σ285 10 (σ285 9 1).toNatClampNeg).toInt = (σ 10 (σ285 9 1).toNatClampNeg).toInt := by rw [← q310, ← q311]
            have q311 := q311.symm
            subst q311
            refine lv_bipush (v := 48) hx hb dX7_readOrder_22 (of_decide_eq_true rfl) ?_
            refine lv_icmp_lt (tgt := 67) hx hb dX7_readOrder_24 (of_decide_eq_true rfl) (fun c312 => ?_) (fun c312 => ?_)
            · have kc312 := jlt c312 rfl jz_48
              exact by exact lp27 x284 8 0 σ285 _ _ ls (by have h91 := jz_8; have h92 := jz_0; omega) (by have h91 := jz_8; have h92 := jz_0; omega) (by have h91 := jz_8; have h92 := jz_0; omega) (by have h91 := jz_8; have h92 := jz_0; omega) (by have h91 := jz_8; have h92 := jz_0; omega) (by have h91 := jz_8; have h92 := jz_0; omega) (by have h91 := jz_8; have h92 := jz_0; omega) (by have h91 := jz_8; have h92 := jz_0; omega) (by have h91 := jz_8; have h92 := jz_0; omega) (by have h91 := jz_8; have h92 := jz_0; omega) (fun i hi => (f294 i hi)) (fun i hi => (f295 i hi))  p296 ⟨⟨⟨by omega, by omega⟩, q297.1, (by have i0 := jix (f := σ 10) (show (σ285 9 1).toInt = x284.toInt by omega); omega)⟩, q297.2⟩ hP hS (lv_sub hl [3, 4, 2, 1, 0] rfl)
            · have kc312 := jnlt c312 rfl jz_48
              refine lv_aload_n hx hb dX7_readOrder_27 rfl (lv_at hl 3 rfl) ?_
              refine jcallV (As := []) (rest := []) ⟨hx, hb, hml, hown, hts⟩ hK hP hA hS hZ (c_X7_sign_9 l D cI cL ad zz hJ σ285 τ p296) cw_RX7_35 (jc_9 cI cL ad σ285 τ) rfl ⟨Nat.le_of_ble_eq_true rfl, Nat.le_of_ble_eq_true rfl⟩ rfl rfl rfl hl.1 rfl (Nat.le_of_ble_eq_true rfl) dX7_readOrder_28 ⟨Nat.zero_le _, Nat.zero_le _⟩ (fun r314 σ313 τ313 H locs h313 hP hS => ?_)
              obtain ⟨⟨rfl, rfl⟩, h313⟩ := h313
              rcases h313 with h315 | h316
              · obtain ⟨q319, k317, k318⟩ := h315
                exact by
                 have q320 : r314 = (σ 10 (σ285 9 1).toNatClampNeg) := q319.trans (by rw [f294 10 (of_decide_eq_true rfl), f10 10 (of_decide_eq_true rfl)])
                 have q320e : (σ285 10 (σ285 9 1).toNatClampNeg).toInt = (σ 10 (σ285 9 1).toNatClampNeg).toInt := by rw [← q319, ← q320]
                 have q320 := q320.symm
                 subst q320
                 refine lv_bipush (v := 51) hx hb dX7_readOrder_31 (of_decide_eq_true rfl) ?_
                 refine lv_icmp_gt (tgt := 67) hx hb dX7_readOrder_33 (of_decide_eq_true rfl) (fun c321 => ?_) (fun c321 => ?_)
                 · have kc321 := jlt c321 jz_51 rfl
                   exact by exact lp27 x284 8 0 σ285 _ _ ls (by have h91 := jz_8; have h92 := jz_0; omega) (by have h91 := jz_8; have h92 := jz_0; omega) (by have h91 := jz_8; have h92 := jz_0; omega) (by have h91 := jz_8; have h92 := jz_0; omega) (by have h91 := jz_8; have h92 := jz_0; omega) (by have h91 := jz_8; have h92 := jz_0; omega) (by have h91 := jz_8; have h92 := jz_0; omega) (by have h91 := jz_8; have h92 := jz_0; omega) (by have h91 := jz_8; have h92 := jz_0; omega) (by have h91 := jz_8; have h92 := jz_0; omega) (fun i hi => (f294 i hi)) (fun i hi => (f295 i hi))  p296 ⟨⟨⟨by omega, by omega⟩, q297.1, (by have i0 := jix (f := σ 10) (show (σ285 9 1).toInt = x284.toInt by omega); omega)⟩, q297.2⟩ hP hS (lv_sub hl [3, 4, 2, 1, 0] rfl)
                 · have kc321 := jnlt c321 jz_51 rfl
                   refine lv_aload_n hx hb dX7_readOrder_36 rfl (lv_at hl 3 rfl) ?_
                   refine va_get (D := D) hx hb hts inlX7 hown hK hP 9 (jc_9 cI cL ad σ285 τ) rfl 4 (of_decide_eq_true rfl) (hts _ kw_3_21) (fun _ h9 => h9) rfl dX7_readOrder_37 ?_
                   refine lv_iload_n hx hb dX7_readOrder_40 rfl (lv_at hl 2 rfl) ?_
                   obtain ⟨x322, ex322⟩ : ∃ y : Int32, y = x284 + 1 := ⟨_, rfl⟩
                   exact by
                    have tx322 : x322.toInt = x284.toInt + 1 := (jadd ex322 rfl jz_1 (by omega) (by omega)).trans (by omega)
                    refine lv_iinc (v := x322) (lv' := [(2, .int x322), (4, .int 0), (3, .int 8), (0, .ref (ad 9)), (1, .ref (ad 16))]) hx hb dX7_readOrder_41 hl (k := 2) rfl (by rw [ex322]; rfl) (of_decide_eq_true rfl) rfl (fun ls hl => ?_)
                    refine lv_aload_n hx hb dX7_readOrder_44 rfl (lv_at hl 3 rfl) ?_
                    refine va_get (D := D) hx hb hts inlX7 hown hK hP 9 (jc_9 cI cL ad σ285 τ) rfl 3 (of_decide_eq_true rfl) (hts _ kw_3_20) (fun _ h9 => h9) rfl dX7_readOrder_45 ?_
                    refine lv_aload_n hx hb dX7_readOrder_48 rfl (lv_at hl 3 rfl) ?_
                    refine lv_dup hx hb dX7_readOrder_49 rfl ?_
                    refine va_get (D := D) hx hb hts inlX7 hown hK hP 9 (jc_9 cI cL ad σ285 τ) rfl 1 (of_decide_eq_true rfl) (hts _ kw_13_17) (fun _ h9 => h9) rfl dX7_readOrder_50 ?_
                    refine lv_dup_x1 hx hb dX7_readOrder_53 rfl rfl ?_
                    refine lv_iconst (v := 1) hx hb dX7_readOrder_54 (of_decide_eq_true rfl) ?_
                    exact by
                     have g323 := jrg (rfl : (σ285 9 1).toInt = (σ285 9 1).toInt)
                     refine lv_iadd hx hb dX7_readOrder_55 ?_
                     refine lv_topi (fun x324 ex324 => ?_)
                     have tx324 : x324.toInt = (σ285 9 1).toInt + 1 := (jadd ex324 rfl jz_1 (by omega) (by omega)).trans (by omega)
                     refine jput (ty := .int) hx hb hts inlX7 tyX7 tyX7_ok nmX7 hown hK hP hJ hA hS (jc_9 cI cL ad σ285 τ) rfl (k := 1) (of_decide_eq_true rfl) (Nat.le_of_ble_eq_true rfl) (jp_9_1 cI cL ad σ285 τ x324) (hts _ kw_13_17) (fun _ h9 => h9) rfl (by decide +kernel) rfl rfl dX7_readOrder_56 (fun σ325 H locs eσ325 hP hS => ?_)
                     refine jald hx hb hK hP (jc_10 cI cL ad σ325 τ) (jin rfl (by omega) (by omega)) dX7_readOrder_59 ?_
                     refine jtopr (y := (σ 10 (σ285 9 1).toNatClampNeg)) (by rw [jnp 10 eσ325 (of_decide_eq_true rfl), f294 10 (of_decide_eq_true rfl), f10 10 (of_decide_eq_true rfl)]) ?_
                     refine lv_bipush (v := 48) hx hb dX7_readOrder_60 (of_decide_eq_true rfl) ?_
                     have g326 := jrg (rfl : (σ 10 (σ285 9 1).toNatClampNeg).toInt = (σ 10 (σ285 9 1).toNatClampNeg).toInt)
                     exact by
                      refine lv_isub hx hb dX7_readOrder_62 ?_
                      refine lv_topi (fun x327 ex327 => ?_)
                      have tx327 : x327.toInt = (σ 10 (σ285 9 1).toNatClampNeg).toInt - 48 := (jsub ex327 rfl jz_48 (by omega) (by omega)).trans (by omega)
                      refine jast hx hb hK hP hJ hA hS (jc_11 cI cL ad σ325 τ) (ja_11 cI cL ad σ325 τ _ _) (jin rfl (by omega) (by omega)) dX7_readOrder_63 (fun σ328 H locs eσ328 hP hS => ?_)
                      refine lv_goto (tgt := 12) hx hb dX7_readOrder_64 (of_decide_eq_true rfl) ?_
                      have z329 : (σ328 9 1).toInt = (σ285 9 1).toInt + 1 := ((congrArg Int32.toInt (show σ328 9 1 = x324 from ((congrFun (jnp 9 eσ328 (of_decide_eq_true rfl)) 1).trans (jsp eσ325)))).trans tx324)
                      have z330 : (σ328 9 0).toInt = (σ 9 0).toInt := (congrArg Int32.toInt (show σ328 9 0 = (σ 9 0) from ((congrFun (jnp 9 eσ328 (of_decide_eq_true rfl)) 0).trans ((jkp 0 eσ325 (of_decide_eq_true rfl)).trans ((f295 0 (of_decide_eq_true rfl)).trans (f11 0 (of_decide_eq_true rfl)))))))
                      have z331 : (σ328 9 2).toInt = (-1) := ((congrArg Int32.toInt (show σ328 9 2 = (-1) from ((congrFun (jnp 9 eσ328 (of_decide_eq_true rfl)) 2).trans ((jkp 2 eσ325 (of_decide_eq_true rfl)).trans ((f295 2 (of_decide_eq_true rfl)).trans m13))))).trans jz_m1)
                      have w332 : ∀ k : Nat, k < 80 → 0 ≤ (σ328 10 k).toInt ∧ (σ328 10 k).toInt ≤ 255 := (jrr_fr (jnp 10 eσ328 (of_decide_eq_true rfl)) (jrr_fr (jnp 10 eσ325 (of_decide_eq_true rfl)) w299))
                      exact by
                       have w333 : ∀ k : Nat, k < 8 → 0 ≤ (σ328 11 k).toInt ∧ (σ328 11 k).toInt ≤ 3 := (by rw [eσ328]; exact jrr_up (jrr_fr (jnp 11 eσ325 (of_decide_eq_true rfl)) w300) (by have h9 := tx327; omega) (by have h9 := tx327; omega))
                       have I334 : jI9 σ328 := ⟨(by omega), w332, w333⟩
                       exact by exact ihlp282 x322 σ328 _ _ ls (by have h90 := tx322; omega) (by have h90 := tx322; omega) (by have h90 := tx322; omega) (by have h90 := tx322; omega) (by have h90 := tx322; omega) (by have h90 := tx322; omega) (by have h90 := tx322; omega) (fun i hi => ((jnp i eσ328 (imp_56 i hi)).trans ((jnp i eσ325 (imp_57 i hi)).trans (f294 i hi)))) (fun i hi => ((congrFun (jnp 9 eσ328 (of_decide_eq_true rfl)) i).trans ((jkp i eσ325 (imp_42 i hi)).trans (f295 i hi))))  I334 ⟨jDs.step q297.1 (by omega) (by have i0 := jix (f := σ 10) (show (σ285 9 1).toInt = x284.toInt by omega); exact ⟨by omega, by omega, by omega⟩) (by have h9 := tx322; omega), jDv.step q297.2 (by omega) (by rw [eσ328, jup_row, eσ325, jup_n (of_decide_eq_true rfl), jnc (rfl : x284.toInt = x284.toInt)]) (by omega) (by have i0 := jix (f := σ 10) (show (σ285 9 1).toInt = x284.toInt by omega); have h9 := tx327; omega) (by have h9 := tx322; omega)⟩ hP hS (lv_sub hl [1, 2, 0, 3, 4] rfl)
              · obtain ⟨q336, k335⟩ := h316
                exact absurd (by omega : False) id
         · obtain ⟨q338, k337⟩ := h307
           have q338 := q338.symm
           subst q338
           refine lv_bipush (v := 48) hx hb dX7_readOrder_22 (of_decide_eq_true rfl) ?_
           exact by
            refine lv_icmp_lt (tgt := 67) hx hb dX7_readOrder_24 (of_decide_eq_true rfl) (fun _ => ?_) (fun c => absurd (of_decide_eq_true rfl) c)
            exact by exact lp27 x284 8 0 σ285 _ _ ls (by have h91 := jz_8; have h92 := jz_0; omega) (by have h91 := jz_8; have h92 := jz_0; omega) (by have h91 := jz_8; have h92 := jz_0; omega) (by have h91 := jz_8; have h92 := jz_0; omega) (by have h91 := jz_8; have h92 := jz_0; omega) (by have h91 := jz_8; have h92 := jz_0; omega) (by have h91 := jz_8; have h92 := jz_0; omega) (by have h91 := jz_8; have h92 := jz_0; omega) (by have h91 := jz_8; have h92 := jz_0; omega) (by have h91 := jz_8; have h92 := jz_0; omega) (fun i hi => (f294 i hi)) (fun i hi => (f295 i hi))  p296 ⟨⟨⟨by omega, by omega⟩, q297.1, (by omega)⟩, q297.2⟩ hP hS (lv_sub hl [3, 4, 2, 1, 0] rfl)
  exact by exact lp282 1000000 0 σ8 _ _ ls (by have h90 := jz_0; omega) (by have h90 := jz_0; omega) (by have h90 := jz_0; omega) (by have h90 := jz_0; omega) (by have h90 := jz_0; omega) (by have h90 := jz_0; omega) (by have h90 := jz_0; omega) (fun _ _ => rfl) (fun _ _ => rfl)  I14 ⟨jDs.first (by have h9 := jz_0; omega), jDv.first (by have h9 := jz_0; omega)⟩ hP hS hl
