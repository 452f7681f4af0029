set_option maxHeartbeats 4000000 in
set_option maxRecDepth 100000 in
theorem c_X10_begin_12 (l : Launch) (D : va_G) (cI cL : ClassId) (ad zz : Nat → Nat) (hJ : jD ad) (σ : Nat → Nat → Int32) (τ : Nat → Nat → Int64) (hw13 : ∀ k : Nat, k < 160 → 0 ≤ (σ 13 k).toInt ∧ (σ 13 k).toInt ≤ 30000) (hs_jNd12 : jNd12 σ) : jMv l yX10_begin cX10_begin 1 none ({ frames := 0, cells := 0, slots := 0, locals := 0 }) D cI cL ad zz [.ref (ad 12)] σ τ (fun σ' τ' => τ = τ' ∧ (∀ i : Nat, (i < 12 ∨ 12 < i) → σ' i = σ i) ∧ (∀ k : Nat, (k < 0 ∨ 0 < k) ∧ (k < 1 ∨ 1 < k) → σ' 12 k = σ 12 k) ∧ (σ' 12 0 = 0) ∧ (σ' 12 1 = 0) ∧ (jI12 σ') ∧ (jNd12 σ') ∧ (σ' 13 = σ 13) ∧ True) := by
  refine jMv.of hJ (by decide +kernel) rfl (Nat.le_of_ble_eq_true rfl) ?_
  intro p e s m args below meth c Q ls hC hret hl hP
  obtain ⟨hx, hb, hr, hml, hown, hts, hK, -, hlocks, hZ⟩ := hC
  have hown : s.vm.findClass RX10 = some m.cls := hown
  have hS : va_S (jA ad) s.heap s.heap [] := va_S.rf
  have hA : ∀ q, jA ad q → jA ad q := fun _ h => h
  have hl : lv_has ls 1 [(0, .ref (ad 12))] := hl
  refine lv_aload_n hx hb dX10_begin_0 rfl (lv_at hl 0 rfl) ?_
  refine lv_iconst (v := 0) hx hb dX10_begin_1 (of_decide_eq_true rfl) ?_
  refine jput (ty := .int) hx hb hts inlX10 tyX10 tyX10_ok nmX10 hown hK hP hJ hA hS (jc_12 cI cL ad σ τ) rfl (k := 0) (of_decide_eq_true rfl) (Nat.le_of_ble_eq_true rfl) (jp_12_0 cI cL ad σ τ 0) (hts _ kw_16_20) (fun _ h9 => h9) rfl (by decide +kernel) rfl rfl dX10_begin_2 (fun σ1 H locs eσ1 hP hS => ?_)
  refine lv_aload_n hx hb dX10_begin_5 rfl (lv_at hl 0 rfl) ?_
  refine lv_iconst (v := 0) hx hb dX10_begin_6 (of_decide_eq_true rfl) ?_
  refine jput (ty := .int) hx hb hts inlX10 tyX10 tyX10_ok nmX10 hown hK hP hJ hA hS (jc_12 cI cL ad σ1 τ) rfl (k := 1) (of_decide_eq_true rfl) (Nat.le_of_ble_eq_true rfl) (jp_12_1 cI cL ad σ1 τ 0) (hts _ kw_16_21) (fun _ h9 => h9) rfl (by decide +kernel) rfl rfl dX10_begin_7 (fun σ2 H locs eσ2 hP hS => ?_)
  have z3 : (σ2 12 0).toInt = 0 := ((congrArg Int32.toInt (show σ2 12 0 = 0 from ((jkp 0 eσ2 (of_decide_eq_true rfl)).trans (jsp eσ1)))).trans jz_0)
  exact by
   have p4 : jNd12 σ2 := jNamed.first (by omega)
   have m5 : σ2 12 0 = 0 := ((jkp 0 eσ2 (of_decide_eq_true rfl)).trans (jsp eσ1))
   have m6 : σ2 12 1 = 0 := (jsp eσ2)
   have w7 : ∀ k : Nat, k < 160 → 0 ≤ (σ2 13 k).toInt ∧ (σ2 13 k).toInt ≤ 30000 := (jrr_fr (jnp 13 eσ2 (of_decide_eq_true rfl)) (jrr_fr (jnp 13 eσ1 (of_decide_eq_true rfl)) hw13))
   have I8 : jI12 σ2 := ⟨(by omega), w7⟩
   exact hret σ2 τ _ _ _ _ ⟨rfl, (fun i hi => ((jnp i eσ2 (imp_22 i hi)).trans (jnp i eσ1 (imp_22 i hi)))), (fun i hi => ((jkp i eσ2 (imp_23 i hi)).trans (jkp i eσ1 (imp_24 i hi)))), m5, m6, I8, p4, ((jnp 13 eσ2 (of_decide_eq_true rfl)).trans (jnp 13 eσ1 (of_decide_eq_true rfl))), trivial⟩ hP hS dX10_begin_10
set_option maxHeartbeats 4000000 in
set_option maxRecDepth 100000 in
theorem c_X10_add_12 (l : Launch) (D : va_G) (cI cL : ClassId) (ad zz : Nat → Nat) (hJ : jD ad) (σ : Nat → Nat → Int32) (τ : Nat → Nat → Int64) (a1 : Int32) (A1 : Int) (t1 : a1.toInt = A1) (hI12 : jI12 σ) (hs_jNd12 : jNd12 σ) (hp0 : 0 ≤ A1 ∧ A1 ≤ 30000) (hp1 : (σ 12 0).toInt < 160) : jMv l yX10_add cX10_add 2 none ({ frames := 0, cells := 0, slots := 0, locals := 0 }) D cI cL ad zz [.ref (ad 12), .int a1] σ τ (fun σ' τ' => τ = τ' ∧ (∀ i : Nat, (i < 12 ∨ 13 < i) → σ' i = σ i) ∧ (∀ k : Nat, (k < 0 ∨ 0 < k) ∧ (k < 1 ∨ 1 < k) → σ' 12 k = σ 12 k) ∧ (jI12 σ') ∧ (jNd12 σ') ∧ (σ' 13 = jupd (σ 13) (σ 12 0).toInt.toNat a1) ∧ ((σ' 12 0).toInt = (σ 12 0).toInt + 1) ∧ True) := by
  refine jMv.of hJ (by decide +kernel) rfl (Nat.le_of_ble_eq_true rfl) ?_
  intro p e s m args below meth c Q ls hC hret hl hP
  obtain ⟨hx, hb, hr, hml, hown, hts, hK, -, hlocks, hZ⟩ := hC
  have hown : s.vm.findClass RX10 = some m.cls := hown
  have hS : va_S (jA ad) s.heap s.heap [] := va_S.rf
  have hA : ∀ q, jA ad q → jA ad q := fun _ h => h
  have hl : lv_has ls 2 [(0, .ref (ad 12)), (1, .int a1)] := hl
  have g1 := jrg t1
  obtain ⟨i1, w2⟩ : (0 ≤ (σ 12 0).toInt ∧ (σ 12 0).toInt ≤ 160) ∧ (∀ k : Nat, k < 160 → 0 ≤ (σ 13 k).toInt ∧ (σ 13 k).toInt ≤ 30000) := id hI12
  refine lv_aload_n hx hb dX10_add_0 rfl (lv_at hl 0 rfl) ?_
  refine va_get (D := D) hx hb hts inlX10 hown hK hP 12 (jc_12 cI cL ad σ τ) rfl 0 (of_decide_eq_true rfl) (hts _ kw_16_20) (fun _ h9 => h9) rfl dX10_add_1 ?_
  refine lv_sipush (v := 160) hx hb dX10_add_4 (of_decide_eq_true rfl) ?_
  exact by
   refine lv_icmp_lt (tgt := 11) hx hb dX10_add_7 (of_decide_eq_true rfl) (fun c3 => ?_) (fun c => absurd (jnlt c rfl jz_160) (by omega))
   have kc3 := jlt c3 rfl jz_160
   refine lv_aload_n hx hb dX10_add_11 rfl (lv_at hl 0 rfl) ?_
   refine va_get (D := D) hx hb hts inlX10 hown hK hP 12 (jc_12 cI cL ad σ τ) rfl 2 (of_decide_eq_true rfl) (hts _ kw_4_3) (fun _ h9 => h9) rfl dX10_add_12 ?_
   refine lv_aload_n hx hb dX10_add_15 rfl (lv_at hl 0 rfl) ?_
   refine lv_dup hx hb dX10_add_16 rfl ?_
   refine va_get (D := D) hx hb hts inlX10 hown hK hP 12 (jc_12 cI cL ad σ τ) rfl 0 (of_decide_eq_true rfl) (hts _ kw_16_20) (fun _ h9 => h9) rfl dX10_add_17 ?_
   refine lv_dup_x1 hx hb dX10_add_20 rfl rfl ?_
   refine lv_iconst (v := 1) hx hb dX10_add_21 (of_decide_eq_true rfl) ?_
   have g4 := jrg (rfl : (σ 12 0).toInt = (σ 12 0).toInt)
   refine lv_iadd hx hb dX10_add_22 ?_
   refine lv_topi (fun x5 ex5 => ?_)
   exact by
    have tx5 : x5.toInt = (σ 12 0).toInt + 1 := (jadd ex5 rfl jz_1 (by omega) (by omega)).trans (by omega)
    refine jput (ty := .int) hx hb hts inlX10 tyX10 tyX10_ok nmX10 hown hK hP hJ hA hS (jc_12 cI cL ad σ τ) rfl (k := 0) (of_decide_eq_true rfl) (Nat.le_of_ble_eq_true rfl) (jp_12_0 cI cL ad σ τ x5) (hts _ kw_16_20) (fun _ h9 => h9) rfl (by decide +kernel) rfl rfl dX10_add_23 (fun σ6 H locs eσ6 hP hS => ?_)
    refine lv_iload_n hx hb dX10_add_26 rfl (lv_at hl 1 rfl) ?_
    refine jast hx hb hK hP hJ hA hS (jc_13 cI cL ad σ6 τ) (ja_13 cI cL ad σ6 τ _ _) (jin rfl (by omega) (by omega)) dX10_add_27 (fun σ7 H locs eσ7 hP hS => ?_)
    refine lv_iload_n hx hb dX10_add_28 rfl (lv_at hl 1 rfl) ?_
    refine lv_sipush (v := 10000) hx hb dX10_add_29 (of_decide_eq_true rfl) ?_
    refine lv_icmp_lt (tgt := 58) hx hb dX10_add_32 (of_decide_eq_true rfl) (fun c8 => ?_) (fun c8 => ?_)
    · have kc8 := jlt c8 t1 jz_10000
      have z9 : (σ7 12 0).toInt = (σ 12 0).toInt + 1 := ((congrArg Int32.toInt (show σ7 12 0 = x5 from ((congrFun (jnp 12 eσ7 (of_decide_eq_true rfl)) 0).trans (jsp eσ6)))).trans tx5)
      exact by
       have p10 : jNd12 σ7 := (show jNamed (σ7 13) (σ7 12 0).toInt (σ7 12 1) from jNamed.add hs_jNd12 (show σ7 13 = jupd (σ 13) (σ 12 0).toInt.toNat a1 from by rw [eσ7, jup_row, eσ6, jup_n (of_decide_eq_true rfl), jnc (show (σ 12 0).toInt = (σ 12 0).toInt by omega)]) (by omega) (by omega) (Or.inl ⟨((congrFun (jnp 12 eσ7 (of_decide_eq_true rfl)) 1).trans (jkp 1 eσ6 (of_decide_eq_true rfl))), by omega⟩))
       have w11 : ∀ k : Nat, k < 160 → 0 ≤ (σ7 13 k).toInt ∧ (σ7 13 k).toInt ≤ 30000 := (by rw [eσ7]; exact jrr_up (jrr_fr (jnp 13 eσ6 (of_decide_eq_true rfl)) w2) (by have h9 := t1; omega) (by have h9 := t1; omega))
       have I12 : jI12 σ7 := ⟨(by omega), w11⟩
       exact by exact hret σ7 τ _ _ _ _ ⟨rfl, (fun i hi => ((jnp i eσ7 (imp_25 i hi)).trans (jnp i eσ6 (imp_26 i hi)))), (fun i hi => ((congrFun (jnp 12 eσ7 (of_decide_eq_true rfl)) i).trans (jkp i eσ6 (imp_24 i hi)))), I12, p10, (by rw [eσ7, jup_row, eσ6, jup_n (of_decide_eq_true rfl), jnc (show (σ 12 0).toInt = (σ 12 0).toInt by omega)]), (by omega), trivial⟩ hP hS dX10_add_58
    · have kc8 := jnlt c8 t1 jz_10000
      refine lv_iload_n hx hb dX10_add_35 rfl (lv_at hl 1 rfl) ?_
      refine lv_sipush (v := 10008) hx hb dX10_add_36 (of_decide_eq_true rfl) ?_
      refine lv_icmp_ge (tgt := 58) hx hb dX10_add_39 (of_decide_eq_true rfl) (fun c13 => ?_) (fun c13 => ?_)
      · have kc13 := jle c13 jz_10008 t1
        exact by
         have z14 : (σ7 12 0).toInt = (σ 12 0).toInt + 1 := ((congrArg Int32.toInt (show σ7 12 0 = x5 from ((congrFun (jnp 12 eσ7 (of_decide_eq_true rfl)) 0).trans (jsp eσ6)))).trans tx5)
         have p15 : jNd12 σ7 := (show jNamed (σ7 13) (σ7 12 0).toInt (σ7 12 1) from jNamed.add hs_jNd12 (show σ7 13 = jupd (σ 13) (σ 12 0).toInt.toNat a1 from by rw [eσ7, jup_row, eσ6, jup_n (of_decide_eq_true rfl), jnc (show (σ 12 0).toInt = (σ 12 0).toInt by omega)]) (by omega) (by omega) (Or.inl ⟨((congrFun (jnp 12 eσ7 (of_decide_eq_true rfl)) 1).trans (jkp 1 eσ6 (of_decide_eq_true rfl))), by omega⟩))
         have w16 : ∀ k : Nat, k < 160 → 0 ≤ (σ7 13 k).toInt ∧ (σ7 13 k).toInt ≤ 30000 := (by rw [eσ7]; exact jrr_up (jrr_fr (jnp 13 eσ6 (of_decide_eq_true rfl)) w2) (by have h9 := t1; omega) (by have h9 := t1; omega))
         have I17 : jI12 σ7 := ⟨(by omega), w16⟩
         exact by exact hret σ7 τ _ _ _ _ ⟨rfl, (fun i hi => ((jnp i eσ7 (imp_25 i hi)).trans (jnp i eσ6 (imp_26 i hi)))), (fun i hi => ((congrFun (jnp 12 eσ7 (of_decide_eq_true rfl)) i).trans (jkp i eσ6 (imp_24 i hi)))), I17, p15, (by rw [eσ7, jup_row, eσ6, jup_n (of_decide_eq_true rfl), jnc (show (σ 12 0).toInt = (σ 12 0).toInt by omega)]), (by omega), trivial⟩ hP hS dX10_add_58
      · have kc13 := jnle c13 jz_10008 t1
        refine lv_aload_n hx hb dX10_add_42 rfl (lv_at hl 0 rfl) ?_
        refine lv_dup hx hb dX10_add_43 rfl ?_
        refine va_get (D := D) hx hb hts inlX10 hown hK hP 12 (jc_12 cI cL ad σ7 τ) rfl 1 (of_decide_eq_true rfl) (hts _ kw_16_21) (fun _ h9 => h9) rfl dX10_add_44 ?_
        exact by
         have m18 : σ7 12 1 = (σ 12 1) := ((congrFun (jnp 12 eσ7 (of_decide_eq_true rfl)) 1).trans (jkp 1 eσ6 (of_decide_eq_true rfl)))
         refine jtopr m18 ?_
         refine lv_iconst (v := 1) hx hb dX10_add_47 (of_decide_eq_true rfl) ?_
         refine lv_iload_n hx hb dX10_add_48 rfl (lv_at hl 1 rfl) ?_
         refine lv_sipush (v := 10000) hx hb dX10_add_49 (of_decide_eq_true rfl) ?_
         refine lv_isub hx hb dX10_add_52 ?_
         refine lv_topi (fun x19 ex19 => ?_)
         have tx19 : x19.toInt = A1 - 10000 := (jsub ex19 t1 jz_10000 (by omega) (by omega)).trans (by omega)
         refine lv_ishl hx hb dX10_add_53 ?_
         exact by
          refine lv_topi (fun x20 ex20 => ?_)
          have gx20 := jrg (rfl : x20.toInt = x20.toInt)
          refine lv_ior hx hb dX10_add_54 ?_
          refine lv_topi (fun x21 ex21 => ?_)
          have gx21 := jrg (rfl : x21.toInt = x21.toInt)
          refine jput (ty := .int) hx hb hts inlX10 tyX10 tyX10_ok nmX10 hown hK hP hJ hA hS (jc_12 cI cL ad σ7 τ) rfl (k := 1) (of_decide_eq_true rfl) (Nat.le_of_ble_eq_true rfl) (jp_12_1 cI cL ad σ7 τ x21) (hts _ kw_16_21) (fun _ h9 => h9) rfl (by decide +kernel) rfl rfl dX10_add_55 (fun σ22 H locs eσ22 hP hS => ?_)
          have z23 : (σ22 12 0).toInt = (σ 12 0).toInt + 1 := ((congrArg Int32.toInt (show σ22 12 0 = x5 from ((jkp 0 eσ22 (of_decide_eq_true rfl)).trans ((congrFun (jnp 12 eσ7 (of_decide_eq_true rfl)) 0).trans (jsp eσ6))))).trans tx5)
          have p24 : jNd12 σ22 := (show jNamed (σ22 13) (σ22 12 0).toInt (σ22 12 1) from jNamed.add hs_jNd12 (show σ22 13 = jupd (σ 13) (σ 12 0).toInt.toNat a1 from by rw [eσ22, jup_n (of_decide_eq_true rfl), eσ7, jup_row, eσ6, jup_n (of_decide_eq_true rfl), jnc (show (σ 12 0).toInt = (σ 12 0).toInt by omega)]) (by omega) (by omega) (Or.inr ⟨x19, (by rw [show σ22 12 1 = x21 from (jsp eσ22), ex21, ex20]), (by omega), by omega, by omega⟩))
          have w25 : ∀ k : Nat, k < 160 → 0 ≤ (σ22 13 k).toInt ∧ (σ22 13 k).toInt ≤ 30000 := (jrr_fr (jnp 13 eσ22 (of_decide_eq_true rfl)) (by rw [eσ7]; exact jrr_up (jrr_fr (jnp 13 eσ6 (of_decide_eq_true rfl)) w2) (by have h9 := t1; omega) (by have h9 := t1; omega)))
          exact by
           have I26 : jI12 σ22 := ⟨(by omega), w25⟩
           exact by exact hret σ22 τ _ _ _ _ ⟨rfl, (fun i hi => ((jnp i eσ22 (imp_26 i hi)).trans ((jnp i eσ7 (imp_25 i hi)).trans (jnp i eσ6 (imp_26 i hi))))), (fun i hi => ((jkp i eσ22 (imp_23 i hi)).trans ((congrFun (jnp 12 eσ7 (of_decide_eq_true rfl)) i).trans (jkp i eσ6 (imp_24 i hi))))), I26, p24, (by rw [eσ22, jup_n (of_decide_eq_true rfl), eσ7, jup_row, eσ6, jup_n (of_decide_eq_true rfl), jnc (show (σ 12 0).toInt = (σ 12 0).toInt by omega)]), (by omega), trivial⟩ hP hS dX10_add_58
set_option maxHeartbeats 4000000 in
set_option maxRecDepth 100000 in
theorem c_X10_copyFrom_18 (l : Launch) (D : va_G) (cI cL : ClassId) (ad zz : Nat → Nat) (hJ : jD ad) (σ : Nat → Nat → Int32) (τ : Nat → Nat → Int64) (hI12 : jI12 σ) (hI18 : jI18 σ) : jMv l yX10_copyFrom cX10_copyFrom 2 none ({ frames := 1, cells := 0, slots := 0, locals := 40 }) D cI cL ad zz [.ref (ad 18), .ref (ad 12)] σ τ (fun σ' τ' => τ = τ' ∧ (∀ i : Nat, (i < 18 ∨ 19 < i) → σ' i = σ i) ∧ (∀ k : Nat, (k < 0 ∨ 0 < k) ∧ (k < 1 ∨ 1 < k) → σ' 18 k = σ 18 k) ∧ (jI18 σ') ∧ ((∀ j : Nat, (j : Int) < (σ 12 0).toInt → σ' 19 j = σ 13 j) ∧ (σ' 18 0).toInt = (σ 12 0).toInt ∧ σ' 18 1 = σ 12 1) ∧ True) := by
  refine jMv.of hJ (by decide +kernel) rfl (Nat.le_of_ble_eq_true rfl) ?_
  intro p e s m args below meth c Q ls hC hret hl hP
  obtain ⟨hx, hb, hr, hml, hown, hts, hK, -, hlocks, hZ⟩ := hC
  have hown : s.vm.findClass RX10 = some m.cls := hown
  have hS : va_S (jA ad) s.heap s.heap [] := va_S.rf
  have hA : ∀ q, jA ad q → jA ad q := fun _ h => h
  have hl : lv_has ls 2 [(0, .ref (ad 18)), (1, .ref (ad 12))] := hl
  obtain ⟨i1, w2⟩ : (0 ≤ (σ 12 0).toInt ∧ (σ 12 0).toInt ≤ 160) ∧ (∀ k : Nat, k < 160 → 0 ≤ (σ 13 k).toInt ∧ (σ 13 k).toInt ≤ 30000) := id hI12
  obtain ⟨i3, w4⟩ : (0 ≤ (σ 18 0).toInt ∧ (σ 18 0).toInt ≤ 160) ∧ (∀ k : Nat, k < 160 → 0 ≤ (σ 19 k).toInt ∧ (σ 19 k).toInt ≤ 30000) := id hI18
  refine lv_aload_n hx hb dX10_copyFrom_0 rfl (lv_at hl 0 rfl) ?_
  refine lv_aload_n hx hb dX10_copyFrom_1 rfl (lv_at hl 1 rfl) ?_
  refine va_get (D := D) hx hb hts inlX10 hown hK hP 12 (jc_12 cI cL ad σ τ) rfl 0 (of_decide_eq_true rfl) (hts _ kw_16_20) (fun _ h9 => h9) rfl dX10_copyFrom_2 ?_
  refine jput (ty := .int) hx hb hts inlX10 tyX10 tyX10_ok nmX10 hown hK hP hJ hA hS (jc_18 cI cL ad σ τ) rfl (k := 0) (of_decide_eq_true rfl) (Nat.le_of_ble_eq_true rfl) (jp_18_0 cI cL ad σ τ (σ 12 0)) (hts _ kw_16_20) (fun _ h9 => h9) rfl (by decide +kernel) rfl rfl dX10_copyFrom_5 (fun σ5 H locs eσ5 hP hS => ?_)
  refine lv_aload_n hx hb dX10_copyFrom_8 rfl (lv_at hl 0 rfl) ?_
  refine lv_aload_n hx hb dX10_copyFrom_9 rfl (lv_at hl 1 rfl) ?_
  refine va_get (D := D) hx hb hts inlX10 hown hK hP 12 (jc_12 cI cL ad σ5 τ) rfl 1 (of_decide_eq_true rfl) (hts _ kw_16_21) (fun _ h9 => h9) rfl dX10_copyFrom_10 ?_
  have m6 : σ5 12 1 = (σ 12 1) := (congrFun (jnp 12 eσ5 (of_decide_eq_true rfl)) 1)
  refine jtopr m6 ?_
  refine jput (ty := .int) hx hb hts inlX10 tyX10 tyX10_ok nmX10 hown hK hP hJ hA hS (jc_18 cI cL ad σ5 τ) rfl (k := 1) (of_decide_eq_true rfl) (Nat.le_of_ble_eq_true rfl) (jp_18_1 cI cL ad σ5 τ (σ 12 1)) (hts _ kw_16_21) (fun _ h9 => h9) rfl (by decide +kernel) rfl rfl dX10_copyFrom_13 (fun σ7 H locs eσ7 hP hS => ?_)
  refine lv_aload_n hx hb dX10_copyFrom_16 rfl (lv_at hl 1 rfl) ?_
  refine va_get (D := D) hx hb hts inlX10 hown hK hP 12 (jc_12 cI cL ad σ7 τ) rfl 2 (of_decide_eq_true rfl) (hts _ kw_4_3) (fun _ h9 => h9) rfl dX10_copyFrom_17 ?_
  refine lv_iconst (v := 0) hx hb dX10_copyFrom_20 (of_decide_eq_true rfl) ?_
  refine lv_aload_n hx hb dX10_copyFrom_21 rfl (lv_at hl 0 rfl) ?_
  refine va_get (D := D) hx hb hts inlX10 hown hK hP 18 (jc_18 cI cL ad σ7 τ) rfl 2 (of_decide_eq_true rfl) (hts _ kw_4_3) (fun _ h9 => h9) rfl dX10_copyFrom_22 ?_
  refine lv_iconst (v := 0) hx hb dX10_copyFrom_25 (of_decide_eq_true rfl) ?_
  refine lv_aload_n hx hb dX10_copyFrom_26 rfl (lv_at hl 0 rfl) ?_
  refine va_get (D := D) hx hb hts inlX10 hown hK hP 18 (jc_18 cI cL ad σ7 τ) rfl 0 (of_decide_eq_true rfl) (hts _ kw_16_20) (fun _ h9 => h9) rfl dX10_copyFrom_27 ?_
  have m8 : σ7 18 0 = (σ 12 0) := ((jkp 0 eσ7 (of_decide_eq_true rfl)).trans (jsp eσ5))
  refine jtopr m8 ?_
  exact by
   refine jcpyI (q0 := 13) (q1 := 19) hx hb (hml.trans hl.1.symm) hown (hts _ kw_18_2) (hts _ kw_13_23) (hts _ kw_14_0) (hts _ kw_14_1) hK hP hJ hA hS (jc_13 cI cL ad σ7 τ) (jc_19 cI cL ad σ7 τ) (fun _ => rfl) jz_0 jz_0 rfl (by omega) (by omega) (by omega) (by omega) (by omega) (Nat.le_of_ble_eq_true rfl) (Nat.le_of_ble_eq_true rfl) dX10_copyFrom_30 (fun σ9 H locs eσ9 hP hS => ?_)
   have w10 : ∀ k : Nat, k < 160 → 0 ≤ (σ7 13 k).toInt ∧ (σ7 13 k).toInt ≤ 30000 := (jrr_fr (jnp 13 eσ7 (of_decide_eq_true rfl)) (jrr_fr (jnp 13 eσ5 (of_decide_eq_true rfl)) w2))
   have w11 : ∀ k : Nat, k < 160 → 0 ≤ (σ7 19 k).toInt ∧ (σ7 19 k).toInt ≤ 30000 := (jrr_fr (jnp 19 eσ7 (of_decide_eq_true rfl)) (jrr_fr (jnp 19 eσ5 (of_decide_eq_true rfl)) w4))
   have f12 : (∀ i : Nat, (i < 19 ∨ 19 < i) → σ9 i = σ7 i) := by rw [eσ9]; exact jrow_n
   have w13 : ∀ k : Nat, k < 160 → 0 ≤ (σ9 19 k).toInt ∧ (σ9 19 k).toInt ≤ 30000 := by rw [eσ9]; exact jrow_rr w10 w11 jz_0 rfl (n0 := 160) (by omega) (by omega) (by omega)
   have z14 : (σ9 18 0).toInt = (σ 12 0).toInt := (congrArg Int32.toInt (show σ9 18 0 = (σ 12 0) from ((congrFun (f12 18 (of_decide_eq_true rfl)) 0).trans m8)))
   have I15 : jI18 σ9 := ⟨(by omega), w13⟩
   have z16 : (σ9 12 0).toInt = (σ 12 0).toInt := (congrArg Int32.toInt (show σ9 12 0 = (σ 12 0) from ((congrFun (f12 12 (of_decide_eq_true rfl)) 0).trans ((congrFun (jnp 12 eσ7 (of_decide_eq_true rfl)) 0).trans (congrFun (jnp 12 eσ5 (of_decide_eq_true rfl)) 0)))))
   exact hret σ9 τ _ _ _ _ ⟨rfl, (fun i hi => ((f12 i (imp_27 i hi)).trans ((jnp i eσ7 (imp_28 i hi)).trans (jnp i eσ5 (imp_28 i hi))))), (fun i hi => ((congrFun (f12 18 (of_decide_eq_true rfl)) i).trans ((jkp i eσ7 (imp_23 i hi)).trans (jkp i eσ5 (imp_24 i hi))))), I15, ⟨(fun j hj => by rw [congrFun eσ9 19, jrow_s, jcpy0 rfl rfl (rfl : (σ 12 0).toInt = (σ 12 0).toInt) j hj, show σ7 13 = σ 13 from ((jnp 13 eσ7 (of_decide_eq_true rfl)).trans (jnp 13 eσ5 (of_decide_eq_true rfl)))]), by omega, ((congrFun (f12 18 (of_decide_eq_true rfl)) 1).trans (jsp eσ7))⟩, trivial⟩ hP hS dX10_copyFrom_33
set_option maxHeartbeats 4000000 in
set_option maxRecDepth 100000 in
theorem c_X10_say_18 (l : Launch) (D : va_G) (cI cL : ClassId) (ad zz : Nat → Nat) (hJ : jD ad) (σ : Nat → Nat → Int32) (τ : Nat → Nat → Int64) (a1 : Int32) (A1 : Int) (t1 : a1.toInt = A1) (a2 : Int32) (A2 : Int) (t2 : a2.toInt = A2) (a3 : Int32) (A3 : Int) (t3 : a3.toInt = A3) (a4 : Int32) (A4 : Int) (t4 : a4.toInt = A4) (a5 : Int32) (A5 : Int) (t5 : a5.toInt = A5) (a6 : Int32) (A6 : Int) (t6 : a6.toInt = A6) : jMv l yX10_say cX10_say 7 none ({ frames := 0, cells := 0, slots := 0, locals := 0 }) D cI cL ad zz [.ref (ad 18), .int a1, .int a2, .int a3, .int a4, .int a5, .int a6] σ τ (fun σ' τ' => τ = τ' ∧ (∀ i : Nat, (i < 20 ∨ 20 < i) → σ' i = σ i) ∧ (σ' 20 0 = a1 ∧ σ' 20 1 = a2 ∧ σ' 20 2 = a3 ∧ σ' 20 3 = a4 ∧ σ' 20 4 = a5 ∧ σ' 20 5 = a6 ∧ σ' 20 6 = σ 20 6 ∧ σ' 20 7 = σ 20 7) ∧ True) := by
  refine jMv.of hJ (by decide +kernel) rfl (Nat.le_of_ble_eq_true rfl) ?_
  intro p e s m args below meth c Q ls hC hret hl hP
  obtain ⟨hx, hb, hr, hml, hown, hts, hK, -, hlocks, hZ⟩ := hC
  have hown : s.vm.findClass RX10 = some m.cls := hown
  have hS : va_S (jA ad) s.heap s.heap [] := va_S.rf
  have hA : ∀ q, jA ad q → jA ad q := fun _ h => h
  have hl : lv_has ls 7 [(0, .ref (ad 18)), (1, .int a1), (2, .int a2), (3, .int a3), (4, .int a4), (5, .int a5), (6, .int a6)] := hl
  have g1 := jrg t1
  have g2 := jrg t2
  have g3 := jrg t3
  have g4 := jrg t4
  have g5 := jrg t5
  have g6 := jrg t6
  refine lv_aload_n hx hb dX10_say_0 rfl (lv_at hl 0 rfl) ?_
  refine va_get (D := D) hx hb hts inlX10 hown hK hP 18 (jc_18 cI cL ad σ τ) rfl 3 (of_decide_eq_true rfl) (hts _ kw_4_4) (fun _ h9 => h9) rfl dX10_say_1 ?_
  refine lv_iconst (v := 0) hx hb dX10_say_4 (of_decide_eq_true rfl) ?_
  refine lv_iload_n hx hb dX10_say_5 rfl (lv_at hl 1 rfl) ?_
  exact by
   refine jast hx hb hK hP hJ hA hS (jc_20 cI cL ad σ τ) (ja_20 cI cL ad σ τ _ _) (jin jz_0 (by omega) (by omega)) dX10_say_6 (fun σ1 H locs eσ1 hP hS => ?_)
   have eσ1 : σ1 = jup σ 20 0 a1 := eσ1
   refine lv_aload_n hx hb dX10_say_7 rfl (lv_at hl 0 rfl) ?_
   refine va_get (D := D) hx hb hts inlX10 hown hK hP 18 (jc_18 cI cL ad σ1 τ) rfl 3 (of_decide_eq_true rfl) (hts _ kw_4_4) (fun _ h9 => h9) rfl dX10_say_8 ?_
   refine lv_iconst (v := 1) hx hb dX10_say_11 (of_decide_eq_true rfl) ?_
   refine lv_iload_n hx hb dX10_say_12 rfl (lv_at hl 2 rfl) ?_
   refine jast hx hb hK hP hJ hA hS (jc_20 cI cL ad σ1 τ) (ja_20 cI cL ad σ1 τ _ _) (jin jz_1 (by omega) (by omega)) dX10_say_13 (fun σ2 H locs eσ2 hP hS => ?_)
   have eσ2 : σ2 = jup σ1 20 1 a2 := eσ2
   refine lv_aload_n hx hb dX10_say_14 rfl (lv_at hl 0 rfl) ?_
   exact by
    refine va_get (D := D) hx hb hts inlX10 hown hK hP 18 (jc_18 cI cL ad σ2 τ) rfl 3 (of_decide_eq_true rfl) (hts _ kw_4_4) (fun _ h9 => h9) rfl dX10_say_15 ?_
    refine lv_iconst (v := 2) hx hb dX10_say_18 (of_decide_eq_true rfl) ?_
    refine lv_iload_n hx hb dX10_say_19 rfl (lv_at hl 3 rfl) ?_
    refine jast hx hb hK hP hJ hA hS (jc_20 cI cL ad σ2 τ) (ja_20 cI cL ad σ2 τ _ _) (jin jz_2 (by omega) (by omega)) dX10_say_20 (fun σ3 H locs eσ3 hP hS => ?_)
    have eσ3 : σ3 = jup σ2 20 2 a3 := eσ3
    refine lv_aload_n hx hb dX10_say_21 rfl (lv_at hl 0 rfl) ?_
    refine va_get (D := D) hx hb hts inlX10 hown hK hP 18 (jc_18 cI cL ad σ3 τ) rfl 3 (of_decide_eq_true rfl) (hts _ kw_4_4) (fun _ h9 => h9) rfl dX10_say_22 ?_
    refine lv_iconst (v := 3) hx hb dX10_say_25 (of_decide_eq_true rfl) ?_
    refine lv_iload hx hb dX10_say_26 (lv_at hl 4 rfl) ?_
    exact by
     refine jast hx hb hK hP hJ hA hS (jc_20 cI cL ad σ3 τ) (ja_20 cI cL ad σ3 τ _ _) (jin jz_3 (by omega) (by omega)) dX10_say_28 (fun σ4 H locs eσ4 hP hS => ?_)
     have eσ4 : σ4 = jup σ3 20 3 a4 := eσ4
     refine lv_aload_n hx hb dX10_say_29 rfl (lv_at hl 0 rfl) ?_
     refine va_get (D := D) hx hb hts inlX10 hown hK hP 18 (jc_18 cI cL ad σ4 τ) rfl 3 (of_decide_eq_true rfl) (hts _ kw_4_4) (fun _ h9 => h9) rfl dX10_say_30 ?_
     refine lv_iconst (v := 4) hx hb dX10_say_33 (of_decide_eq_true rfl) ?_
     refine lv_iload hx hb dX10_say_34 (lv_at hl 5 rfl) ?_
     refine jast hx hb hK hP hJ hA hS (jc_20 cI cL ad σ4 τ) (ja_20 cI cL ad σ4 τ _ _) (jin jz_4 (by omega) (by omega)) dX10_say_36 (fun σ5 H locs eσ5 hP hS => ?_)
     have eσ5 : σ5 = jup σ4 20 4 a5 := eσ5
     refine lv_aload_n hx hb dX10_say_37 rfl (lv_at hl 0 rfl) ?_
     exact by
      refine va_get (D := D) hx hb hts inlX10 hown hK hP 18 (jc_18 cI cL ad σ5 τ) rfl 3 (of_decide_eq_true rfl) (hts _ kw_4_4) (fun _ h9 => h9) rfl dX10_say_38 ?_
      refine lv_iconst (v := 5) hx hb dX10_say_41 (of_decide_eq_true rfl) ?_
      refine lv_iload hx hb dX10_say_42 (lv_at hl 6 rfl) ?_
      refine jast hx hb hK hP hJ hA hS (jc_20 cI cL ad σ5 τ) (ja_20 cI cL ad σ5 τ _ _) (jin jz_5 (by omega) (by omega)) dX10_say_44 (fun σ6 H locs eσ6 hP hS => ?_)
      have eσ6 : σ6 = jup σ5 20 5 a6 := eσ6
      exact hret σ6 τ _ _ _ _ ⟨rfl, (fun i hi => ((jnp i eσ6 (imp_29 i hi)).trans ((jnp i eσ5 (imp_29 i hi)).trans ((jnp i eσ4 (imp_29 i hi)).trans ((jnp i eσ3 (imp_29 i hi)).trans ((jnp i eσ2 (imp_29 i hi)).trans (jnp i eσ1 (imp_29 i hi)))))))), ⟨((jkp 0 eσ6 (of_decide_eq_true rfl)).trans ((jkp 0 eσ5 (of_decide_eq_true rfl)).trans ((jkp 0 eσ4 (of_decide_eq_true rfl)).trans ((jkp 0 eσ3 (of_decide_eq_true rfl)).trans ((jkp 0 eσ2 (of_decide_eq_true rfl)).trans (jsp eσ1)))))), ((jkp 1 eσ6 (of_decide_eq_true rfl)).trans ((jkp 1 eσ5 (of_decide_eq_true rfl)).trans ((jkp 1 eσ4 (of_decide_eq_true rfl)).trans ((jkp 1 eσ3 (of_decide_eq_true rfl)).trans (jsp eσ2))))), ((jkp 2 eσ6 (of_decide_eq_true rfl)).trans ((jkp 2 eσ5 (of_decide_eq_true rfl)).trans ((jkp 2 eσ4 (of_decide_eq_true rfl)).trans (jsp eσ3)))), ((jkp 3 eσ6 (of_decide_eq_true rfl)).trans ((jkp 3 eσ5 (of_decide_eq_true rfl)).trans (jsp eσ4))), ((jkp 4 eσ6 (of_decide_eq_true rfl)).trans (jsp eσ5)), (jsp eσ6), ((jkp 6 eσ6 (of_decide_eq_true rfl)).trans ((jkp 6 eσ5 (of_decide_eq_true rfl)).trans ((jkp 6 eσ4 (of_decide_eq_true rfl)).trans ((jkp 6 eσ3 (of_decide_eq_true rfl)).trans ((jkp 6 eσ2 (of_decide_eq_true rfl)).trans (jkp 6 eσ1 (of_decide_eq_true rfl))))))), ((jkp 7 eσ6 (of_decide_eq_true rfl)).trans ((jkp 7 eσ5 (of_decide_eq_true rfl)).trans ((jkp 7 eσ4 (of_decide_eq_true rfl)).trans ((jkp 7 eσ3 (of_decide_eq_true rfl)).trans ((jkp 7 eσ2 (of_decide_eq_true rfl)).trans (jkp 7 eσ1 (of_decide_eq_true rfl)))))))⟩, trivial⟩ hP hS dX10_say_45
set_option maxHeartbeats 4000000 in
set_option maxRecDepth 100000 in
theorem c_X10_sayChance_18 (l : Launch) (D : va_G) (cI cL : ClassId) (ad zz : Nat → Nat) (hJ : jD ad) (σ : Nat → Nat → Int32) (τ : Nat → Nat → Int64) (a1 : Int32) (A1 : Int) (t1 : a1.toInt = A1) (a2 : Int32) (A2 : Int) (t2 : a2.toInt = A2) : jMv l yX10_sayChance cX10_sayChance 3 none ({ frames := 0, cells := 0, slots := 0, locals := 0 }) D cI cL ad zz [.ref (ad 18), .int a1, .int a2] σ τ (fun σ' τ' => τ = τ' ∧ (∀ i : Nat, (i < 20 ∨ 20 < i) → σ' i = σ i) ∧ True) := by
  refine jMv.of hJ (by decide +kernel) rfl (Nat.le_of_ble_eq_true rfl) ?_
  intro p e s m args below meth c Q ls hC hret hl hP
  obtain ⟨hx, hb, hr, hml, hown, hts, hK, -, hlocks, hZ⟩ := hC
  have hown : s.vm.findClass RX10 = some m.cls := hown
  have hS : va_S (jA ad) s.heap s.heap [] := va_S.rf
  have hA : ∀ q, jA ad q → jA ad q := fun _ h => h
  have hl : lv_has ls 3 [(0, .ref (ad 18)), (1, .int a1), (2, .int a2)] := hl
  have g1 := jrg t1
  have g2 := jrg t2
  refine lv_aload_n hx hb dX10_sayChance_0 rfl (lv_at hl 0 rfl) ?_
  refine va_get (D := D) hx hb hts inlX10 hown hK hP 18 (jc_18 cI cL ad σ τ) rfl 3 (of_decide_eq_true rfl) (hts _ kw_4_4) (fun _ h9 => h9) rfl dX10_sayChance_1 ?_
  refine lv_bipush (v := 6) hx hb dX10_sayChance_4 (of_decide_eq_true rfl) ?_
  refine lv_iload_n hx hb dX10_sayChance_6 rfl (lv_at hl 1 rfl) ?_
  exact by
   refine jast hx hb hK hP hJ hA hS (jc_20 cI cL ad σ τ) (ja_20 cI cL ad σ τ _ _) (jin jz_6 (by omega) (by omega)) dX10_sayChance_7 (fun σ1 H locs eσ1 hP hS => ?_)
   have eσ1 : σ1 = jup σ 20 6 a1 := eσ1
   refine lv_aload_n hx hb dX10_sayChance_8 rfl (lv_at hl 0 rfl) ?_
   refine va_get (D := D) hx hb hts inlX10 hown hK hP 18 (jc_18 cI cL ad σ1 τ) rfl 3 (of_decide_eq_true rfl) (hts _ kw_4_4) (fun _ h9 => h9) rfl dX10_sayChance_9 ?_
   refine lv_bipush (v := 7) hx hb dX10_sayChance_12 (of_decide_eq_true rfl) ?_
   refine lv_iload_n hx hb dX10_sayChance_14 rfl (lv_at hl 2 rfl) ?_
   refine jast hx hb hK hP hJ hA hS (jc_20 cI cL ad σ1 τ) (ja_20 cI cL ad σ1 τ _ _) (jin jz_7 (by omega) (by omega)) dX10_sayChance_15 (fun σ2 H locs eσ2 hP hS => ?_)
   have eσ2 : σ2 = jup σ1 20 7 a2 := eσ2
   exact hret σ2 τ _ _ _ _ ⟨rfl, (fun i hi => ((jnp i eσ2 (imp_29 i hi)).trans (jnp i eσ1 (imp_29 i hi)))), trivial⟩ hP hS dX10_sayChance_16
set_option maxHeartbeats 4000000 in
set_option maxRecDepth 100000 in
theorem c_X10_copyFrom_22 (l : Launch) (D : va_G) (cI cL : ClassId) (ad zz : Nat → Nat) (hJ : jD ad) (σ : Nat → Nat → Int32) (τ : Nat → Nat → Int64) (hI12 : jI12 σ) (hI22 : jI22 σ) : jMv l yX10_copyFrom cX10_copyFrom 2 none ({ frames := 1, cells := 0, slots := 0, locals := 40 }) D cI cL ad zz [.ref (ad 22), .ref (ad 12)] σ τ (fun σ' τ' => τ = τ' ∧ (∀ i : Nat, (i < 22 ∨ 23 < i) → σ' i = σ i) ∧ (∀ k : Nat, (k < 0 ∨ 0 < k) ∧ (k < 1 ∨ 1 < k) → σ' 22 k = σ 22 k) ∧ (jI22 σ') ∧ ((∀ j : Nat, (j : Int) < (σ 12 0).toInt → σ' 23 j = σ 13 j) ∧ (σ' 22 0).toInt = (σ 12 0).toInt ∧ σ' 22 1 = σ 12 1) ∧ True) := by
  refine jMv.of hJ (by decide +kernel) rfl (Nat.le_of_ble_eq_true rfl) ?_
  intro p e s m args below meth c Q ls hC hret hl hP
  obtain ⟨hx, hb, hr, hml, hown, hts, hK, -, hlocks, hZ⟩ := hC
  have hown : s.vm.findClass RX10 = some m.cls := hown
  have hS : va_S (jA ad) s.heap s.heap [] := va_S.rf
  have hA : ∀ q, jA ad q → jA ad q := fun _ h => h
  have hl : lv_has ls 2 [(0, .ref (ad 22)), (1, .ref (ad 12))] := hl
  obtain ⟨i1, w2⟩ : (0 ≤ (σ 12 0).toInt ∧ (σ 12 0).toInt ≤ 160) ∧ (∀ k : Nat, k < 160 → 0 ≤ (σ 13 k).toInt ∧ (σ 13 k).toInt ≤ 30000) := id hI12
  obtain ⟨i3, w4⟩ : (0 ≤ (σ 22 0).toInt ∧ (σ 22 0).toInt ≤ 160) ∧ (∀ k : Nat, k < 160 → 0 ≤ (σ 23 k).toInt ∧ (σ 23 k).toInt ≤ 30000) := id hI22
  refine lv_aload_n hx hb dX10_copyFrom_0 rfl (lv_at hl 0 rfl) ?_
  refine lv_aload_n hx hb dX10_copyFrom_1 rfl (lv_at hl 1 rfl) ?_
  refine va_get (D := D) hx hb hts inlX10 hown hK hP 12 (jc_12 cI cL ad σ τ) rfl 0 (of_decide_eq_true rfl) (hts _ kw_16_20) (fun _ h9 => h9) rfl dX10_copyFrom_2 ?_
  refine jput (ty := .int) hx hb hts inlX10 tyX10 tyX10_ok nmX10 hown hK hP hJ hA hS (jc_22 cI cL ad σ τ) rfl (k := 0) (of_decide_eq_true rfl) (Nat.le_of_ble_eq_true rfl) (jp_22_0 cI cL ad σ τ (σ 12 0)) (hts _ kw_16_20) (fun _ h9 => h9) rfl (by decide +kernel) rfl rfl dX10_copyFrom_5 (fun σ5 H locs eσ5 hP hS => ?_)
  refine lv_aload_n hx hb dX10_copyFrom_8 rfl (lv_at hl 0 rfl) ?_
  refine lv_aload_n hx hb dX10_copyFrom_9 rfl (lv_at hl 1 rfl) ?_
  refine va_get (D := D) hx hb hts inlX10 hown hK hP 12 (jc_12 cI cL ad σ5 τ) rfl 1 (of_decide_eq_true rfl) (hts _ kw_16_21) (fun _ h9 => h9) rfl dX10_copyFrom_10 ?_
  have m6 : σ5 12 1 = (σ 12 1) := (congrFun (jnp 12 eσ5 (of_decide_eq_true rfl)) 1)
  refine jtopr m6 ?_
  refine jput (ty := .int) hx hb hts inlX10 tyX10 tyX10_ok nmX10 hown hK hP hJ hA hS (jc_22 cI cL ad σ5 τ) rfl (k := 1) (of_decide_eq_true rfl) (Nat.le_of_ble_eq_true rfl) (jp_22_1 cI cL ad σ5 τ (σ 12 1)) (hts _ kw_16_21) (fun _ h9 => h9) rfl (by decide +kernel) rfl rfl dX10_copyFrom_13 (fun σ7 H locs eσ7 hP hS => ?_)
  refine lv_aload_n hx hb dX10_copyFrom_16 rfl (lv_at hl 1 rfl) ?_
  refine va_get (D := D) hx hb hts inlX10 hown hK hP 12 (jc_12 cI cL ad σ7 τ) rfl 2 (of_decide_eq_true rfl) (hts _ kw_4_3) (fun _ h9 => h9) rfl dX10_copyFrom_17 ?_
  refine lv_iconst (v := 0) hx hb dX10_copyFrom_20 (of_decide_eq_true rfl) ?_
  refine lv_aload_n hx hb dX10_copyFrom_21 rfl (lv_at hl 0 rfl) ?_
  refine va_get (D := D) hx hb hts inlX10 hown hK hP 22 (jc_22 cI cL ad σ7 τ) rfl 2 (of_decide_eq_true rfl) (hts _ kw_4_3) (fun _ h9 => h9) rfl dX10_copyFrom_22 ?_
  refine lv_iconst (v := 0) hx hb dX10_copyFrom_25 (of_decide_eq_true rfl) ?_
  refine lv_aload_n hx hb dX10_copyFrom_26 rfl (lv_at hl 0 rfl) ?_
  refine va_get (D := D) hx hb hts inlX10 hown hK hP 22 (jc_22 cI cL ad σ7 τ) rfl 0 (of_decide_eq_true rfl) (hts _ kw_16_20) (fun _ h9 => h9) rfl dX10_copyFrom_27 ?_
  have m8 : σ7 22 0 = (σ 12 0) := ((jkp 0 eσ7 (of_decide_eq_true rfl)).trans (jsp eσ5))
  refine jtopr m8 ?_
  exact by
   refine jcpyI (q0 := 13) (q1 := 23) hx hb (hml.trans hl.1.symm) hown (hts _ kw_18_2) (hts _ kw_13_23) (hts _ kw_14_0) (hts _ kw_14_1) hK hP hJ hA hS (jc_13 cI cL ad σ7 τ) (jc_23 cI cL ad σ7 τ) (fun _ => rfl) jz_0 jz_0 rfl (by omega) (by omega) (by omega) (by omega) (by omega) (Nat.le_of_ble_eq_true rfl) (Nat.le_of_ble_eq_true rfl) dX10_copyFrom_30 (fun σ9 H locs eσ9 hP hS => ?_)
   have w10 : ∀ k : Nat, k < 160 → 0 ≤ (σ7 13 k).toInt ∧ (σ7 13 k).toInt ≤ 30000 := (jrr_fr (jnp 13 eσ7 (of_decide_eq_true rfl)) (jrr_fr (jnp 13 eσ5 (of_decide_eq_true rfl)) w2))
   have w11 : ∀ k : Nat, k < 160 → 0 ≤ (σ7 23 k).toInt ∧ (σ7 23 k).toInt ≤ 30000 := (jrr_fr (jnp 23 eσ7 (of_decide_eq_true rfl)) (jrr_fr (jnp 23 eσ5 (of_decide_eq_true rfl)) w4))
   have f12 : (∀ i : Nat, (i < 23 ∨ 23 < i) → σ9 i = σ7 i) := by rw [eσ9]; exact jrow_n
   have w13 : ∀ k : Nat, k < 160 → 0 ≤ (σ9 23 k).toInt ∧ (σ9 23 k).toInt ≤ 30000 := by rw [eσ9]; exact jrow_rr w10 w11 jz_0 rfl (n0 := 160) (by omega) (by omega) (by omega)
   have z14 : (σ9 22 0).toInt = (σ 12 0).toInt := (congrArg Int32.toInt (show σ9 22 0 = (σ 12 0) from ((congrFun (f12 22 (of_decide_eq_true rfl)) 0).trans m8)))
   have I15 : jI22 σ9 := ⟨(by omega), w13⟩
   have z16 : (σ9 12 0).toInt = (σ 12 0).toInt := (congrArg Int32.toInt (show σ9 12 0 = (σ 12 0) from ((congrFun (f12 12 (of_decide_eq_true rfl)) 0).trans ((congrFun (jnp 12 eσ7 (of_decide_eq_true rfl)) 0).trans (congrFun (jnp 12 eσ5 (of_decide_eq_true rfl)) 0)))))
   exact hret σ9 τ _ _ _ _ ⟨rfl, (fun i hi => ((f12 i (imp_30 i hi)).trans ((jnp i eσ7 (imp_31 i hi)).trans (jnp i eσ5 (imp_31 i hi))))), (fun i hi => ((congrFun (f12 22 (of_decide_eq_true rfl)) i).trans ((jkp i eσ7 (imp_23 i hi)).trans (jkp i eσ5 (imp_24 i hi))))), I15, ⟨(fun j hj => by rw [congrFun eσ9 23, jrow_s, jcpy0 rfl rfl (rfl : (σ 12 0).toInt = (σ 12 0).toInt) j hj, show σ7 13 = σ 13 from ((jnp 13 eσ7 (of_decide_eq_true rfl)).trans (jnp 13 eσ5 (of_decide_eq_true rfl)))]), by omega, ((congrFun (f12 22 (of_decide_eq_true rfl)) 1).trans (jsp eσ7))⟩, trivial⟩ hP hS dX10_copyFrom_33
set_option maxHeartbeats 4000000 in
set_option maxRecDepth 100000 in
theorem c_X10_say_22 (l : Launch) (D : va_G) (cI cL : ClassId) (ad zz : Nat → Nat) (hJ : jD ad) (σ : Nat → Nat → Int32) (τ : Nat → Nat → Int64) (a1 : Int32) (A1 : Int) (t1 : a1.toInt = A1) (a2 : Int32) (A2 : Int) (t2 : a2.toInt = A2) (a3 : Int32) (A3 : Int) (t3 : a3.toInt = A3) (a4 : Int32) (A4 : Int) (t4 : a4.toInt = A4) (a5 : Int32) (A5 : Int) (t5 : a5.toInt = A5) (a6 : Int32) (A6 : Int) (t6 : a6.toInt = A6) (hs_jN67 : jN67 σ) : jMv l yX10_say cX10_say 7 none ({ frames := 0, cells := 0, slots := 0, locals := 0 }) D cI cL ad zz [.ref (ad 22), .int a1, .int a2, .int a3, .int a4, .int a5, .int a6] σ τ (fun σ' τ' => τ = τ' ∧ (∀ i : Nat, (i < 24 ∨ 24 < i) → σ' i = σ i) ∧ (jN67 σ') ∧ (σ' 24 0 = a1 ∧ σ' 24 1 = a2 ∧ σ' 24 2 = a3 ∧ σ' 24 3 = a4 ∧ σ' 24 4 = a5 ∧ σ' 24 5 = a6 ∧ σ' 24 6 = σ 24 6 ∧ σ' 24 7 = σ 24 7) ∧ True) := by
  refine jMv.of hJ (by decide +kernel) rfl (Nat.le_of_ble_eq_true rfl) ?_
  intro p e s m args below meth c Q ls hC hret hl hP
  obtain ⟨hx, hb, hr, hml, hown, hts, hK, -, hlocks, hZ⟩ := hC
  have hown : s.vm.findClass RX10 = some m.cls := hown
  have hS : va_S (jA ad) s.heap s.heap [] := va_S.rf
  have hA : ∀ q, jA ad q → jA ad q := fun _ h => h
  have hl : lv_has ls 7 [(0, .ref (ad 22)), (1, .int a1), (2, .int a2), (3, .int a3), (4, .int a4), (5, .int a5), (6, .int a6)] := hl
  have g1 := jrg t1
  have g2 := jrg t2
  have g3 := jrg t3
  have g4 := jrg t4
  have g5 := jrg t5
  have g6 := jrg t6
  refine lv_aload_n hx hb dX10_say_0 rfl (lv_at hl 0 rfl) ?_
  refine va_get (D := D) hx hb hts inlX10 hown hK hP 22 (jc_22 cI cL ad σ τ) rfl 3 (of_decide_eq_true rfl) (hts _ kw_4_4) (fun _ h9 => h9) rfl dX10_say_1 ?_
  refine lv_iconst (v := 0) hx hb dX10_say_4 (of_decide_eq_true rfl) ?_
  refine lv_iload_n hx hb dX10_say_5 rfl (lv_at hl 1 rfl) ?_
  exact by
   refine jast hx hb hK hP hJ hA hS (jc_24 cI cL ad σ τ) (ja_24 cI cL ad σ τ _ _) (jin jz_0 (by omega) (by omega)) dX10_say_6 (fun σ1 H locs eσ1 hP hS => ?_)
   have eσ1 : σ1 = jup σ 24 0 a1 := eσ1
   refine lv_aload_n hx hb dX10_say_7 rfl (lv_at hl 0 rfl) ?_
   refine va_get (D := D) hx hb hts inlX10 hown hK hP 22 (jc_22 cI cL ad σ1 τ) rfl 3 (of_decide_eq_true rfl) (hts _ kw_4_4) (fun _ h9 => h9) rfl dX10_say_8 ?_
   refine lv_iconst (v := 1) hx hb dX10_say_11 (of_decide_eq_true rfl) ?_
   refine lv_iload_n hx hb dX10_say_12 rfl (lv_at hl 2 rfl) ?_
   refine jast hx hb hK hP hJ hA hS (jc_24 cI cL ad σ1 τ) (ja_24 cI cL ad σ1 τ _ _) (jin jz_1 (by omega) (by omega)) dX10_say_13 (fun σ2 H locs eσ2 hP hS => ?_)
   have eσ2 : σ2 = jup σ1 24 1 a2 := eσ2
   refine lv_aload_n hx hb dX10_say_14 rfl (lv_at hl 0 rfl) ?_
   exact by
    refine va_get (D := D) hx hb hts inlX10 hown hK hP 22 (jc_22 cI cL ad σ2 τ) rfl 3 (of_decide_eq_true rfl) (hts _ kw_4_4) (fun _ h9 => h9) rfl dX10_say_15 ?_
    refine lv_iconst (v := 2) hx hb dX10_say_18 (of_decide_eq_true rfl) ?_
    refine lv_iload_n hx hb dX10_say_19 rfl (lv_at hl 3 rfl) ?_
    refine jast hx hb hK hP hJ hA hS (jc_24 cI cL ad σ2 τ) (ja_24 cI cL ad σ2 τ _ _) (jin jz_2 (by omega) (by omega)) dX10_say_20 (fun σ3 H locs eσ3 hP hS => ?_)
    have eσ3 : σ3 = jup σ2 24 2 a3 := eσ3
    refine lv_aload_n hx hb dX10_say_21 rfl (lv_at hl 0 rfl) ?_
    refine va_get (D := D) hx hb hts inlX10 hown hK hP 22 (jc_22 cI cL ad σ3 τ) rfl 3 (of_decide_eq_true rfl) (hts _ kw_4_4) (fun _ h9 => h9) rfl dX10_say_22 ?_
    refine lv_iconst (v := 3) hx hb dX10_say_25 (of_decide_eq_true rfl) ?_
    refine lv_iload hx hb dX10_say_26 (lv_at hl 4 rfl) ?_
    exact by
     refine jast hx hb hK hP hJ hA hS (jc_24 cI cL ad σ3 τ) (ja_24 cI cL ad σ3 τ _ _) (jin jz_3 (by omega) (by omega)) dX10_say_28 (fun σ4 H locs eσ4 hP hS => ?_)
     have eσ4 : σ4 = jup σ3 24 3 a4 := eσ4
     refine lv_aload_n hx hb dX10_say_29 rfl (lv_at hl 0 rfl) ?_
     refine va_get (D := D) hx hb hts inlX10 hown hK hP 22 (jc_22 cI cL ad σ4 τ) rfl 3 (of_decide_eq_true rfl) (hts _ kw_4_4) (fun _ h9 => h9) rfl dX10_say_30 ?_
     refine lv_iconst (v := 4) hx hb dX10_say_33 (of_decide_eq_true rfl) ?_
     refine lv_iload hx hb dX10_say_34 (lv_at hl 5 rfl) ?_
     refine jast hx hb hK hP hJ hA hS (jc_24 cI cL ad σ4 τ) (ja_24 cI cL ad σ4 τ _ _) (jin jz_4 (by omega) (by omega)) dX10_say_36 (fun σ5 H locs eσ5 hP hS => ?_)
     have eσ5 : σ5 = jup σ4 24 4 a5 := eσ5
     refine lv_aload_n hx hb dX10_say_37 rfl (lv_at hl 0 rfl) ?_
     exact by
      refine va_get (D := D) hx hb hts inlX10 hown hK hP 22 (jc_22 cI cL ad σ5 τ) rfl 3 (of_decide_eq_true rfl) (hts _ kw_4_4) (fun _ h9 => h9) rfl dX10_say_38 ?_
      refine lv_iconst (v := 5) hx hb dX10_say_41 (of_decide_eq_true rfl) ?_
      refine lv_iload hx hb dX10_say_42 (lv_at hl 6 rfl) ?_
      refine jast hx hb hK hP hJ hA hS (jc_24 cI cL ad σ5 τ) (ja_24 cI cL ad σ5 τ _ _) (jin jz_5 (by omega) (by omega)) dX10_say_44 (fun σ6 H locs eσ6 hP hS => ?_)
      have eσ6 : σ6 = jup σ5 24 5 a6 := eσ6
      have p7 : jN67 σ6 := ⟨(show σ6 24 6 = σ 24 6 from ((jkp 6 eσ6 (of_decide_eq_true rfl)).trans ((jkp 6 eσ5 (of_decide_eq_true rfl)).trans ((jkp 6 eσ4 (of_decide_eq_true rfl)).trans ((jkp 6 eσ3 (of_decide_eq_true rfl)).trans ((jkp 6 eσ2 (of_decide_eq_true rfl)).trans (jkp 6 eσ1 (of_decide_eq_true rfl)))))))).trans hs_jN67.1, (show σ6 24 7 = σ 24 7 from ((jkp 7 eσ6 (of_decide_eq_true rfl)).trans ((jkp 7 eσ5 (of_decide_eq_true rfl)).trans ((jkp 7 eσ4 (of_decide_eq_true rfl)).trans ((jkp 7 eσ3 (of_decide_eq_true rfl)).trans ((jkp 7 eσ2 (of_decide_eq_true rfl)).trans (jkp 7 eσ1 (of_decide_eq_true rfl)))))))).trans hs_jN67.2⟩
      exact hret σ6 τ _ _ _ _ ⟨rfl, (fun i hi => ((jnp i eσ6 (imp_32 i hi)).trans ((jnp i eσ5 (imp_32 i hi)).trans ((jnp i eσ4 (imp_32 i hi)).trans ((jnp i eσ3 (imp_32 i hi)).trans ((jnp i eσ2 (imp_32 i hi)).trans (jnp i eσ1 (imp_32 i hi)))))))), p7, ⟨((jkp 0 eσ6 (of_decide_eq_true rfl)).trans ((jkp 0 eσ5 (of_decide_eq_true rfl)).trans ((jkp 0 eσ4 (of_decide_eq_true rfl)).trans ((jkp 0 eσ3 (of_decide_eq_true rfl)).trans ((jkp 0 eσ2 (of_decide_eq_true rfl)).trans (jsp eσ1)))))), ((jkp 1 eσ6 (of_decide_eq_true rfl)).trans ((jkp 1 eσ5 (of_decide_eq_true rfl)).trans ((jkp 1 eσ4 (of_decide_eq_true rfl)).trans ((jkp 1 eσ3 (of_decide_eq_true rfl)).trans (jsp eσ2))))), ((jkp 2 eσ6 (of_decide_eq_true rfl)).trans ((jkp 2 eσ5 (of_decide_eq_true rfl)).trans ((jkp 2 eσ4 (of_decide_eq_true rfl)).trans (jsp eσ3)))), ((jkp 3 eσ6 (of_decide_eq_true rfl)).trans ((jkp 3 eσ5 (of_decide_eq_true rfl)).trans (jsp eσ4))), ((jkp 4 eσ6 (of_decide_eq_true rfl)).trans (jsp eσ5)), (jsp eσ6), ((jkp 6 eσ6 (of_decide_eq_true rfl)).trans ((jkp 6 eσ5 (of_decide_eq_true rfl)).trans ((jkp 6 eσ4 (of_decide_eq_true rfl)).trans ((jkp 6 eσ3 (of_decide_eq_true rfl)).trans ((jkp 6 eσ2 (of_decide_eq_true rfl)).trans (jkp 6 eσ1 (of_decide_eq_true rfl))))))), ((jkp 7 eσ6 (of_decide_eq_true rfl)).trans ((jkp 7 eσ5 (of_decide_eq_true rfl)).trans ((jkp 7 eσ4 (of_decide_eq_true rfl)).trans ((jkp 7 eσ3 (of_decide_eq_true rfl)).trans ((jkp 7 eσ2 (of_decide_eq_true rfl)).trans (jkp 7 eσ1 (of_decide_eq_true rfl)))))))⟩, trivial⟩ hP hS dX10_say_45
set_option maxHeartbeats 4000000 in
set_option maxRecDepth 100000 in
theorem c_X10_joined (l : Launch) (D : va_G) (cI cL : ClassId) (ad zz : Nat → Nat) (hJ : jD ad) (σ : Nat → Nat → Int32) (τ : Nat → Nat → Int64) (a1 : Int32) (A1 : Int) (t1 : a1.toInt = A1) (a2 : Int32) (A2 : Int) (t2 : a2.toInt = A2) (a3 : Int32) (A3 : Int) (t3 : a3.toInt = A3) : jM l yX10_joined cX10_joined 3 (some .int) ({ frames := 0, cells := 0, slots := 0, locals := 0 }) D cI cL ad zz [.int a1, .int a2, .int a3] σ τ (fun r σ' τ' => (σ = σ' ∧ τ = τ') ∧ (r = jBi (A1) a2 a3) ∧ True) := by
  refine jM.of hJ (by decide +kernel) (nt := .int) rfl (Nat.le_of_ble_eq_true rfl) ?_
  intro p e s m args below meth c Q ls hC hret hl hP
  obtain ⟨hx, hb, hr, hml, hown, hts, hK, -, hlocks, hZ⟩ := hC
  have hown : s.vm.findClass RX10 = some m.cls := hown
  have hS : va_S (jA ad) s.heap s.heap [] := va_S.rf
  have hA : ∀ q, jA ad q → jA ad q := fun _ h => h
  have hl : lv_has ls 3 [(0, .int a1), (1, .int a2), (2, .int a3)] := hl
  have g1 := jrg t1
  have g2 := jrg t2
  have g3 := jrg t3
  refine lv_iload_n hx hb dX10_joined_0 rfl (lv_at hl 0 rfl) ?_
  by_cases c1 : a1 = 37
  · have kc1 := jeq c1 t1 jz_37
    refine jtopr c1 ?_
    refine lv_lookup (off := 176) (tgt := 177) hx hb dX10_joined_1 (of_decide_eq_true rfl) (of_decide_eq_true rfl) (of_decide_eq_true rfl) ?_
    refine lv_iload_n hx hb dX10_joined_177 rfl (lv_at hl 2 rfl) ?_
    refine lv_if_ne (tgt := 185) hx hb dX10_joined_178 (of_decide_eq_true rfl) (fun c2 => ?_) (fun c2 => ?_)
    · have kc2 := jne c2 t3 jz_0
      refine lv_iload_n hx hb dX10_joined_185 rfl (lv_at hl 1 rfl) ?_
      refine lv_iload_n hx hb dX10_joined_186 rfl (lv_at hl 2 rfl) ?_
      exact by
       refine lv_irem hx hb dX10_joined_187 (fun h => absurd (jeq h t3 jz_0) (by omega)) ?_
       refine lv_topi (fun x3 ex3 => ?_)
       have gx3 := jrg (rfl : x3.toInt = x3.toInt)
       exact by exact hret x3 σ τ _ _ _ _ rfl ⟨⟨rfl, rfl⟩, (by rw [show A1 = 37 from by omega]; exact jBi_rm ex3 (by omega)), trivial⟩ hP hS dX10_joined_188
    · have kc2 := jeq c2 t3 jz_0
      refine lv_iconst (v := 0) hx hb dX10_joined_181 (of_decide_eq_true rfl) ?_
      refine lv_goto (tgt := 188) hx hb dX10_joined_182 (of_decide_eq_true rfl) ?_
      exact by exact hret 0 σ τ _ _ _ _ rfl ⟨⟨rfl, rfl⟩, (by rw [show A1 = 37 from by omega]; exact jBi_r0 rfl (by omega)), trivial⟩ hP hS dX10_joined_188
  have kc1 := jne c1 t1 jz_37
  by_cases c4 : a1 = 38
  · have kc4 := jeq c4 t1 jz_38
    refine jtopr c4 ?_
    refine lv_lookup (off := 105) (tgt := 106) hx hb dX10_joined_1 (of_decide_eq_true rfl) (of_decide_eq_true rfl) (of_decide_eq_true rfl) ?_
    refine lv_iload_n hx hb dX10_joined_106 rfl (lv_at hl 1 rfl) ?_
    refine lv_if_eq (tgt := 118) hx hb dX10_joined_107 (of_decide_eq_true rfl) (fun c5 => ?_) (fun c5 => ?_)
    · have kc5 := jeq c5 t2 jz_0
      refine lv_iconst (v := 0) hx hb dX10_joined_118 (of_decide_eq_true rfl) ?_
      exact by exact hret 0 σ τ _ _ _ _ rfl ⟨⟨rfl, rfl⟩, (by rw [show A1 = 38 from by omega]; exact jBi_an0 (by omega)), trivial⟩ hP hS dX10_joined_119
    · have kc5 := jne c5 t2 jz_0
      refine lv_iload_n hx hb dX10_joined_110 rfl (lv_at hl 2 rfl) ?_
      refine lv_if_eq (tgt := 118) hx hb dX10_joined_111 (of_decide_eq_true rfl) (fun c6 => ?_) (fun c6 => ?_)
      · have kc6 := jeq c6 t3 jz_0
        refine lv_iconst (v := 0) hx hb dX10_joined_118 (of_decide_eq_true rfl) ?_
        exact by exact hret 0 σ τ _ _ _ _ rfl ⟨⟨rfl, rfl⟩, (by rw [show A1 = 38 from by omega]; exact jBi_an0 (by omega)), trivial⟩ hP hS dX10_joined_119
      · have kc6 := jne c6 t3 jz_0
        refine lv_iconst (v := 1) hx hb dX10_joined_114 (of_decide_eq_true rfl) ?_
        refine lv_goto (tgt := 119) hx hb dX10_joined_115 (of_decide_eq_true rfl) ?_
        exact by exact hret 1 σ τ _ _ _ _ rfl ⟨⟨rfl, rfl⟩, (by rw [show A1 = 38 from by omega]; exact jBi_an1 (by omega) (by omega)), trivial⟩ hP hS dX10_joined_119
  have kc4 := jne c4 t1 jz_38
  by_cases c7 : a1 = 42
  · have kc7 := jeq c7 t1 jz_42
    refine jtopr c7 ?_
    refine lv_lookup (off := 160) (tgt := 161) hx hb dX10_joined_1 (of_decide_eq_true rfl) (of_decide_eq_true rfl) (of_decide_eq_true rfl) ?_
    refine lv_iload_n hx hb dX10_joined_161 rfl (lv_at hl 1 rfl) ?_
    refine lv_iload_n hx hb dX10_joined_162 rfl (lv_at hl 2 rfl) ?_
    refine lv_imul hx hb dX10_joined_163 ?_
    refine lv_topi (fun x8 ex8 => ?_)
    have gx8 := jrg (rfl : x8.toInt = x8.toInt)
    exact hret x8 σ τ _ _ _ _ rfl ⟨⟨rfl, rfl⟩, (by rw [show A1 = 42 from by omega]; exact jBi_tm ex8), trivial⟩ hP hS dX10_joined_164
  have kc7 := jne c7 t1 jz_42
  by_cases c9 : a1 = 43
  · have kc9 := jeq c9 t1 jz_43
    refine jtopr c9 ?_
    refine lv_lookup (off := 152) (tgt := 153) hx hb dX10_joined_1 (of_decide_eq_true rfl) (of_decide_eq_true rfl) (of_decide_eq_true rfl) ?_
    refine lv_iload_n hx hb dX10_joined_153 rfl (lv_at hl 1 rfl) ?_
    refine lv_iload_n hx hb dX10_joined_154 rfl (lv_at hl 2 rfl) ?_
    refine lv_iadd hx hb dX10_joined_155 ?_
    refine lv_topi (fun x10 ex10 => ?_)
    have gx10 := jrg (rfl : x10.toInt = x10.toInt)
    exact hret x10 σ τ _ _ _ _ rfl ⟨⟨rfl, rfl⟩, (by rw [show A1 = 43 from by omega]; exact jBi_pl ex10), trivial⟩ hP hS dX10_joined_156
  have kc9 := jne c9 t1 jz_43
  by_cases c11 : a1 = 45
  · have kc11 := jeq c11 t1 jz_45
    refine jtopr c11 ?_
    refine lv_lookup (off := 156) (tgt := 157) hx hb dX10_joined_1 (of_decide_eq_true rfl) (of_decide_eq_true rfl) (of_decide_eq_true rfl) ?_
    refine lv_iload_n hx hb dX10_joined_157 rfl (lv_at hl 1 rfl) ?_
    refine lv_iload_n hx hb dX10_joined_158 rfl (lv_at hl 2 rfl) ?_
    refine lv_isub hx hb dX10_joined_159 ?_
    refine lv_topi (fun x12 ex12 => ?_)
    have gx12 := jrg (rfl : x12.toInt = x12.toInt)
    exact hret x12 σ τ _ _ _ _ rfl ⟨⟨rfl, rfl⟩, (by rw [show A1 = 45 from by omega]; exact jBi_mi ex12), trivial⟩ hP hS dX10_joined_160
  have kc11 := jne c11 t1 jz_45
  by_cases c13 : a1 = 47
  · have kc13 := jeq c13 t1 jz_47
    refine jtopr c13 ?_
    refine lv_lookup (off := 164) (tgt := 165) hx hb dX10_joined_1 (of_decide_eq_true rfl) (of_decide_eq_true rfl) (of_decide_eq_true rfl) ?_
    refine lv_iload_n hx hb dX10_joined_165 rfl (lv_at hl 2 rfl) ?_
    refine lv_if_ne (tgt := 173) hx hb dX10_joined_166 (of_decide_eq_true rfl) (fun c14 => ?_) (fun c14 => ?_)
    · have kc14 := jne c14 t3 jz_0
      refine lv_iload_n hx hb dX10_joined_173 rfl (lv_at hl 1 rfl) ?_
      refine lv_iload_n hx hb dX10_joined_174 rfl (lv_at hl 2 rfl) ?_
      exact by
       refine lv_idiv hx hb dX10_joined_175 (fun h => absurd (jeq h t3 jz_0) (by omega)) ?_
       refine lv_topi (fun x15 ex15 => ?_)
       have gx15 := jrg (rfl : x15.toInt = x15.toInt)
       exact by exact hret x15 σ τ _ _ _ _ rfl ⟨⟨rfl, rfl⟩, (by rw [show A1 = 47 from by omega]; exact jBi_dv ex15 (by omega)), trivial⟩ hP hS dX10_joined_176
    · have kc14 := jeq c14 t3 jz_0
      refine lv_iconst (v := 0) hx hb dX10_joined_169 (of_decide_eq_true rfl) ?_
      refine lv_goto (tgt := 176) hx hb dX10_joined_170 (of_decide_eq_true rfl) ?_
      exact by exact hret 0 σ τ _ _ _ _ rfl ⟨⟨rfl, rfl⟩, (by rw [show A1 = 47 from by omega]; exact jBi_d0 rfl (by omega)), trivial⟩ hP hS dX10_joined_176
  have kc13 := jne c13 t1 jz_47
  by_cases c16 : a1 = 60
  · have kc16 := jeq c16 t1 jz_60
    refine jtopr c16 ?_
    refine lv_lookup (off := 119) (tgt := 120) hx hb dX10_joined_1 (of_decide_eq_true rfl) (of_decide_eq_true rfl) (of_decide_eq_true rfl) ?_
    refine lv_iload_n hx hb dX10_joined_120 rfl (lv_at hl 1 rfl) ?_
    refine lv_iload_n hx hb dX10_joined_121 rfl (lv_at hl 2 rfl) ?_
    refine lv_icmp_ge (tgt := 129) hx hb dX10_joined_122 (of_decide_eq_true rfl) (fun c17 => ?_) (fun c17 => ?_)
    · have kc17 := jle c17 t3 t2
      refine lv_iconst (v := 0) hx hb dX10_joined_129 (of_decide_eq_true rfl) ?_
      exact by exact hret 0 σ τ _ _ _ _ rfl ⟨⟨rfl, rfl⟩, (by rw [show A1 = 60 from by omega]; exact jBi_lt0 (by omega)), trivial⟩ hP hS dX10_joined_130
    · have kc17 := jnle c17 t3 t2
      refine lv_iconst (v := 1) hx hb dX10_joined_125 (of_decide_eq_true rfl) ?_
      refine lv_goto (tgt := 130) hx hb dX10_joined_126 (of_decide_eq_true rfl) ?_
      exact by exact hret 1 σ τ _ _ _ _ rfl ⟨⟨rfl, rfl⟩, (by rw [show A1 = 60 from by omega]; exact jBi_lt1 (by omega)), trivial⟩ hP hS dX10_joined_130
  have kc16 := jne c16 t1 jz_60
  by_cases c18 : a1 = 61
  · have kc18 := jeq c18 t1 jz_61
    refine jtopr c18 ?_
    refine lv_lookup (off := 130) (tgt := 131) hx hb dX10_joined_1 (of_decide_eq_true rfl) (of_decide_eq_true rfl) (of_decide_eq_true rfl) ?_
    refine lv_iload_n hx hb dX10_joined_131 rfl (lv_at hl 1 rfl) ?_
    refine lv_iload_n hx hb dX10_joined_132 rfl (lv_at hl 2 rfl) ?_
    refine lv_icmp_ne (tgt := 140) hx hb dX10_joined_133 (of_decide_eq_true rfl) (fun c19 => ?_) (fun c19 => ?_)
    · have kc19 := jne c19 t2 t3
      refine lv_iconst (v := 0) hx hb dX10_joined_140 (of_decide_eq_true rfl) ?_
      exact by exact hret 0 σ τ _ _ _ _ rfl ⟨⟨rfl, rfl⟩, (by rw [show A1 = 61 from by omega]; exact jBi_eq0 (by omega)), trivial⟩ hP hS dX10_joined_141
    · have kc19 := jeq c19 t2 t3
      refine lv_iconst (v := 1) hx hb dX10_joined_136 (of_decide_eq_true rfl) ?_
      refine lv_goto (tgt := 141) hx hb dX10_joined_137 (of_decide_eq_true rfl) ?_
      exact by exact hret 1 σ τ _ _ _ _ rfl ⟨⟨rfl, rfl⟩, (by rw [show A1 = 61 from by omega]; exact jBi_eq1 (by omega)), trivial⟩ hP hS dX10_joined_141
  have kc18 := jne c18 t1 jz_61
  by_cases c20 : a1 = 62
  · have kc20 := jeq c20 t1 jz_62
    refine jtopr c20 ?_
    refine lv_lookup (off := 141) (tgt := 142) hx hb dX10_joined_1 (of_decide_eq_true rfl) (of_decide_eq_true rfl) (of_decide_eq_true rfl) ?_
    refine lv_iload_n hx hb dX10_joined_142 rfl (lv_at hl 1 rfl) ?_
    refine lv_iload_n hx hb dX10_joined_143 rfl (lv_at hl 2 rfl) ?_
    refine lv_icmp_le (tgt := 151) hx hb dX10_joined_144 (of_decide_eq_true rfl) (fun c21 => ?_) (fun c21 => ?_)
    · have kc21 := jle c21 t2 t3
      refine lv_iconst (v := 0) hx hb dX10_joined_151 (of_decide_eq_true rfl) ?_
      exact by exact hret 0 σ τ _ _ _ _ rfl ⟨⟨rfl, rfl⟩, (by rw [show A1 = 62 from by omega]; exact jBi_gt0 (by omega)), trivial⟩ hP hS dX10_joined_152
    · have kc21 := jnle c21 t2 t3
      refine lv_iconst (v := 1) hx hb dX10_joined_147 (of_decide_eq_true rfl) ?_
      refine lv_goto (tgt := 152) hx hb dX10_joined_148 (of_decide_eq_true rfl) ?_
      exact by exact hret 1 σ τ _ _ _ _ rfl ⟨⟨rfl, rfl⟩, (by rw [show A1 = 62 from by omega]; exact jBi_gt1 (by omega)), trivial⟩ hP hS dX10_joined_152
  have kc20 := jne c20 t1 jz_62
  by_cases c22 : a1 = 124
  · have kc22 := jeq c22 t1 jz_124
    refine jtopr c22 ?_
    refine lv_lookup (off := 91) (tgt := 92) hx hb dX10_joined_1 (of_decide_eq_true rfl) (of_decide_eq_true rfl) (of_decide_eq_true rfl) ?_
    refine lv_iload_n hx hb dX10_joined_92 rfl (lv_at hl 1 rfl) ?_
    refine lv_if_ne (tgt := 100) hx hb dX10_joined_93 (of_decide_eq_true rfl) (fun c23 => ?_) (fun c23 => ?_)
    · have kc23 := jne c23 t2 jz_0
      refine lv_iconst (v := 1) hx hb dX10_joined_100 (of_decide_eq_true rfl) ?_
      refine lv_goto (tgt := 105) hx hb dX10_joined_101 (of_decide_eq_true rfl) ?_
      exact by exact hret 1 σ τ _ _ _ _ rfl ⟨⟨rfl, rfl⟩, (by rw [show A1 = 124 from by omega]; exact jBi_or1 (by omega)), trivial⟩ hP hS dX10_joined_105
    · have kc23 := jeq c23 t2 jz_0
      refine lv_iload_n hx hb dX10_joined_96 rfl (lv_at hl 2 rfl) ?_
      refine lv_if_eq (tgt := 104) hx hb dX10_joined_97 (of_decide_eq_true rfl) (fun c24 => ?_) (fun c24 => ?_)
      · have kc24 := jeq c24 t3 jz_0
        refine lv_iconst (v := 0) hx hb dX10_joined_104 (of_decide_eq_true rfl) ?_
        exact by exact hret 0 σ τ _ _ _ _ rfl ⟨⟨rfl, rfl⟩, (by rw [show A1 = 124 from by omega]; exact jBi_or0 (by omega) (by omega)), trivial⟩ hP hS dX10_joined_105
      · have kc24 := jne c24 t3 jz_0
        refine lv_iconst (v := 1) hx hb dX10_joined_100 (of_decide_eq_true rfl) ?_
        refine lv_goto (tgt := 105) hx hb dX10_joined_101 (of_decide_eq_true rfl) ?_
        exact by exact hret 1 σ τ _ _ _ _ rfl ⟨⟨rfl, rfl⟩, (by rw [show A1 = 124 from by omega]; exact jBi_or1 (by omega)), trivial⟩ hP hS dX10_joined_105
  have kc22 := jne c22 t1 jz_124
  refine lv_lookup (off := 188) (tgt := 189) hx hb dX10_joined_1 (of_decide_eq_true rfl) (jlook (fun p hp => by have h9 := t1; simp only [List.mem_cons, List.not_mem_nil, or_false] at hp; rcases hp with hp | hp | hp | hp | hp | hp | hp | hp | hp | hp <;> subst hp <;> simp only [] <;> omega)) (of_decide_eq_true rfl) ?_
  refine lv_iconst (v := 0) hx hb dX10_joined_189 (of_decide_eq_true rfl) ?_
  exact by exact hret 0 σ τ _ _ _ _ rfl ⟨⟨rfl, rfl⟩, (by unfold jBi; rw [if_neg (by omega), if_neg (by omega), if_neg (by omega), if_neg (by omega), if_neg (by omega), if_neg (by omega), if_neg (by omega), if_neg (by omega), if_neg (by omega), if_neg (by omega)]), trivial⟩ hP hS dX10_joined_190
set_option maxHeartbeats 4000000 in
set_option maxRecDepth 100000 in
theorem c_X10_worked_18 (l : Launch) (D : va_G) (cI cL : ClassId) (ad zz : Nat → Nat) (hJ : jD ad) (σ : Nat → Nat → Int32) (τ : Nat → Nat → Int64) (hI18 : jI18 σ) : jM l yX10_worked cX10_worked 5 (some .int) ({ frames := 1, cells := 0, slots := 0, locals := 22 }) D cI cL ad zz [.ref (ad 18)] σ τ (fun r σ' τ' => τ = τ' ∧ (∀ i : Nat, (i < 21 ∨ 21 < i) → σ' i = σ i) ∧ (jWr (σ 19) (σ 18 0).toInt (σ 20) 0 [] r) ∧ True) := by
  refine jM.of hJ (by decide +kernel) (nt := .int) rfl (Nat.le_of_ble_eq_true rfl) ?_
  intro p e s m args below meth c Q ls hC hret hl hP
  obtain ⟨hx, hb, hr, hml, hown, hts, hK, -, hlocks, hZ⟩ := hC
  have hown : s.vm.findClass RX10 = some m.cls := hown
  have hS : va_S (jA ad) s.heap s.heap [] := va_S.rf
  have hA : ∀ q, jA ad q → jA ad q := fun _ h => h
  have hl : lv_has ls 5 [(0, .ref (ad 18))] := hl
  obtain ⟨i1, w2⟩ : (0 ≤ (σ 18 0).toInt ∧ (σ 18 0).toInt ≤ 160) ∧ (∀ k : Nat, k < 160 → 0 ≤ (σ 19 k).toInt ∧ (σ 19 k).toInt ≤ 30000) := id hI18
  refine lv_iconst (v := 0) hx hb dX10_worked_0 (of_decide_eq_true rfl) ?_
  refine lv_istore_n (lv' := [(1, .int 0), (0, .ref (ad 18))]) hx hb dX10_worked_1 rfl hl (of_decide_eq_true rfl) rfl (fun ls hl => ?_)
  refine lv_iconst (v := 0) hx hb dX10_worked_2 (of_decide_eq_true rfl) ?_
  refine lv_istore_n (lv' := [(2, .int 0), (1, .int 0), (0, .ref (ad 18))]) hx hb dX10_worked_3 rfl hl (of_decide_eq_true rfl) rfl (fun ls hl => ?_)
  have lp3 : ∀ (n4 : Nat) (x5 : Int32) (x6 : Int32) (σ9 : Nat → Nat → Int32) (H : Heap) (locs : List Loc) (ls : Array Slot), (-x6.toInt + 30001 : Int) < n4 → 0 ≤ x5.toInt → x5.toInt ≤ 160 → 0 ≤ x6.toInt → x6.toInt ≤ 30000 → (∀ i : Nat, (i < 21 ∨ 21 < i) → σ9 i = σ i) → (∀ v : Int32, jWr (σ 19) (σ 18 0).toInt (σ 20) (x6.toInt) (jStk (σ9 21) (x5.toInt).toNat) v → jWr (σ 19) (σ 18 0).toInt (σ 20) 0 [] v) → jH D cI cL ad σ9 τ H → va_S (jA ad) s.heap H locs → lv_has ls 5 [(2, .int x6), (1, .int x5), (0, .ref (ad 18))] → W p l e ({ frames := 1, cells := 0, slots := 0, locals := 22 }) s m args below meth c H locs 0 0 Q (F0 m 4 ls []) := by
    intro n4
    induction n4 with
    | zero => intro x5 x6 σ9 H locs ls h11 h12 h13 h14 h15; exact absurd h11 (by omega)
    | succ n4 ihlp3 =>
      intro x5 x6 σ9 H locs ls h11 h12 h13 h14 h15 f16 q17 hP hS hl
      exact by
       refine lv_iload_n hx hb dX10_worked_4 rfl (lv_at hl 0 rfl) ?_
       refine lv_aload_n hx hb dX10_worked_5 rfl (lv_at hl 2 rfl) ?_
       refine va_get (D := D) hx hb hts inlX10 hown hK hP 18 (jc_18 cI cL ad σ9 τ) rfl 0 (of_decide_eq_true rfl) (hts _ kw_16_20) (fun _ h9 => h9) rfl dX10_worked_6 ?_
       have m18 : σ9 18 0 = (σ 18 0) := (congrFun (f16 18 (of_decide_eq_true rfl)) 0)
       refine jtopr m18 ?_
       refine lv_icmp_ge (tgt := 265) hx hb dX10_worked_9 (of_decide_eq_true rfl) (fun c19 => ?_) (fun c19 => ?_)
       · have kc19 := jle c19 rfl rfl
         refine lv_iconst (v := 0) hx hb dX10_worked_265 (of_decide_eq_true rfl) ?_
         exact hret 0 σ9 τ _ _ _ _ rfl ⟨rfl, (fun i hi => (f16 i hi)), (q17 _ (jWr.out (by omega))), trivial⟩ hP hS dX10_worked_266
       · have kc19 := jnle c19 rfl rfl
         refine lv_aload_n hx hb dX10_worked_12 rfl (lv_at hl 2 rfl) ?_
         refine va_get (D := D) hx hb hts inlX10 hown hK hP 18 (jc_18 cI cL ad σ9 τ) rfl 2 (of_decide_eq_true rfl) (hts _ kw_4_3) (fun _ h9 => h9) rfl dX10_worked_13 ?_
         refine lv_iload_n hx hb dX10_worked_16 rfl (lv_at hl 0 rfl) ?_
         exact by
          refine jald hx hb hK hP (jc_19 cI cL ad σ9 τ) (jin rfl (by omega) (by omega)) dX10_worked_17 ?_
          have w20 : ∀ k : Nat, k < 160 → 0 ≤ (σ9 19 k).toInt ∧ (σ9 19 k).toInt ≤ 30000 := (jrr_fr (f16 19 (of_decide_eq_true rfl)) w2)
          have g21 := w20 _ (jnat (x := x6) rfl (n := 160) (by omega) (of_decide_eq_true rfl))
          refine jtopr (y := (σ 19 x6.toNatClampNeg)) (by rw [f16 19 (of_decide_eq_true rfl)]) ?_
          rw [f16 19 (of_decide_eq_true rfl)] at g21
          refine lv_istore_n (lv' := [(3, .int (σ 19 x6.toNatClampNeg)), (2, .int x6), (1, .int x5), (0, .ref (ad 18))]) hx hb dX10_worked_18 rfl hl (of_decide_eq_true rfl) rfl (fun ls hl => ?_)
          refine lv_iload_n hx hb dX10_worked_19 rfl (lv_at hl 0 rfl) ?_
          refine lv_sipush (v := 20000) hx hb dX10_worked_20 (of_decide_eq_true rfl) ?_
          refine lv_icmp_ge (tgt := 71) hx hb dX10_worked_23 (of_decide_eq_true rfl) (fun c22 => ?_) (fun c22 => ?_)
          · exact by
             have kc22 := jle c22 jz_20000 rfl
             refine lv_iload_n hx hb dX10_worked_71 rfl (lv_at hl 2 rfl) ?_
             refine lv_iconst (v := 1) hx hb dX10_worked_72 (of_decide_eq_true rfl) ?_
             refine lv_icmp_lt (tgt := 83) hx hb dX10_worked_73 (of_decide_eq_true rfl) (fun c23 => ?_) (fun c23 => ?_)
             · have kc23 := jlt c23 rfl jz_1
               refine lv_iload_n hx hb dX10_worked_83 rfl (lv_at hl 2 rfl) ?_
               refine lv_iconst (v := 1) hx hb dX10_worked_84 (of_decide_eq_true rfl) ?_
               refine lv_icmp_ge (tgt := 92) hx hb dX10_worked_85 (of_decide_eq_true rfl) (fun c => absurd (jle c jz_1 rfl) (by omega)) (fun c24 => ?_)
               have kc24 := jnle c24 jz_1 rfl
               exact by
                refine lv_iconst (v := 0) hx hb dX10_worked_88 (of_decide_eq_true rfl) ?_
                refine lv_goto (tgt := 100) hx hb dX10_worked_89 (of_decide_eq_true rfl) ?_
                exact by exact hret 0 σ9 τ _ _ _ _ rfl ⟨rfl, (fun i hi => (f16 i hi)), (q17 _ (jWr.none (by omega) (show (σ 19 x6.toNatClampNeg) = (σ 19) (x6.toInt).toNat from by rw [jnc (rfl : x6.toInt = x6.toInt)]) (by omega) (by rw [show x5.toInt = 0 by omega]; rfl))), trivial⟩ hP hS dX10_worked_100
             · have kc23 := jnlt c23 rfl jz_1
               refine lv_iload_n hx hb dX10_worked_76 rfl (lv_at hl 0 rfl) ?_
               refine lv_sipush (v := 20059) hx hb dX10_worked_77 (of_decide_eq_true rfl) ?_
               refine lv_icmp_ne (tgt := 101) hx hb dX10_worked_80 (of_decide_eq_true rfl) (fun c25 => ?_) (fun c25 => ?_)
               · have kc25 := jne c25 rfl jz_20059
                 refine lv_iload_n hx hb dX10_worked_101 rfl (lv_at hl 0 rfl) ?_
                 refine lv_sipush (v := 20063) hx hb dX10_worked_102 (of_decide_eq_true rfl) ?_
                 refine lv_icmp_ne (tgt := 160) hx hb dX10_worked_105 (of_decide_eq_true rfl) (fun c26 => ?_) (fun c26 => ?_)
                 · have kc26 := jne c26 rfl jz_20063
                   refine lv_iload_n hx hb dX10_worked_160 rfl (lv_at hl 0 rfl) ?_
                   refine lv_sipush (v := 20033) hx hb dX10_worked_161 (of_decide_eq_true rfl) ?_
                   refine lv_icmp_ne (tgt := 194) hx hb dX10_worked_164 (of_decide_eq_true rfl) (fun c27 => ?_) (fun c27 => ?_)
                   · have kc27 := jne c27 rfl jz_20033
                     refine lv_iload_n hx hb dX10_worked_194 rfl (lv_at hl 0 rfl) ?_
                     refine lv_sipush (v := 20126) hx hb dX10_worked_195 (of_decide_eq_true rfl) ?_
                     refine lv_icmp_ne (tgt := 221) hx hb dX10_worked_198 (of_decide_eq_true rfl) (fun c28 => ?_) (fun c28 => ?_)
                     · have kc28 := jne c28 rfl jz_20126
                       refine lv_iload_n hx hb dX10_worked_221 rfl (lv_at hl 2 rfl) ?_
                       refine lv_iconst (v := 1) hx hb dX10_worked_222 (of_decide_eq_true rfl) ?_
                       refine lv_icmp_le (tgt := 259) hx hb dX10_worked_223 (of_decide_eq_true rfl) (fun c29 => ?_) (fun c29 => ?_)
                       · have kc29 := jle c29 rfl jz_1
                         obtain ⟨x30, ex30⟩ : ∃ y : Int32, y = x6 + 1 := ⟨_, rfl⟩
                         exact by
                          have tx30 : x30.toInt = x6.toInt + 1 := (jadd ex30 rfl jz_1 (by omega) (by omega)).trans (by omega)
                          refine lv_iinc (v := x30) (lv' := [(2, .int x30), (3, .int (σ 19 x6.toNatClampNeg)), (1, .int x5), (0, .ref (ad 18))]) hx hb dX10_worked_259 hl (k := 1) rfl (by rw [ex30]; rfl) (of_decide_eq_true rfl) rfl (fun ls hl => ?_)
                          refine lv_goto (tgt := 4) hx hb dX10_worked_262 (of_decide_eq_true rfl) ?_
                          exact by exact ihlp3 x5 x30 σ9 _ _ ls (by have h91 := tx30; omega) (by have h91 := tx30; omega) (by have h91 := tx30; omega) (by have h91 := tx30; omega) (by have h91 := tx30; omega) (fun i hi => (f16 i hi))   (fun v h => q17 v (jWr.skip (x := σ9 21 (0 : Int).toNat) h (by omega) (show (σ 19 x6.toNatClampNeg) = (σ 19) (x6.toInt).toNat from by rw [jnc (rfl : x6.toInt = x6.toInt)]) (by omega) ⟨by omega, by omega, by omega, by omega⟩ (by have w9 := jStk_top (f := σ9 21) (T := x5.toInt) (by omega); rw [show x5.toInt - 1 = 0 by omega] at w9; exact w9) (by have h9 := tx30; omega))) hP hS (lv_sub hl [0, 2, 3] rfl)
                       · have kc29 := jnle c29 rfl jz_1
                         obtain ⟨x31, ex31⟩ : ∃ y : Int32, y = x5 + (-1) := ⟨_, rfl⟩
                         have tx31 : x31.toInt = x5.toInt - 1 := (jadd ex31 rfl jz_m1 (by omega) (by omega)).trans (by omega)
                         refine lv_iinc (v := x31) (lv' := [(1, .int x31), (3, .int (σ 19 x6.toNatClampNeg)), (2, .int x6), (0, .ref (ad 18))]) hx hb dX10_worked_226 hl (k := 2) rfl (by rw [ex31]; rfl) (of_decide_eq_true rfl) rfl (fun ls hl => ?_)
                         refine lv_aload_n hx hb dX10_worked_229 rfl (lv_at hl 3 rfl) ?_
                         exact by
                          refine va_get (D := D) hx hb hts inlX10 hown hK hP 18 (jc_18 cI cL ad σ9 τ) rfl 4 (of_decide_eq_true rfl) (hts _ kw_4_5) (fun _ h9 => h9) rfl dX10_worked_230 ?_
                          refine lv_iload_n hx hb dX10_worked_233 rfl (lv_at hl 0 rfl) ?_
                          refine lv_iconst (v := 1) hx hb dX10_worked_234 (of_decide_eq_true rfl) ?_
                          refine lv_isub hx hb dX10_worked_235 ?_
                          refine lv_topi (fun x32 ex32 => ?_)
                          have tx32 : x32.toInt = x5.toInt - 2 := (jsub ex32 tx31 jz_1 (by omega) (by omega)).trans (by omega)
                          refine lv_iload_n hx hb dX10_worked_236 rfl (lv_at hl 1 rfl) ?_
                          refine lv_sipush (v := 20000) hx hb dX10_worked_237 (of_decide_eq_true rfl) ?_
                          have g33 := jrg (rfl : (σ 19 x6.toNatClampNeg).toInt = (σ 19 x6.toNatClampNeg).toInt)
                          exact by
                           refine lv_isub hx hb dX10_worked_240 ?_
                           refine lv_topi (fun x34 ex34 => ?_)
                           have tx34 : x34.toInt = (σ 19 x6.toNatClampNeg).toInt - 20000 := (jsub ex34 rfl jz_20000 (by omega) (by omega)).trans (by omega)
                           refine lv_aload_n hx hb dX10_worked_241 rfl (lv_at hl 3 rfl) ?_
                           refine va_get (D := D) hx hb hts inlX10 hown hK hP 18 (jc_18 cI cL ad σ9 τ) rfl 4 (of_decide_eq_true rfl) (hts _ kw_4_5) (fun _ h9 => h9) rfl dX10_worked_242 ?_
                           refine lv_iload_n hx hb dX10_worked_245 rfl (lv_at hl 0 rfl) ?_
                           refine lv_iconst (v := 1) hx hb dX10_worked_246 (of_decide_eq_true rfl) ?_
                           refine lv_isub hx hb dX10_worked_247 ?_
                           refine lv_topi (fun x35 ex35 => ?_)
                           exact by
                            have tx35 : x35.toInt = x5.toInt - 2 := (jsub ex35 tx31 jz_1 (by omega) (by omega)).trans (by omega)
                            refine jald hx hb hK hP (jc_21 cI cL ad σ9 τ) (jin tx35 (by omega) (by omega)) dX10_worked_248 ?_
                            refine jtopr (y := (σ9 21 x35.toNatClampNeg)) rfl ?_
                            refine lv_aload_n hx hb dX10_worked_249 rfl (lv_at hl 3 rfl) ?_
                            refine va_get (D := D) hx hb hts inlX10 hown hK hP 18 (jc_18 cI cL ad σ9 τ) rfl 4 (of_decide_eq_true rfl) (hts _ kw_4_5) (fun _ h9 => h9) rfl dX10_worked_250 ?_
                            refine lv_iload_n hx hb dX10_worked_253 rfl (lv_at hl 0 rfl) ?_
                            refine jald hx hb hK hP (jc_21 cI cL ad σ9 τ) (jin tx31 (by omega) (by omega)) dX10_worked_254 ?_
                            refine jtopr (y := (σ9 21 x31.toNatClampNeg)) rfl ?_
                            refine jcallS (As := [.int x34, .int (σ9 21 x35.toNatClampNeg), .int (σ9 21 x31.toNatClampNeg)]) (rest := [.int x32, .ref (ad 21)]) ⟨hx, hb, hml, hown, hts⟩ hK hP hA hS hZ (c_X10_joined l D cI cL ad zz hJ σ9 τ x34 ((σ 19 x6.toNatClampNeg).toInt - 20000) tx34 (σ9 21 x35.toNatClampNeg) ((σ9 21 x35.toNatClampNeg).toInt) rfl (σ9 21 x31.toNatClampNeg) ((σ9 21 x31.toNatClampNeg).toInt) rfl) cw_RX10_38 ⟨Nat.le_of_ble_eq_true rfl, Nat.le_of_ble_eq_true rfl⟩ rfl rfl rfl hl.1 rfl (Nat.le_of_ble_eq_true rfl) dX10_worked_255 ⟨Nat.zero_le _, Nat.zero_le _⟩ (fun r37 σ36 τ36 H locs h36 hP hS => ?_)
                            exact by
                             obtain ⟨⟨rfl, rfl⟩, w38, h36⟩ := h36
                             refine jast hx hb hK hP hJ hA hS (jc_21 cI cL ad σ9 τ) (ja_21 cI cL ad σ9 τ _ _) (jin tx32 (by omega) (by omega)) dX10_worked_258 (fun σ39 H locs eσ39 hP hS => ?_)
                             obtain ⟨x40, ex40⟩ : ∃ y : Int32, y = x6 + 1 := ⟨_, rfl⟩
                             have tx40 : x40.toInt = x6.toInt + 1 := (jadd ex40 rfl jz_1 (by omega) (by omega)).trans (by omega)
                             refine lv_iinc (v := x40) (lv' := [(2, .int x40), (1, .int x31), (3, .int (σ 19 x6.toNatClampNeg)), (0, .ref (ad 18))]) hx hb dX10_worked_259 hl (k := 2) rfl (by rw [ex40]; rfl) (of_decide_eq_true rfl) rfl (fun ls hl => ?_)
                             refine lv_goto (tgt := 4) hx hb dX10_worked_262 (of_decide_eq_true rfl) ?_
                             exact by exact ihlp3 x31 x40 σ39 _ _ ls (by have h90 := tx31; have h91 := tx40; omega) (by have h90 := tx31; have h91 := tx40; omega) (by have h90 := tx31; have h91 := tx40; omega) (by have h90 := tx31; have h91 := tx40; omega) (by have h90 := tx31; have h91 := tx40; omega) (fun i hi => ((jnp i eσ39 (imp_33 i hi)).trans (f16 i hi)))   (fun v h => q17 v (jWr.two h (by omega) (show (σ 19 x6.toNatClampNeg) = (σ 19) (x6.toInt).toNat from by rw [jnc (rfl : x6.toInt = x6.toInt)]) (by omega) ⟨by omega, by omega, by omega, by omega⟩ ((jStk_top (f := σ9 21) (T := x5.toInt) (by omega)).trans (by rw [jStk_top (f := σ9 21) (T := x5.toInt - 1) (by omega), show x5.toInt - 1 - 1 = x5.toInt - 2 by omega, ← jnc (show x31.toInt = x5.toInt - 1 by omega), ← jnc (show x35.toInt = x5.toInt - 2 by omega)])) (jStk_put (T := 0) (f := σ9 21) (g := σ39 21) (T' := x31.toInt) (q := x5.toInt - 2) (v := r37) (by rw [eσ39, jup_row, jnc (show x32.toInt = x5.toInt - 2 by have h9 := tx32; omega)]) (by omega) (by have h9 := tx31; omega)) ((w38).trans (by rw [show (σ 19 x6.toNatClampNeg).toInt - 20000 = (σ 19 x6.toNatClampNeg).toInt - 20000 by omega])) (by have h9 := tx40; omega))) hP hS (lv_sub hl [0, 1, 3] rfl)
                     · have kc28 := jeq c28 rfl jz_20126
                       refine lv_aload_n hx hb dX10_worked_201 rfl (lv_at hl 3 rfl) ?_
                       exact by
                        refine va_get (D := D) hx hb hts inlX10 hown hK hP 18 (jc_18 cI cL ad σ9 τ) rfl 4 (of_decide_eq_true rfl) (hts _ kw_4_5) (fun _ h9 => h9) rfl dX10_worked_202 ?_
                        refine lv_iload_n hx hb dX10_worked_205 rfl (lv_at hl 2 rfl) ?_
                        refine lv_iconst (v := 1) hx hb dX10_worked_206 (of_decide_eq_true rfl) ?_
                        have g41 := jrg (rfl : x5.toInt = x5.toInt)
                        refine lv_isub hx hb dX10_worked_207 ?_
                        refine lv_topi (fun x42 ex42 => ?_)
                        have tx42 : x42.toInt = x5.toInt - 1 := (jsub ex42 rfl jz_1 (by omega) (by omega)).trans (by omega)
                        refine lv_aload_n hx hb dX10_worked_208 rfl (lv_at hl 3 rfl) ?_
                        refine va_get (D := D) hx hb hts inlX10 hown hK hP 18 (jc_18 cI cL ad σ9 τ) rfl 4 (of_decide_eq_true rfl) (hts _ kw_4_5) (fun _ h9 => h9) rfl dX10_worked_209 ?_
                        exact by
                         refine lv_iload_n hx hb dX10_worked_212 rfl (lv_at hl 2 rfl) ?_
                         refine lv_iconst (v := 1) hx hb dX10_worked_213 (of_decide_eq_true rfl) ?_
                         refine lv_isub hx hb dX10_worked_214 ?_
                         refine lv_topi (fun x43 ex43 => ?_)
                         have tx43 : x43.toInt = x5.toInt - 1 := (jsub ex43 rfl jz_1 (by omega) (by omega)).trans (by omega)
                         refine jald hx hb hK hP (jc_21 cI cL ad σ9 τ) (jin tx43 (by omega) (by omega)) dX10_worked_215 ?_
                         refine jtopr (y := (σ9 21 x43.toNatClampNeg)) rfl ?_
                         refine lv_ineg hx hb dX10_worked_216 ?_
                         refine lv_topi (fun x44 ex44 => ?_)
                         exact by
                          have gx44 := jrg (rfl : x44.toInt = x44.toInt)
                          refine jast hx hb hK hP hJ hA hS (jc_21 cI cL ad σ9 τ) (ja_21 cI cL ad σ9 τ _ _) (jin tx42 (by omega) (by omega)) dX10_worked_217 (fun σ45 H locs eσ45 hP hS => ?_)
                          refine lv_goto (tgt := 259) hx hb dX10_worked_218 (of_decide_eq_true rfl) ?_
                          obtain ⟨x46, ex46⟩ : ∃ y : Int32, y = x6 + 1 := ⟨_, rfl⟩
                          have tx46 : x46.toInt = x6.toInt + 1 := (jadd ex46 rfl jz_1 (by omega) (by omega)).trans (by omega)
                          refine lv_iinc (v := x46) (lv' := [(2, .int x46), (3, .int (σ 19 x6.toNatClampNeg)), (1, .int x5), (0, .ref (ad 18))]) hx hb dX10_worked_259 hl (k := 1) rfl (by rw [ex46]; rfl) (of_decide_eq_true rfl) rfl (fun ls hl => ?_)
                          refine lv_goto (tgt := 4) hx hb dX10_worked_262 (of_decide_eq_true rfl) ?_
                          exact by exact ihlp3 x5 x46 σ45 _ _ ls (by have h91 := tx46; omega) (by have h91 := tx46; omega) (by have h91 := tx46; omega) (by have h91 := tx46; omega) (by have h91 := tx46; omega) (fun i hi => ((jnp i eσ45 (imp_33 i hi)).trans (f16 i hi)))   (fun v h => q17 v (jWr.one h (by omega) (show (σ 19 x6.toNatClampNeg) = (σ 19) (x6.toInt).toNat from by rw [jnc (rfl : x6.toInt = x6.toInt)]) (by omega) ((jStk_top (f := σ9 21) (T := x5.toInt) (by omega)).trans (by rw [← jnc (show x43.toInt = x5.toInt - 1 by omega)])) (jStk_put (T := 0) (f := σ9 21) (g := σ45 21) (T' := x5.toInt) (q := x5.toInt - 1) (v := x44) (by rw [eσ45, jup_row, jnc (show x42.toInt = x5.toInt - 1 by have h9 := tx42; omega)]) (by omega) (by omega)) (Or.inr (Or.inr ⟨by omega, ex44⟩)) (by have h9 := tx46; omega))) hP hS (lv_sub hl [0, 2, 3] rfl)
                   · have kc27 := jeq c27 rfl jz_20033
                     exact by
                      refine lv_aload_n hx hb dX10_worked_167 rfl (lv_at hl 3 rfl) ?_
                      refine va_get (D := D) hx hb hts inlX10 hown hK hP 18 (jc_18 cI cL ad σ9 τ) rfl 4 (of_decide_eq_true rfl) (hts _ kw_4_5) (fun _ h9 => h9) rfl dX10_worked_168 ?_
                      refine lv_iload_n hx hb dX10_worked_171 rfl (lv_at hl 2 rfl) ?_
                      refine lv_iconst (v := 1) hx hb dX10_worked_172 (of_decide_eq_true rfl) ?_
                      have g47 := jrg (rfl : x5.toInt = x5.toInt)
                      refine lv_isub hx hb dX10_worked_173 ?_
                      refine lv_topi (fun x48 ex48 => ?_)
                      have tx48 : x48.toInt = x5.toInt - 1 := (jsub ex48 rfl jz_1 (by omega) (by omega)).trans (by omega)
                      refine lv_aload_n hx hb dX10_worked_174 rfl (lv_at hl 3 rfl) ?_
                      exact by
                       refine va_get (D := D) hx hb hts inlX10 hown hK hP 18 (jc_18 cI cL ad σ9 τ) rfl 4 (of_decide_eq_true rfl) (hts _ kw_4_5) (fun _ h9 => h9) rfl dX10_worked_175 ?_
                       refine lv_iload_n hx hb dX10_worked_178 rfl (lv_at hl 2 rfl) ?_
                       refine lv_iconst (v := 1) hx hb dX10_worked_179 (of_decide_eq_true rfl) ?_
                       refine lv_isub hx hb dX10_worked_180 ?_
                       refine lv_topi (fun x49 ex49 => ?_)
                       have tx49 : x49.toInt = x5.toInt - 1 := (jsub ex49 rfl jz_1 (by omega) (by omega)).trans (by omega)
                       refine jald hx hb hK hP (jc_21 cI cL ad σ9 τ) (jin tx49 (by omega) (by omega)) dX10_worked_181 ?_
                       refine jtopr (y := (σ9 21 x49.toNatClampNeg)) rfl ?_
                       refine lv_if_ne (tgt := 189) hx hb dX10_worked_182 (of_decide_eq_true rfl) (fun c50 => ?_) (fun c50 => ?_)
                       · exact by
                          have kc50 := jne c50 rfl jz_0
                          refine lv_iconst (v := 0) hx hb dX10_worked_189 (of_decide_eq_true rfl) ?_
                          refine jast hx hb hK hP hJ hA hS (jc_21 cI cL ad σ9 τ) (ja_21 cI cL ad σ9 τ _ _) (jin tx48 (by omega) (by omega)) dX10_worked_190 (fun σ51 H locs eσ51 hP hS => ?_)
                          refine lv_goto (tgt := 259) hx hb dX10_worked_191 (of_decide_eq_true rfl) ?_
                          obtain ⟨x52, ex52⟩ : ∃ y : Int32, y = x6 + 1 := ⟨_, rfl⟩
                          have tx52 : x52.toInt = x6.toInt + 1 := (jadd ex52 rfl jz_1 (by omega) (by omega)).trans (by omega)
                          refine lv_iinc (v := x52) (lv' := [(2, .int x52), (3, .int (σ 19 x6.toNatClampNeg)), (1, .int x5), (0, .ref (ad 18))]) hx hb dX10_worked_259 hl (k := 1) rfl (by rw [ex52]; rfl) (of_decide_eq_true rfl) rfl (fun ls hl => ?_)
                          refine lv_goto (tgt := 4) hx hb dX10_worked_262 (of_decide_eq_true rfl) ?_
                          exact by exact ihlp3 x5 x52 σ51 _ _ ls (by have h91 := tx52; omega) (by have h91 := tx52; omega) (by have h91 := tx52; omega) (by have h91 := tx52; omega) (by have h91 := tx52; omega) (fun i hi => ((jnp i eσ51 (imp_33 i hi)).trans (f16 i hi)))   (fun v h => q17 v (jWr.one h (by omega) (show (σ 19 x6.toNatClampNeg) = (σ 19) (x6.toInt).toNat from by rw [jnc (rfl : x6.toInt = x6.toInt)]) (by omega) ((jStk_top (f := σ9 21) (T := x5.toInt) (by omega)).trans (by rw [← jnc (show x49.toInt = x5.toInt - 1 by omega)])) (jStk_put (T := 0) (f := σ9 21) (g := σ51 21) (T' := x5.toInt) (q := x5.toInt - 1) (v := 0) (by rw [eσ51, jup_row, jnc (show x48.toInt = x5.toInt - 1 by have h9 := tx48; omega)]) (by omega) (by omega)) (Or.inr (Or.inl ⟨by omega, by omega, rfl⟩)) (by have h9 := tx52; omega))) hP hS (lv_sub hl [0, 2, 3] rfl)
                       · exact by
                          have kc50 := jeq c50 rfl jz_0
                          refine lv_iconst (v := 1) hx hb dX10_worked_185 (of_decide_eq_true rfl) ?_
                          refine lv_goto (tgt := 190) hx hb dX10_worked_186 (of_decide_eq_true rfl) ?_
                          refine jast hx hb hK hP hJ hA hS (jc_21 cI cL ad σ9 τ) (ja_21 cI cL ad σ9 τ _ _) (jin tx48 (by omega) (by omega)) dX10_worked_190 (fun σ53 H locs eσ53 hP hS => ?_)
                          refine lv_goto (tgt := 259) hx hb dX10_worked_191 (of_decide_eq_true rfl) ?_
                          obtain ⟨x54, ex54⟩ : ∃ y : Int32, y = x6 + 1 := ⟨_, rfl⟩
                          have tx54 : x54.toInt = x6.toInt + 1 := (jadd ex54 rfl jz_1 (by omega) (by omega)).trans (by omega)
                          refine lv_iinc (v := x54) (lv' := [(2, .int x54), (3, .int (σ 19 x6.toNatClampNeg)), (1, .int x5), (0, .ref (ad 18))]) hx hb dX10_worked_259 hl (k := 1) rfl (by rw [ex54]; rfl) (of_decide_eq_true rfl) rfl (fun ls hl => ?_)
                          refine lv_goto (tgt := 4) hx hb dX10_worked_262 (of_decide_eq_true rfl) ?_
                          exact by exact ihlp3 x5 x54 σ53 _ _ ls (by have h91 := tx54; omega) (by have h91 := tx54; omega) (by have h91 := tx54; omega) (by have h91 := tx54; omega) (by have h91 := tx54; omega) (fun i hi => ((jnp i eσ53 (imp_33 i hi)).trans (f16 i hi)))   (fun v h => q17 v (jWr.one h (by omega) (show (σ 19 x6.toNatClampNeg) = (σ 19) (x6.toInt).toNat from by rw [jnc (rfl : x6.toInt = x6.toInt)]) (by omega) ((jStk_top (f := σ9 21) (T := x5.toInt) (by omega)).trans (by rw [← jnc (show x49.toInt = x5.toInt - 1 by omega)])) (jStk_put (T := 0) (f := σ9 21) (g := σ53 21) (T' := x5.toInt) (q := x5.toInt - 1) (v := 1) (by rw [eσ53, jup_row, jnc (show x48.toInt = x5.toInt - 1 by have h9 := tx48; omega)]) (by omega) (by omega)) (Or.inl ⟨by omega, by omega, rfl⟩) (by have h9 := tx54; omega))) hP hS (lv_sub hl [0, 2, 3] rfl)
                 · exact by
                    have kc26 := jeq c26 rfl jz_20063
                    refine lv_aload_n hx hb dX10_worked_108 rfl (lv_at hl 3 rfl) ?_
                    refine va_get (D := D) hx hb hts inlX10 hown hK hP 18 (jc_18 cI cL ad σ9 τ) rfl 4 (of_decide_eq_true rfl) (hts _ kw_4_5) (fun _ h9 => h9) rfl dX10_worked_109 ?_
                    refine lv_iload_n hx hb dX10_worked_112 rfl (lv_at hl 2 rfl) ?_
                    refine lv_iconst (v := 1) hx hb dX10_worked_113 (of_decide_eq_true rfl) ?_
                    have g55 := jrg (rfl : x5.toInt = x5.toInt)
                    refine lv_isub hx hb dX10_worked_114 ?_
                    refine lv_topi (fun x56 ex56 => ?_)
                    have tx56 : x56.toInt = x5.toInt - 1 := (jsub ex56 rfl jz_1 (by omega) (by omega)).trans (by omega)
                    exact by
                     refine jald hx hb hK hP (jc_21 cI cL ad σ9 τ) (jin tx56 (by omega) (by omega)) dX10_worked_115 ?_
                     refine jtopr (y := (σ9 21 x56.toNatClampNeg)) rfl ?_
                     refine lv_if_eq (tgt := 123) hx hb dX10_worked_116 (of_decide_eq_true rfl) (fun c57 => ?_) (fun c57 => ?_)
                     · have kc57 := jeq c57 rfl jz_0
                       refine lv_iconst (v := 0) hx hb dX10_worked_123 (of_decide_eq_true rfl) ?_
                       refine lv_istore (lv' := [(4, .int 0), (3, .int (σ 19 x6.toNatClampNeg)), (2, .int x6), (1, .int x5), (0, .ref (ad 18))]) hx hb dX10_worked_124 hl (of_decide_eq_true rfl) rfl (fun ls hl => ?_)
                       refine lv_iconst (v := 0) hx hb dX10_worked_126 (of_decide_eq_true rfl) ?_
                       refine lv_istore_n (lv' := [(1, .int 0), (4, .int 0), (3, .int (σ 19 x6.toNatClampNeg)), (2, .int x6), (0, .ref (ad 18))]) hx hb dX10_worked_127 rfl hl (of_decide_eq_true rfl) rfl (fun ls hl => ?_)
                       obtain ⟨x58, ex58⟩ : ∃ y : Int32, y = x6 + 1 := ⟨_, rfl⟩
                       exact by
                        have tx58 : x58.toInt = x6.toInt + 1 := (jadd ex58 rfl jz_1 (by omega) (by omega)).trans (by omega)
                        refine lv_iinc (v := x58) (lv' := [(2, .int x58), (1, .int 0), (4, .int 0), (3, .int (σ 19 x6.toNatClampNeg)), (0, .ref (ad 18))]) hx hb dX10_worked_128 hl (k := 3) rfl (by rw [ex58]; rfl) (of_decide_eq_true rfl) rfl (fun ls hl => ?_)
                        refine lv_iload hx hb dX10_worked_131 (lv_at hl 2 rfl) ?_
                        refine lv_if_ne (tgt := 157) hx hb dX10_worked_133 (of_decide_eq_true rfl) (fun c => absurd (of_decide_eq_true rfl) c) (fun _ => ?_)
                        refine lv_iload_n hx hb dX10_worked_136 rfl (lv_at hl 0 rfl) ?_
                        refine lv_aload_n hx hb dX10_worked_137 rfl (lv_at hl 4 rfl) ?_
                        refine va_get (D := D) hx hb hts inlX10 hown hK hP 18 (jc_18 cI cL ad σ9 τ) rfl 0 (of_decide_eq_true rfl) (hts _ kw_16_20) (fun _ h9 => h9) rfl dX10_worked_138 ?_
                        refine jtopr m18 ?_
                        refine lv_icmp_ge (tgt := 157) hx hb dX10_worked_141 (of_decide_eq_true rfl) (fun c59 => ?_) (fun c59 => ?_)
                        · exact by
                           have kc59 := jle c59 rfl tx58
                           refine lv_goto (tgt := 259) hx hb dX10_worked_157 (of_decide_eq_true rfl) ?_
                           obtain ⟨x60, ex60⟩ : ∃ y : Int32, y = x58 + 1 := ⟨_, rfl⟩
                           have tx60 : x60.toInt = x6.toInt + 2 := (jadd ex60 tx58 jz_1 (by omega) (by omega)).trans (by omega)
                           refine lv_iinc (v := x60) (lv' := [(2, .int x60), (1, .int 0), (4, .int 0), (3, .int (σ 19 x6.toNatClampNeg)), (0, .ref (ad 18))]) hx hb dX10_worked_259 hl (k := 0) rfl (by rw [ex60]; rfl) (of_decide_eq_true rfl) rfl (fun ls hl => ?_)
                           refine lv_goto (tgt := 4) hx hb dX10_worked_262 (of_decide_eq_true rfl) ?_
                           exact by exact ihlp3 0 x60 σ9 _ _ ls (by have h90 := jz_0; have h91 := tx60; omega) (by have h90 := jz_0; have h91 := tx60; omega) (by have h90 := jz_0; have h91 := tx60; omega) (by have h90 := jz_0; have h91 := tx60; omega) (by have h90 := jz_0; have h91 := tx60; omega) (fun i hi => (f16 i hi))   (fun v h => q17 v (jWr.ask (t := jStk (σ9 21) (x5.toInt - 1).toNat) (a' := x60.toInt) (by rw [jz_0] at h; exact h) (by omega) (show (σ 19 x6.toNatClampNeg) = (σ 19) (x6.toInt).toNat from by rw [jnc (rfl : x6.toInt = x6.toInt)]) (by omega) ((jStk_top (f := σ9 21) (T := x5.toInt) (by omega)).trans (by rw [← jnc (show x56.toInt = x5.toInt - 1 by omega)])) (Or.inl ⟨Or.inr (by omega), by have h9 := tx60; omega⟩))) hP hS (lv_sub hl [0, 1, 4] rfl)
                        · have kc59 := jnle c59 rfl tx58
                          refine lv_iload_n hx hb dX10_worked_144 rfl (lv_at hl 0 rfl) ?_
                          exact by
                           refine lv_aload_n hx hb dX10_worked_145 rfl (lv_at hl 4 rfl) ?_
                           refine va_get (D := D) hx hb hts inlX10 hown hK hP 18 (jc_18 cI cL ad σ9 τ) rfl 2 (of_decide_eq_true rfl) (hts _ kw_4_3) (fun _ h9 => h9) rfl dX10_worked_146 ?_
                           refine lv_iload_n hx hb dX10_worked_149 rfl (lv_at hl 0 rfl) ?_
                           refine jald hx hb hK hP (jc_19 cI cL ad σ9 τ) (jin tx58 (by omega) (by omega)) dX10_worked_150 ?_
                           have g61 := w20 _ (jnat (x := x58) tx58 (n := 160) (by omega) (of_decide_eq_true rfl))
                           refine jtopr (y := (σ 19 x58.toNatClampNeg)) (by rw [f16 19 (of_decide_eq_true rfl)]) ?_
                           rw [f16 19 (of_decide_eq_true rfl)] at g61
                           refine lv_iconst (v := 1) hx hb dX10_worked_151 (of_decide_eq_true rfl) ?_
                           have g62 := jrg (rfl : (σ 19 x58.toNatClampNeg).toInt = (σ 19 x58.toNatClampNeg).toInt)
                           exact by
                            refine lv_isub hx hb dX10_worked_152 ?_
                            refine lv_topi (fun x63 ex63 => ?_)
                            have tx63 : x63.toInt = (σ 19 x58.toNatClampNeg).toInt - 1 := (jsub ex63 rfl jz_1 (by omega) (by omega)).trans (by omega)
                            refine va_mmax hx hb (hml.trans hl.1.symm) hown (hts _ kw_22_21) (hts _ kw_21_0) (hts _ kw_21_1) (hts _ kw_21_2) (Nat.le_of_ble_eq_true rfl) (Nat.le_of_ble_eq_true rfl) (Nat.le_of_ble_eq_true rfl) (Nat.le_of_ble_eq_true rfl) dX10_worked_153 ?_
                            refine lv_topi (fun x64 ex64 => ?_)
                            have g65 := jmax ex64 tx58 tx63
                            refine lv_istore_n (lv' := [(2, .int x64), (1, .int 0), (4, .int 0), (3, .int (σ 19 x6.toNatClampNeg)), (0, .ref (ad 18))]) hx hb dX10_worked_156 rfl hl (of_decide_eq_true rfl) rfl (fun ls hl => ?_)
                            refine lv_goto (tgt := 259) hx hb dX10_worked_157 (of_decide_eq_true rfl) ?_
                            obtain ⟨x66, ex66⟩ : ∃ y : Int32, y = x64 + 1 := ⟨_, rfl⟩
                            exact by
                             have tx66 : x66.toInt = x64.toInt + 1 := (jadd ex66 rfl jz_1 (by omega) (by omega)).trans (by omega)
                             refine lv_iinc (v := x66) (lv' := [(2, .int x66), (1, .int 0), (4, .int 0), (3, .int (σ 19 x6.toNatClampNeg)), (0, .ref (ad 18))]) hx hb dX10_worked_259 hl (k := 0) rfl (by rw [ex66]; rfl) (of_decide_eq_true rfl) rfl (fun ls hl => ?_)
                             refine lv_goto (tgt := 4) hx hb dX10_worked_262 (of_decide_eq_true rfl) ?_
                             exact by exact ihlp3 0 x66 σ9 _ _ ls (by have h90 := jz_0; have h91 := tx66; omega) (by have h90 := jz_0; have h91 := tx66; omega) (by have h90 := jz_0; have h91 := tx66; omega) (by have h90 := jz_0; have h91 := tx66; omega) (by have h90 := jz_0; have h91 := tx66; omega) (fun i hi => (f16 i hi))   (fun v h => q17 v (jWr.ask (t := jStk (σ9 21) (x5.toInt - 1).toNat) (a' := x66.toInt) (by rw [jz_0] at h; exact h) (by omega) (show (σ 19 x6.toNatClampNeg) = (σ 19) (x6.toInt).toNat from by rw [jnc (rfl : x6.toInt = x6.toInt)]) (by omega) ((jStk_top (f := σ9 21) (T := x5.toInt) (by omega)).trans (by rw [← jnc (show x56.toInt = x5.toInt - 1 by omega)])) (Or.inr ⟨by omega, by omega, (σ 19 x58.toNatClampNeg), (by rw [jnc (show x58.toInt = x6.toInt + 1 by omega)]), (by have h9 := tx66; omega)⟩))) hP hS (lv_sub hl [0, 1, 4] rfl)
                     · have kc57 := jne c57 rfl jz_0
                       refine lv_iconst (v := 1) hx hb dX10_worked_119 (of_decide_eq_true rfl) ?_
                       refine lv_goto (tgt := 124) hx hb dX10_worked_120 (of_decide_eq_true rfl) ?_
                       refine lv_istore (lv' := [(4, .int 1), (3, .int (σ 19 x6.toNatClampNeg)), (2, .int x6), (1, .int x5), (0, .ref (ad 18))]) hx hb dX10_worked_124 hl (of_decide_eq_true rfl) rfl (fun ls hl => ?_)
                       refine lv_iconst (v := 0) hx hb dX10_worked_126 (of_decide_eq_true rfl) ?_
                       exact by
                        refine lv_istore_n (lv' := [(1, .int 0), (4, .int 1), (3, .int (σ 19 x6.toNatClampNeg)), (2, .int x6), (0, .ref (ad 18))]) hx hb dX10_worked_127 rfl hl (of_decide_eq_true rfl) rfl (fun ls hl => ?_)
                        obtain ⟨x67, ex67⟩ : ∃ y : Int32, y = x6 + 1 := ⟨_, rfl⟩
                        have tx67 : x67.toInt = x6.toInt + 1 := (jadd ex67 rfl jz_1 (by omega) (by omega)).trans (by omega)
                        refine lv_iinc (v := x67) (lv' := [(2, .int x67), (1, .int 0), (4, .int 1), (3, .int (σ 19 x6.toNatClampNeg)), (0, .ref (ad 18))]) hx hb dX10_worked_128 hl (k := 3) rfl (by rw [ex67]; rfl) (of_decide_eq_true rfl) rfl (fun ls hl => ?_)
                        refine lv_iload hx hb dX10_worked_131 (lv_at hl 2 rfl) ?_
                        refine lv_if_ne (tgt := 157) hx hb dX10_worked_133 (of_decide_eq_true rfl) (fun _ => ?_) (fun c => absurd c (of_decide_eq_true rfl))
                        refine lv_goto (tgt := 259) hx hb dX10_worked_157 (of_decide_eq_true rfl) ?_
                        obtain ⟨x68, ex68⟩ : ∃ y : Int32, y = x67 + 1 := ⟨_, rfl⟩
                        have tx68 : x68.toInt = x6.toInt + 2 := (jadd ex68 tx67 jz_1 (by omega) (by omega)).trans (by omega)
                        exact by
                         refine lv_iinc (v := x68) (lv' := [(2, .int x68), (1, .int 0), (4, .int 1), (3, .int (σ 19 x6.toNatClampNeg)), (0, .ref (ad 18))]) hx hb dX10_worked_259 hl (k := 0) rfl (by rw [ex68]; rfl) (of_decide_eq_true rfl) rfl (fun ls hl => ?_)
                         refine lv_goto (tgt := 4) hx hb dX10_worked_262 (of_decide_eq_true rfl) ?_
                         exact by exact ihlp3 0 x68 σ9 _ _ ls (by have h90 := jz_0; have h91 := tx68; omega) (by have h90 := jz_0; have h91 := tx68; omega) (by have h90 := jz_0; have h91 := tx68; omega) (by have h90 := jz_0; have h91 := tx68; omega) (by have h90 := jz_0; have h91 := tx68; omega) (fun i hi => (f16 i hi))   (fun v h => q17 v (jWr.ask (t := jStk (σ9 21) (x5.toInt - 1).toNat) (a' := x68.toInt) (by rw [jz_0] at h; exact h) (by omega) (show (σ 19 x6.toNatClampNeg) = (σ 19) (x6.toInt).toNat from by rw [jnc (rfl : x6.toInt = x6.toInt)]) (by omega) ((jStk_top (f := σ9 21) (T := x5.toInt) (by omega)).trans (by rw [← jnc (show x56.toInt = x5.toInt - 1 by omega)])) (Or.inl ⟨Or.inl (by omega), by have h9 := tx68; omega⟩))) hP hS (lv_sub hl [0, 1, 4] rfl)
               · have kc25 := jeq c25 rfl jz_20059
                 refine lv_iload_n hx hb dX10_worked_83 rfl (lv_at hl 2 rfl) ?_
                 refine lv_iconst (v := 1) hx hb dX10_worked_84 (of_decide_eq_true rfl) ?_
                 refine lv_icmp_ge (tgt := 92) hx hb dX10_worked_85 (of_decide_eq_true rfl) (fun c69 => ?_) (fun c => absurd (jnle c jz_1 rfl) (by omega))
                 have kc69 := jle c69 jz_1 rfl
                 refine lv_aload_n hx hb dX10_worked_92 rfl (lv_at hl 3 rfl) ?_
                 exact by
                  refine va_get (D := D) hx hb hts inlX10 hown hK hP 18 (jc_18 cI cL ad σ9 τ) rfl 4 (of_decide_eq_true rfl) (hts _ kw_4_5) (fun _ h9 => h9) rfl dX10_worked_93 ?_
                  refine lv_iload_n hx hb dX10_worked_96 rfl (lv_at hl 2 rfl) ?_
                  refine lv_iconst (v := 1) hx hb dX10_worked_97 (of_decide_eq_true rfl) ?_
                  have g70 := jrg (rfl : x5.toInt = x5.toInt)
                  refine lv_isub hx hb dX10_worked_98 ?_
                  refine lv_topi (fun x71 ex71 => ?_)
                  have tx71 : x71.toInt = x5.toInt - 1 := (jsub ex71 rfl jz_1 (by omega) (by omega)).trans (by omega)
                  refine jald hx hb hK hP (jc_21 cI cL ad σ9 τ) (jin tx71 (by omega) (by omega)) dX10_worked_99 ?_
                  refine jtopr (y := (σ9 21 x71.toNatClampNeg)) rfl ?_
                  exact by exact hret (σ9 21 x71.toNatClampNeg) σ9 τ _ _ _ _ rfl ⟨rfl, (fun i hi => (f16 i hi)), (q17 _ (jWr.semi (t := jStk (σ9 21) (x5.toInt - 1).toNat) (by omega) (show (σ 19 x6.toNatClampNeg) = (σ 19) (x6.toInt).toNat from by rw [jnc (rfl : x6.toInt = x6.toInt)]) (by omega) ((jStk_top (f := σ9 21) (T := x5.toInt) (by omega)).trans (by rw [← jnc (show x71.toInt = x5.toInt - 1 by omega)])))), trivial⟩ hP hS dX10_worked_100
          · exact by
             have kc22 := jnle c22 jz_20000 rfl
             refine lv_iload_n hx hb dX10_worked_26 rfl (lv_at hl 2 rfl) ?_
             refine lv_sipush (v := 160) hx hb dX10_worked_27 (of_decide_eq_true rfl) ?_
             refine lv_icmp_lt (tgt := 35) hx hb dX10_worked_30 (of_decide_eq_true rfl) (fun c72 => ?_) (fun c72 => ?_)
             · have kc72 := jlt c72 rfl jz_160
               refine lv_aload_n hx hb dX10_worked_35 rfl (lv_at hl 3 rfl) ?_
               refine va_get (D := D) hx hb hts inlX10 hown hK hP 18 (jc_18 cI cL ad σ9 τ) rfl 4 (of_decide_eq_true rfl) (hts _ kw_4_5) (fun _ h9 => h9) rfl dX10_worked_36 ?_
               refine lv_iload_n hx hb dX10_worked_39 rfl (lv_at hl 2 rfl) ?_
               obtain ⟨x73, ex73⟩ : ∃ y : Int32, y = x5 + 1 := ⟨_, rfl⟩
               exact by
                have tx73 : x73.toInt = x5.toInt + 1 := (jadd ex73 rfl jz_1 (by omega) (by omega)).trans (by omega)
                refine lv_iinc (v := x73) (lv' := [(1, .int x73), (3, .int (σ 19 x6.toNatClampNeg)), (2, .int x6), (0, .ref (ad 18))]) hx hb dX10_worked_40 hl (k := 2) rfl (by rw [ex73]; rfl) (of_decide_eq_true rfl) rfl (fun ls hl => ?_)
                refine lv_iload_n hx hb dX10_worked_43 rfl (lv_at hl 1 rfl) ?_
                refine lv_sipush (v := 10000) hx hb dX10_worked_44 (of_decide_eq_true rfl) ?_
                refine lv_icmp_ge (tgt := 54) hx hb dX10_worked_47 (of_decide_eq_true rfl) (fun c74 => ?_) (fun c74 => ?_)
                · have kc74 := jle c74 jz_10000 rfl
                  refine lv_aload_n hx hb dX10_worked_54 rfl (lv_at hl 3 rfl) ?_
                  refine va_get (D := D) hx hb hts inlX10 hown hK hP 18 (jc_18 cI cL ad σ9 τ) rfl 3 (of_decide_eq_true rfl) (hts _ kw_4_4) (fun _ h9 => h9) rfl dX10_worked_55 ?_
                  refine lv_iload_n hx hb dX10_worked_58 rfl (lv_at hl 1 rfl) ?_
                  exact by
                   refine lv_sipush (v := 10000) hx hb dX10_worked_59 (of_decide_eq_true rfl) ?_
                   have g75 := jrg (rfl : (σ 19 x6.toNatClampNeg).toInt = (σ 19 x6.toNatClampNeg).toInt)
                   refine lv_isub hx hb dX10_worked_62 ?_
                   refine lv_topi (fun x76 ex76 => ?_)
                   have tx76 : x76.toInt = (σ 19 x6.toNatClampNeg).toInt - 10000 := (jsub ex76 rfl jz_10000 (by omega) (by omega)).trans (by omega)
                   refine lv_bipush (v := 7) hx hb dX10_worked_63 (of_decide_eq_true rfl) ?_
                   refine lv_iand hx hb dX10_worked_65 ?_
                   refine lv_topi (fun x77 ex77 => ?_)
                   have gx77 := jrg (rfl : x77.toInt = x77.toInt)
                   exact by
                    have g78 : 0 ≤ x77.toInt ∧ x77.toInt ≤ 7 := jmask ex77 3 (of_decide_eq_true rfl) (of_decide_eq_true rfl)
                    refine jald hx hb hK hP (jc_20 cI cL ad σ9 τ) (jin rfl (by omega) (by omega)) dX10_worked_66 ?_
                    refine jtopr (y := (σ 20 x77.toNatClampNeg)) (by rw [f16 20 (of_decide_eq_true rfl)]) ?_
                    refine jast hx hb hK hP hJ hA hS (jc_21 cI cL ad σ9 τ) (ja_21 cI cL ad σ9 τ _ _) (jin rfl (by omega) (by omega)) dX10_worked_67 (fun σ79 H locs eσ79 hP hS => ?_)
                    refine lv_goto (tgt := 259) hx hb dX10_worked_68 (of_decide_eq_true rfl) ?_
                    obtain ⟨x80, ex80⟩ : ∃ y : Int32, y = x6 + 1 := ⟨_, rfl⟩
                    have tx80 : x80.toInt = x6.toInt + 1 := (jadd ex80 rfl jz_1 (by omega) (by omega)).trans (by omega)
                    refine lv_iinc (v := x80) (lv' := [(2, .int x80), (1, .int x73), (3, .int (σ 19 x6.toNatClampNeg)), (0, .ref (ad 18))]) hx hb dX10_worked_259 hl (k := 2) rfl (by rw [ex80]; rfl) (of_decide_eq_true rfl) rfl (fun ls hl => ?_)
                    refine lv_goto (tgt := 4) hx hb dX10_worked_262 (of_decide_eq_true rfl) ?_
                    exact by exact ihlp3 x73 x80 σ79 _ _ ls (by have h90 := tx73; have h91 := tx80; omega) (by have h90 := tx73; have h91 := tx80; omega) (by have h90 := tx73; have h91 := tx80; omega) (by have h90 := tx73; have h91 := tx80; omega) (by have h90 := tx73; have h91 := tx80; omega) (fun i hi => ((jnp i eσ79 (imp_33 i hi)).trans (f16 i hi)))   (fun v h => q17 v (jWr.push h (by omega) (show (σ 19 x6.toNatClampNeg) = (σ 19) (x6.toInt).toNat from by rw [jnc (rfl : x6.toInt = x6.toInt)]) (by omega) (by rw [jStk_len]; omega) (jStk_put (T := 0) (f := σ9 21) (g := σ79 21) (T' := x73.toInt) (q := x5.toInt) (v := (σ 20 x77.toNatClampNeg)) (by rw [eσ79, jup_row, jnc (rfl : x5.toInt = x5.toInt)]) (by omega) (by have h9 := tx73; omega)) (Or.inr ⟨by omega, (by rw [ex77, ex76])⟩) (by have h9 := tx80; omega))) hP hS (lv_sub hl [0, 1, 3] rfl)
                · exact by
                   have kc74 := jnle c74 jz_10000 rfl
                   refine lv_iload_n hx hb dX10_worked_50 rfl (lv_at hl 1 rfl) ?_
                   refine lv_goto (tgt := 67) hx hb dX10_worked_51 (of_decide_eq_true rfl) ?_
                   refine jast hx hb hK hP hJ hA hS (jc_21 cI cL ad σ9 τ) (ja_21 cI cL ad σ9 τ _ _) (jin rfl (by omega) (by omega)) dX10_worked_67 (fun σ81 H locs eσ81 hP hS => ?_)
                   refine lv_goto (tgt := 259) hx hb dX10_worked_68 (of_decide_eq_true rfl) ?_
                   obtain ⟨x82, ex82⟩ : ∃ y : Int32, y = x6 + 1 := ⟨_, rfl⟩
                   have tx82 : x82.toInt = x6.toInt + 1 := (jadd ex82 rfl jz_1 (by omega) (by omega)).trans (by omega)
                   refine lv_iinc (v := x82) (lv' := [(2, .int x82), (1, .int x73), (3, .int (σ 19 x6.toNatClampNeg)), (0, .ref (ad 18))]) hx hb dX10_worked_259 hl (k := 2) rfl (by rw [ex82]; rfl) (of_decide_eq_true rfl) rfl (fun ls hl => ?_)
                   refine lv_goto (tgt := 4) hx hb dX10_worked_262 (of_decide_eq_true rfl) ?_
                   exact by exact ihlp3 x73 x82 σ81 _ _ ls (by have h90 := tx73; have h91 := tx82; omega) (by have h90 := tx73; have h91 := tx82; omega) (by have h90 := tx73; have h91 := tx82; omega) (by have h90 := tx73; have h91 := tx82; omega) (by have h90 := tx73; have h91 := tx82; omega) (fun i hi => ((jnp i eσ81 (imp_33 i hi)).trans (f16 i hi)))   (fun v h => q17 v (jWr.push h (by omega) (show (σ 19 x6.toNatClampNeg) = (σ 19) (x6.toInt).toNat from by rw [jnc (rfl : x6.toInt = x6.toInt)]) (by omega) (by rw [jStk_len]; omega) (jStk_put (T := 0) (f := σ9 21) (g := σ81 21) (T' := x73.toInt) (q := x5.toInt) (v := (σ 19 x6.toNatClampNeg)) (by rw [eσ81, jup_row, jnc (rfl : x5.toInt = x5.toInt)]) (by omega) (by have h9 := tx73; omega)) (Or.inl ⟨by omega, rfl⟩) (by have h9 := tx82; omega))) hP hS (lv_sub hl [0, 1, 3] rfl)
             · exact by
                have kc72 := jnlt c72 rfl jz_160
                refine lv_iconst (v := 0) hx hb dX10_worked_33 (of_decide_eq_true rfl) ?_
                exact by exact hret 0 σ9 τ _ _ _ _ rfl ⟨rfl, (fun i hi => (f16 i hi)), (q17 _ (jWr.full (by omega) (by rw [← (show (σ 19 x6.toNatClampNeg) = (σ 19) (x6.toInt).toNat from by rw [jnc (rfl : x6.toInt = x6.toInt)])]; omega) (by rw [jStk_len]; omega))), trivial⟩ hP hS dX10_worked_34
  exact by exact lp3 1000000 0 0 σ _ _ ls (by have h90 := jz_0; have h91 := jz_0; omega) (by have h90 := jz_0; have h91 := jz_0; omega) (by have h90 := jz_0; have h91 := jz_0; omega) (by have h90 := jz_0; have h91 := jz_0; omega) (by have h90 := jz_0; have h91 := jz_0; omega) (fun _ _ => rfl)  (fun v h => by rw [jz_0] at h; exact h) hP hS hl
set_option maxHeartbeats 4000000 in
set_option maxRecDepth 100000 in
theorem c_X10_worked_22 (l : Launch) (D : va_G) (cI cL : ClassId) (ad zz : Nat → Nat) (hJ : jD ad) (σ : Nat → Nat → Int32) (τ : Nat → Nat → Int64) (hI22 : jI22 σ) : jM l yX10_worked cX10_worked 5 (some .int) ({ frames := 1, cells := 0, slots := 0, locals := 22 }) D cI cL ad zz [.ref (ad 22)] σ τ (fun r σ' τ' => τ = τ' ∧ (∀ i : Nat, (i < 25 ∨ 25 < i) → σ' i = σ i) ∧ (jWr (σ 23) (σ 22 0).toInt (σ 24) 0 [] r) ∧ True) := by
  refine jM.of hJ (by decide +kernel) (nt := .int) rfl (Nat.le_of_ble_eq_true rfl) ?_
  intro p e s m args below meth c Q ls hC hret hl hP
  obtain ⟨hx, hb, hr, hml, hown, hts, hK, -, hlocks, hZ⟩ := hC
  have hown : s.vm.findClass RX10 = some m.cls := hown
  have hS : va_S (jA ad) s.heap s.heap [] := va_S.rf
  have hA : ∀ q, jA ad q → jA ad q := fun _ h => h
  have hl : lv_has ls 5 [(0, .ref (ad 22))] := hl
  obtain ⟨i1, w2⟩ : (0 ≤ (σ 22 0).toInt ∧ (σ 22 0).toInt ≤ 160) ∧ (∀ k : Nat, k < 160 → 0 ≤ (σ 23 k).toInt ∧ (σ 23 k).toInt ≤ 30000) := id hI22
  refine lv_iconst (v := 0) hx hb dX10_worked_0 (of_decide_eq_true rfl) ?_
  refine lv_istore_n (lv' := [(1, .int 0), (0, .ref (ad 22))]) hx hb dX10_worked_1 rfl hl (of_decide_eq_true rfl) rfl (fun ls hl => ?_)
  refine lv_iconst (v := 0) hx hb dX10_worked_2 (of_decide_eq_true rfl) ?_
  refine lv_istore_n (lv' := [(2, .int 0), (1, .int 0), (0, .ref (ad 22))]) hx hb dX10_worked_3 rfl hl (of_decide_eq_true rfl) rfl (fun ls hl => ?_)
  have lp3 : ∀ (n4 : Nat) (x5 : Int32) (x6 : Int32) (σ9 : Nat → Nat → Int32) (H : Heap) (locs : List Loc) (ls : Array Slot), (-x6.toInt + 30001 : Int) < n4 → 0 ≤ x5.toInt → x5.toInt ≤ 160 → 0 ≤ x6.toInt → x6.toInt ≤ 30000 → (∀ i : Nat, (i < 25 ∨ 25 < i) → σ9 i = σ i) → (∀ v : Int32, jWr (σ 23) (σ 22 0).toInt (σ 24) (x6.toInt) (jStk (σ9 25) (x5.toInt).toNat) v → jWr (σ 23) (σ 22 0).toInt (σ 24) 0 [] v) → jH D cI cL ad σ9 τ H → va_S (jA ad) s.heap H locs → lv_has ls 5 [(2, .int x6), (1, .int x5), (0, .ref (ad 22))] → W p l e ({ frames := 1, cells := 0, slots := 0, locals := 22 }) s m args below meth c H locs 0 0 Q (F0 m 4 ls []) := by
    intro n4
    induction n4 with
    | zero => intro x5 x6 σ9 H locs ls h11 h12 h13 h14 h15; exact absurd h11 (by omega)
    | succ n4 ihlp3 =>
      intro x5 x6 σ9 H locs ls h11 h12 h13 h14 h15 f16 q17 hP hS hl
      exact by
       refine lv_iload_n hx hb dX10_worked_4 rfl (lv_at hl 0 rfl) ?_
       refine lv_aload_n hx hb dX10_worked_5 rfl (lv_at hl 2 rfl) ?_
       refine va_get (D := D) hx hb hts inlX10 hown hK hP 22 (jc_22 cI cL ad σ9 τ) rfl 0 (of_decide_eq_true rfl) (hts _ kw_16_20) (fun _ h9 => h9) rfl dX10_worked_6 ?_
       have m18 : σ9 22 0 = (σ 22 0) := (congrFun (f16 22 (of_decide_eq_true rfl)) 0)
       refine jtopr m18 ?_
       refine lv_icmp_ge (tgt := 265) hx hb dX10_worked_9 (of_decide_eq_true rfl) (fun c19 => ?_) (fun c19 => ?_)
       · have kc19 := jle c19 rfl rfl
         refine lv_iconst (v := 0) hx hb dX10_worked_265 (of_decide_eq_true rfl) ?_
         exact hret 0 σ9 τ _ _ _ _ rfl ⟨rfl, (fun i hi => (f16 i hi)), (q17 _ (jWr.out (by omega))), trivial⟩ hP hS dX10_worked_266
       · have kc19 := jnle c19 rfl rfl
         refine lv_aload_n hx hb dX10_worked_12 rfl (lv_at hl 2 rfl) ?_
         refine va_get (D := D) hx hb hts inlX10 hown hK hP 22 (jc_22 cI cL ad σ9 τ) rfl 2 (of_decide_eq_true rfl) (hts _ kw_4_3) (fun _ h9 => h9) rfl dX10_worked_13 ?_
         refine lv_iload_n hx hb dX10_worked_16 rfl (lv_at hl 0 rfl) ?_
         exact by
          refine jald hx hb hK hP (jc_23 cI cL ad σ9 τ) (jin rfl (by omega) (by omega)) dX10_worked_17 ?_
          have w20 : ∀ k : Nat, k < 160 → 0 ≤ (σ9 23 k).toInt ∧ (σ9 23 k).toInt ≤ 30000 := (jrr_fr (f16 23 (of_decide_eq_true rfl)) w2)
          have g21 := w20 _ (jnat (x := x6) rfl (n := 160) (by omega) (of_decide_eq_true rfl))
          refine jtopr (y := (σ 23 x6.toNatClampNeg)) (by rw [f16 23 (of_decide_eq_true rfl)]) ?_
          rw [f16 23 (of_decide_eq_true rfl)] at g21
          refine lv_istore_n (lv' := [(3, .int (σ 23 x6.toNatClampNeg)), (2, .int x6), (1, .int x5), (0, .ref (ad 22))]) hx hb dX10_worked_18 rfl hl (of_decide_eq_true rfl) rfl (fun ls hl => ?_)
          refine lv_iload_n hx hb dX10_worked_19 rfl (lv_at hl 0 rfl) ?_
          refine lv_sipush (v := 20000) hx hb dX10_worked_20 (of_decide_eq_true rfl) ?_
          refine lv_icmp_ge (tgt := 71) hx hb dX10_worked_23 (of_decide_eq_true rfl) (fun c22 => ?_) (fun c22 => ?_)
          · exact by
             have kc22 := jle c22 jz_20000 rfl
             refine lv_iload_n hx hb dX10_worked_71 rfl (lv_at hl 2 rfl) ?_
             refine lv_iconst (v := 1) hx hb dX10_worked_72 (of_decide_eq_true rfl) ?_
             refine lv_icmp_lt (tgt := 83) hx hb dX10_worked_73 (of_decide_eq_true rfl) (fun c23 => ?_) (fun c23 => ?_)
             · have kc23 := jlt c23 rfl jz_1
               refine lv_iload_n hx hb dX10_worked_83 rfl (lv_at hl 2 rfl) ?_
               refine lv_iconst (v := 1) hx hb dX10_worked_84 (of_decide_eq_true rfl) ?_
               refine lv_icmp_ge (tgt := 92) hx hb dX10_worked_85 (of_decide_eq_true rfl) (fun c => absurd (jle c jz_1 rfl) (by omega)) (fun c24 => ?_)
               have kc24 := jnle c24 jz_1 rfl
               exact by
                refine lv_iconst (v := 0) hx hb dX10_worked_88 (of_decide_eq_true rfl) ?_
                refine lv_goto (tgt := 100) hx hb dX10_worked_89 (of_decide_eq_true rfl) ?_
                exact by exact hret 0 σ9 τ _ _ _ _ rfl ⟨rfl, (fun i hi => (f16 i hi)), (q17 _ (jWr.none (by omega) (show (σ 23 x6.toNatClampNeg) = (σ 23) (x6.toInt).toNat from by rw [jnc (rfl : x6.toInt = x6.toInt)]) (by omega) (by rw [show x5.toInt = 0 by omega]; rfl))), trivial⟩ hP hS dX10_worked_100
             · have kc23 := jnlt c23 rfl jz_1
               refine lv_iload_n hx hb dX10_worked_76 rfl (lv_at hl 0 rfl) ?_
               refine lv_sipush (v := 20059) hx hb dX10_worked_77 (of_decide_eq_true rfl) ?_
               refine lv_icmp_ne (tgt := 101) hx hb dX10_worked_80 (of_decide_eq_true rfl) (fun c25 => ?_) (fun c25 => ?_)
               · have kc25 := jne c25 rfl jz_20059
                 refine lv_iload_n hx hb dX10_worked_101 rfl (lv_at hl 0 rfl) ?_
                 refine lv_sipush (v := 20063) hx hb dX10_worked_102 (of_decide_eq_true rfl) ?_
                 refine lv_icmp_ne (tgt := 160) hx hb dX10_worked_105 (of_decide_eq_true rfl) (fun c26 => ?_) (fun c26 => ?_)
                 · have kc26 := jne c26 rfl jz_20063
                   refine lv_iload_n hx hb dX10_worked_160 rfl (lv_at hl 0 rfl) ?_
                   refine lv_sipush (v := 20033) hx hb dX10_worked_161 (of_decide_eq_true rfl) ?_
                   refine lv_icmp_ne (tgt := 194) hx hb dX10_worked_164 (of_decide_eq_true rfl) (fun c27 => ?_) (fun c27 => ?_)
                   · have kc27 := jne c27 rfl jz_20033
                     refine lv_iload_n hx hb dX10_worked_194 rfl (lv_at hl 0 rfl) ?_
                     refine lv_sipush (v := 20126) hx hb dX10_worked_195 (of_decide_eq_true rfl) ?_
                     refine lv_icmp_ne (tgt := 221) hx hb dX10_worked_198 (of_decide_eq_true rfl) (fun c28 => ?_) (fun c28 => ?_)
                     · have kc28 := jne c28 rfl jz_20126
                       refine lv_iload_n hx hb dX10_worked_221 rfl (lv_at hl 2 rfl) ?_
                       refine lv_iconst (v := 1) hx hb dX10_worked_222 (of_decide_eq_true rfl) ?_
                       refine lv_icmp_le (tgt := 259) hx hb dX10_worked_223 (of_decide_eq_true rfl) (fun c29 => ?_) (fun c29 => ?_)
                       · have kc29 := jle c29 rfl jz_1
                         obtain ⟨x30, ex30⟩ : ∃ y : Int32, y = x6 + 1 := ⟨_, rfl⟩
                         exact by
                          have tx30 : x30.toInt = x6.toInt + 1 := (jadd ex30 rfl jz_1 (by omega) (by omega)).trans (by omega)
                          refine lv_iinc (v := x30) (lv' := [(2, .int x30), (3, .int (σ 23 x6.toNatClampNeg)), (1, .int x5), (0, .ref (ad 22))]) hx hb dX10_worked_259 hl (k := 1) rfl (by rw [ex30]; rfl) (of_decide_eq_true rfl) rfl (fun ls hl => ?_)
                          refine lv_goto (tgt := 4) hx hb dX10_worked_262 (of_decide_eq_true rfl) ?_
                          exact by exact ihlp3 x5 x30 σ9 _ _ ls (by have h91 := tx30; omega) (by have h91 := tx30; omega) (by have h91 := tx30; omega) (by have h91 := tx30; omega) (by have h91 := tx30; omega) (fun i hi => (f16 i hi))   (fun v h => q17 v (jWr.skip (x := σ9 25 (0 : Int).toNat) h (by omega) (show (σ 23 x6.toNatClampNeg) = (σ 23) (x6.toInt).toNat from by rw [jnc (rfl : x6.toInt = x6.toInt)]) (by omega) ⟨by omega, by omega, by omega, by omega⟩ (by have w9 := jStk_top (f := σ9 25) (T := x5.toInt) (by omega); rw [show x5.toInt - 1 = 0 by omega] at w9; exact w9) (by have h9 := tx30; omega))) hP hS (lv_sub hl [0, 2, 3] rfl)
                       · have kc29 := jnle c29 rfl jz_1
                         obtain ⟨x31, ex31⟩ : ∃ y : Int32, y = x5 + (-1) := ⟨_, rfl⟩
                         have tx31 : x31.toInt = x5.toInt - 1 := (jadd ex31 rfl jz_m1 (by omega) (by omega)).trans (by omega)
                         refine lv_iinc (v := x31) (lv' := [(1, .int x31), (3, .int (σ 23 x6.toNatClampNeg)), (2, .int x6), (0, .ref (ad 22))]) hx hb dX10_worked_226 hl (k := 2) rfl (by rw [ex31]; rfl) (of_decide_eq_true rfl) rfl (fun ls hl => ?_)
                         refine lv_aload_n hx hb dX10_worked_229 rfl (lv_at hl 3 rfl) ?_
                         exact by
                          refine va_get (D := D) hx hb hts inlX10 hown hK hP 22 (jc_22 cI cL ad σ9 τ) rfl 4 (of_decide_eq_true rfl) (hts _ kw_4_5) (fun _ h9 => h9) rfl dX10_worked_230 ?_
                          refine lv_iload_n hx hb dX10_worked_233 rfl (lv_at hl 0 rfl) ?_
                          refine lv_iconst (v := 1) hx hb dX10_worked_234 (of_decide_eq_true rfl) ?_
                          refine lv_isub hx hb dX10_worked_235 ?_
                          refine lv_topi (fun x32 ex32 => ?_)
                          have tx32 : x32.toInt = x5.toInt - 2 := (jsub ex32 tx31 jz_1 (by omega) (by omega)).trans (by omega)
                          refine lv_iload_n hx hb dX10_worked_236 rfl (lv_at hl 1 rfl) ?_
                          refine lv_sipush (v := 20000) hx hb dX10_worked_237 (of_decide_eq_true rfl) ?_
                          have g33 := jrg (rfl : (σ 23 x6.toNatClampNeg).toInt = (σ 23 x6.toNatClampNeg).toInt)
                          exact by
                           refine lv_isub hx hb dX10_worked_240 ?_
                           refine lv_topi (fun x34 ex34 => ?_)
                           have tx34 : x34.toInt = (σ 23 x6.toNatClampNeg).toInt - 20000 := (jsub ex34 rfl jz_20000 (by omega) (by omega)).trans (by omega)
                           refine lv_aload_n hx hb dX10_worked_241 rfl (lv_at hl 3 rfl) ?_
                           refine va_get (D := D) hx hb hts inlX10 hown hK hP 22 (jc_22 cI cL ad σ9 τ) rfl 4 (of_decide_eq_true rfl) (hts _ kw_4_5) (fun _ h9 => h9) rfl dX10_worked_242 ?_
                           refine lv_iload_n hx hb dX10_worked_245 rfl (lv_at hl 0 rfl) ?_
                           refine lv_iconst (v := 1) hx hb dX10_worked_246 (of_decide_eq_true rfl) ?_
                           refine lv_isub hx hb dX10_worked_247 ?_
                           refine lv_topi (fun x35 ex35 => ?_)
                           exact by
                            have tx35 : x35.toInt = x5.toInt - 2 := (jsub ex35 tx31 jz_1 (by omega) (by omega)).trans (by omega)
                            refine jald hx hb hK hP (jc_25 cI cL ad σ9 τ) (jin tx35 (by omega) (by omega)) dX10_worked_248 ?_
                            refine jtopr (y := (σ9 25 x35.toNatClampNeg)) rfl ?_
                            refine lv_aload_n hx hb dX10_worked_249 rfl (lv_at hl 3 rfl) ?_
                            refine va_get (D := D) hx hb hts inlX10 hown hK hP 22 (jc_22 cI cL ad σ9 τ) rfl 4 (of_decide_eq_true rfl) (hts _ kw_4_5) (fun _ h9 => h9) rfl dX10_worked_250 ?_
                            refine lv_iload_n hx hb dX10_worked_253 rfl (lv_at hl 0 rfl) ?_
                            refine jald hx hb hK hP (jc_25 cI cL ad σ9 τ) (jin tx31 (by omega) (by omega)) dX10_worked_254 ?_
                            refine jtopr (y := (σ9 25 x31.toNatClampNeg)) rfl ?_
                            refine jcallS (As := [.int x34, .int (σ9 25 x35.toNatClampNeg), .int (σ9 25 x31.toNatClampNeg)]) (rest := [.int x32, .ref (ad 25)]) ⟨hx, hb, hml, hown, hts⟩ hK hP hA hS hZ (c_X10_joined l D cI cL ad zz hJ σ9 τ x34 ((σ 23 x6.toNatClampNeg).toInt - 20000) tx34 (σ9 25 x35.toNatClampNeg) ((σ9 25 x35.toNatClampNeg).toInt) rfl (σ9 25 x31.toNatClampNeg) ((σ9 25 x31.toNatClampNeg).toInt) rfl) cw_RX10_38 ⟨Nat.le_of_ble_eq_true rfl, Nat.le_of_ble_eq_true rfl⟩ rfl rfl rfl hl.1 rfl (Nat.le_of_ble_eq_true rfl) dX10_worked_255 ⟨Nat.zero_le _, Nat.zero_le _⟩ (fun r37 σ36 τ36 H locs h36 hP hS => ?_)
                            exact by
                             obtain ⟨⟨rfl, rfl⟩, w38, h36⟩ := h36
                             refine jast hx hb hK hP hJ hA hS (jc_25 cI cL ad σ9 τ) (ja_25 cI cL ad σ9 τ _ _) (jin tx32 (by omega) (by omega)) dX10_worked_258 (fun σ39 H locs eσ39 hP hS => ?_)
                             obtain ⟨x40, ex40⟩ : ∃ y : Int32, y = x6 + 1 := ⟨_, rfl⟩
                             have tx40 : x40.toInt = x6.toInt + 1 := (jadd ex40 rfl jz_1 (by omega) (by omega)).trans (by omega)
                             refine lv_iinc (v := x40) (lv' := [(2, .int x40), (1, .int x31), (3, .int (σ 23 x6.toNatClampNeg)), (0, .ref (ad 22))]) hx hb dX10_worked_259 hl (k := 2) rfl (by rw [ex40]; rfl) (of_decide_eq_true rfl) rfl (fun ls hl => ?_)
                             refine lv_goto (tgt := 4) hx hb dX10_worked_262 (of_decide_eq_true rfl) ?_
                             exact by exact ihlp3 x31 x40 σ39 _ _ ls (by have h90 := tx31; have h91 := tx40; omega) (by have h90 := tx31; have h91 := tx40; omega) (by have h90 := tx31; have h91 := tx40; omega) (by have h90 := tx31; have h91 := tx40; omega) (by have h90 := tx31; have h91 := tx40; omega) (fun i hi => ((jnp i eσ39 (imp_34 i hi)).trans (f16 i hi)))   (fun v h => q17 v (jWr.two h (by omega) (show (σ 23 x6.toNatClampNeg) = (σ 23) (x6.toInt).toNat from by rw [jnc (rfl : x6.toInt = x6.toInt)]) (by omega) ⟨by omega, by omega, by omega, by omega⟩ ((jStk_top (f := σ9 25) (T := x5.toInt) (by omega)).trans (by rw [jStk_top (f := σ9 25) (T := x5.toInt - 1) (by omega), show x5.toInt - 1 - 1 = x5.toInt - 2 by omega, ← jnc (show x31.toInt = x5.toInt - 1 by omega), ← jnc (show x35.toInt = x5.toInt - 2 by omega)])) (jStk_put (T := 0) (f := σ9 25) (g := σ39 25) (T' := x31.toInt) (q := x5.toInt - 2) (v := r37) (by rw [eσ39, jup_row, jnc (show x32.toInt = x5.toInt - 2 by have h9 := tx32; omega)]) (by omega) (by have h9 := tx31; omega)) ((w38).trans (by rw [show (σ 23 x6.toNatClampNeg).toInt - 20000 = (σ 23 x6.toNatClampNeg).toInt - 20000 by omega])) (by have h9 := tx40; omega))) hP hS (lv_sub hl [0, 1, 3] rfl)
                     · have kc28 := jeq c28 rfl jz_20126
                       refine lv_aload_n hx hb dX10_worked_201 rfl (lv_at hl 3 rfl) ?_
                       exact by
                        refine va_get (D := D) hx hb hts inlX10 hown hK hP 22 (jc_22 cI cL ad σ9 τ) rfl 4 (of_decide_eq_true rfl) (hts _ kw_4_5) (fun _ h9 => h9) rfl dX10_worked_202 ?_
                        refine lv_iload_n hx hb dX10_worked_205 rfl (lv_at hl 2 rfl) ?_
                        refine lv_iconst (v := 1) hx hb dX10_worked_206 (of_decide_eq_true rfl) ?_
                        have g41 := jrg (rfl : x5.toInt = x5.toInt)
                        refine lv_isub hx hb dX10_worked_207 ?_
                        refine lv_topi (fun x42 ex42 => ?_)
                        have tx42 : x42.toInt = x5.toInt - 1 := (jsub ex42 rfl jz_1 (by omega) (by omega)).trans (by omega)
                        refine lv_aload_n hx hb dX10_worked_208 rfl (lv_at hl 3 rfl) ?_
                        refine va_get (D := D) hx hb hts inlX10 hown hK hP 22 (jc_22 cI cL ad σ9 τ) rfl 4 (of_decide_eq_true rfl) (hts _ kw_4_5) (fun _ h9 => h9) rfl dX10_worked_209 ?_
                        exact by
                         refine lv_iload_n hx hb dX10_worked_212 rfl (lv_at hl 2 rfl) ?_
                         refine lv_iconst (v := 1) hx hb dX10_worked_213 (of_decide_eq_true rfl) ?_
                         refine lv_isub hx hb dX10_worked_214 ?_
                         refine lv_topi (fun x43 ex43 => ?_)
                         have tx43 : x43.toInt = x5.toInt - 1 := (jsub ex43 rfl jz_1 (by omega) (by omega)).trans (by omega)
                         refine jald hx hb hK hP (jc_25 cI cL ad σ9 τ) (jin tx43 (by omega) (by omega)) dX10_worked_215 ?_
                         refine jtopr (y := (σ9 25 x43.toNatClampNeg)) rfl ?_
                         refine lv_ineg hx hb dX10_worked_216 ?_
                         refine lv_topi (fun x44 ex44 => ?_)
                         exact by
                          have gx44 := jrg (rfl : x44.toInt = x44.toInt)
                          refine jast hx hb hK hP hJ hA hS (jc_25 cI cL ad σ9 τ) (ja_25 cI cL ad σ9 τ _ _) (jin tx42 (by omega) (by omega)) dX10_worked_217 (fun σ45 H locs eσ45 hP hS => ?_)
                          refine lv_goto (tgt := 259) hx hb dX10_worked_218 (of_decide_eq_true rfl) ?_
                          obtain ⟨x46, ex46⟩ : ∃ y : Int32, y = x6 + 1 := ⟨_, rfl⟩
                          have tx46 : x46.toInt = x6.toInt + 1 := (jadd ex46 rfl jz_1 (by omega) (by omega)).trans (by omega)
                          refine lv_iinc (v := x46) (lv' := [(2, .int x46), (3, .int (σ 23 x6.toNatClampNeg)), (1, .int x5), (0, .ref (ad 22))]) hx hb dX10_worked_259 hl (k := 1) rfl (by rw [ex46]; rfl) (of_decide_eq_true rfl) rfl (fun ls hl => ?_)
                          refine lv_goto (tgt := 4) hx hb dX10_worked_262 (of_decide_eq_true rfl) ?_
                          exact by exact ihlp3 x5 x46 σ45 _ _ ls (by have h91 := tx46; omega) (by have h91 := tx46; omega) (by have h91 := tx46; omega) (by have h91 := tx46; omega) (by have h91 := tx46; omega) (fun i hi => ((jnp i eσ45 (imp_34 i hi)).trans (f16 i hi)))   (fun v h => q17 v (jWr.one h (by omega) (show (σ 23 x6.toNatClampNeg) = (σ 23) (x6.toInt).toNat from by rw [jnc (rfl : x6.toInt = x6.toInt)]) (by omega) ((jStk_top (f := σ9 25) (T := x5.toInt) (by omega)).trans (by rw [← jnc (show x43.toInt = x5.toInt - 1 by omega)])) (jStk_put (T := 0) (f := σ9 25) (g := σ45 25) (T' := x5.toInt) (q := x5.toInt - 1) (v := x44) (by rw [eσ45, jup_row, jnc (show x42.toInt = x5.toInt - 1 by have h9 := tx42; omega)]) (by omega) (by omega)) (Or.inr (Or.inr ⟨by omega, ex44⟩)) (by have h9 := tx46; omega))) hP hS (lv_sub hl [0, 2, 3] rfl)
                   · have kc27 := jeq c27 rfl jz_20033
                     exact by
                      refine lv_aload_n hx hb dX10_worked_167 rfl (lv_at hl 3 rfl) ?_
                      refine va_get (D := D) hx hb hts inlX10 hown hK hP 22 (jc_22 cI cL ad σ9 τ) rfl 4 (of_decide_eq_true rfl) (hts _ kw_4_5) (fun _ h9 => h9) rfl dX10_worked_168 ?_
                      refine lv_iload_n hx hb dX10_worked_171 rfl (lv_at hl 2 rfl) ?_
                      refine lv_iconst (v := 1) hx hb dX10_worked_172 (of_decide_eq_true rfl) ?_
                      have g47 := jrg (rfl : x5.toInt = x5.toInt)
                      refine lv_isub hx hb dX10_worked_173 ?_
                      refine lv_topi (fun x48 ex48 => ?_)
                      have tx48 : x48.toInt = x5.toInt - 1 := (jsub ex48 rfl jz_1 (by omega) (by omega)).trans (by omega)
                      refine lv_aload_n hx hb dX10_worked_174 rfl (lv_at hl 3 rfl) ?_
                      exact by
                       refine va_get (D := D) hx hb hts inlX10 hown hK hP 22 (jc_22 cI cL ad σ9 τ) rfl 4 (of_decide_eq_true rfl) (hts _ kw_4_5) (fun _ h9 => h9) rfl dX10_worked_175 ?_
                       refine lv_iload_n hx hb dX10_worked_178 rfl (lv_at hl 2 rfl) ?_
                       refine lv_iconst (v := 1) hx hb dX10_worked_179 (of_decide_eq_true rfl) ?_
                       refine lv_isub hx hb dX10_worked_180 ?_
                       refine lv_topi (fun x49 ex49 => ?_)
                       have tx49 : x49.toInt = x5.toInt - 1 := (jsub ex49 rfl jz_1 (by omega) (by omega)).trans (by omega)
                       refine jald hx hb hK hP (jc_25 cI cL ad σ9 τ) (jin tx49 (by omega) (by omega)) dX10_worked_181 ?_
                       refine jtopr (y := (σ9 25 x49.toNatClampNeg)) rfl ?_
                       refine lv_if_ne (tgt := 189) hx hb dX10_worked_182 (of_decide_eq_true rfl) (fun c50 => ?_) (fun c50 => ?_)
                       · exact by
                          have kc50 := jne c50 rfl jz_0
                          refine lv_iconst (v := 0) hx hb dX10_worked_189 (of_decide_eq_true rfl) ?_
                          refine jast hx hb hK hP hJ hA hS (jc_25 cI cL ad σ9 τ) (ja_25 cI cL ad σ9 τ _ _) (jin tx48 (by omega) (by omega)) dX10_worked_190 (fun σ51 H locs eσ51 hP hS => ?_)
                          refine lv_goto (tgt := 259) hx hb dX10_worked_191 (of_decide_eq_true rfl) ?_
                          obtain ⟨x52, ex52⟩ : ∃ y : Int32, y = x6 + 1 := ⟨_, rfl⟩
                          have tx52 : x52.toInt = x6.toInt + 1 := (jadd ex52 rfl jz_1 (by omega) (by omega)).trans (by omega)
                          refine lv_iinc (v := x52) (lv' := [(2, .int x52), (3, .int (σ 23 x6.toNatClampNeg)), (1, .int x5), (0, .ref (ad 22))]) hx hb dX10_worked_259 hl (k := 1) rfl (by rw [ex52]; rfl) (of_decide_eq_true rfl) rfl (fun ls hl => ?_)
                          refine lv_goto (tgt := 4) hx hb dX10_worked_262 (of_decide_eq_true rfl) ?_
                          exact by exact ihlp3 x5 x52 σ51 _ _ ls (by have h91 := tx52; omega) (by have h91 := tx52; omega) (by have h91 := tx52; omega) (by have h91 := tx52; omega) (by have h91 := tx52; omega) (fun i hi => ((jnp i eσ51 (imp_34 i hi)).trans (f16 i hi)))   (fun v h => q17 v (jWr.one h (by omega) (show (σ 23 x6.toNatClampNeg) = (σ 23) (x6.toInt).toNat from by rw [jnc (rfl : x6.toInt = x6.toInt)]) (by omega) ((jStk_top (f := σ9 25) (T := x5.toInt) (by omega)).trans (by rw [← jnc (show x49.toInt = x5.toInt - 1 by omega)])) (jStk_put (T := 0) (f := σ9 25) (g := σ51 25) (T' := x5.toInt) (q := x5.toInt - 1) (v := 0) (by rw [eσ51, jup_row, jnc (show x48.toInt = x5.toInt - 1 by have h9 := tx48; omega)]) (by omega) (by omega)) (Or.inr (Or.inl ⟨by omega, by omega, rfl⟩)) (by have h9 := tx52; omega))) hP hS (lv_sub hl [0, 2, 3] rfl)
                       · exact by
                          have kc50 := jeq c50 rfl jz_0
                          refine lv_iconst (v := 1) hx hb dX10_worked_185 (of_decide_eq_true rfl) ?_
                          refine lv_goto (tgt := 190) hx hb dX10_worked_186 (of_decide_eq_true rfl) ?_
                          refine jast hx hb hK hP hJ hA hS (jc_25 cI cL ad σ9 τ) (ja_25 cI cL ad σ9 τ _ _) (jin tx48 (by omega) (by omega)) dX10_worked_190 (fun σ53 H locs eσ53 hP hS => ?_)
                          refine lv_goto (tgt := 259) hx hb dX10_worked_191 (of_decide_eq_true rfl) ?_
                          obtain ⟨x54, ex54⟩ : ∃ y : Int32, y = x6 + 1 := ⟨_, rfl⟩
                          have tx54 : x54.toInt = x6.toInt + 1 := (jadd ex54 rfl jz_1 (by omega) (by omega)).trans (by omega)
                          refine lv_iinc (v := x54) (lv' := [(2, .int x54), (3, .int (σ 23 x6.toNatClampNeg)), (1, .int x5), (0, .ref (ad 22))]) hx hb dX10_worked_259 hl (k := 1) rfl (by rw [ex54]; rfl) (of_decide_eq_true rfl) rfl (fun ls hl => ?_)
                          refine lv_goto (tgt := 4) hx hb dX10_worked_262 (of_decide_eq_true rfl) ?_
                          exact by exact ihlp3 x5 x54 σ53 _ _ ls (by have h91 := tx54; omega) (by have h91 := tx54; omega) (by have h91 := tx54; omega) (by have h91 := tx54; omega) (by have h91 := tx54; omega) (fun i hi => ((jnp i eσ53 (imp_34 i hi)).trans (f16 i hi)))   (fun v h => q17 v (jWr.one h (by omega) (show (σ 23 x6.toNatClampNeg) = (σ 23) (x6.toInt).toNat from by rw [jnc (rfl : x6.toInt = x6.toInt)]) (by omega) ((jStk_top (f := σ9 25) (T := x5.toInt) (by omega)).trans (by rw [← jnc (show x49.toInt = x5.toInt - 1 by omega)])) (jStk_put (T := 0) (f := σ9 25) (g := σ53 25) (T' := x5.toInt) (q := x5.toInt - 1) (v := 1) (by rw [eσ53, jup_row, jnc (show x48.toInt = x5.toInt - 1 by have h9 := tx48; omega)]) (by omega) (by omega)) (Or.inl ⟨by omega, by omega, rfl⟩) (by have h9 := tx54; omega))) hP hS (lv_sub hl [0, 2, 3] rfl)
                 · exact by
                    have kc26 := jeq c26 rfl jz_20063
                    refine lv_aload_n hx hb dX10_worked_108 rfl (lv_at hl 3 rfl) ?_
                    refine va_get (D := D) hx hb hts inlX10 hown hK hP 22 (jc_22 cI cL ad σ9 τ) rfl 4 (of_decide_eq_true rfl) (hts _ kw_4_5) (fun _ h9 => h9) rfl dX10_worked_109 ?_
                    refine lv_iload_n hx hb dX10_worked_112 rfl (lv_at hl 2 rfl) ?_
                    refine lv_iconst (v := 1) hx hb dX10_worked_113 (of_decide_eq_true rfl) ?_
                    have g55 := jrg (rfl : x5.toInt = x5.toInt)
                    refine lv_isub hx hb dX10_worked_114 ?_
                    refine lv_topi (fun x56 ex56 => ?_)
                    have tx56 : x56.toInt = x5.toInt - 1 := (jsub ex56 rfl jz_1 (by omega) (by omega)).trans (by omega)
                    exact by
                     refine jald hx hb hK hP (jc_25 cI cL ad σ9 τ) (jin tx56 (by omega) (by omega)) dX10_worked_115 ?_
                     refine jtopr (y := (σ9 25 x56.toNatClampNeg)) rfl ?_
                     refine lv_if_eq (tgt := 123) hx hb dX10_worked_116 (of_decide_eq_true rfl) (fun c57 => ?_) (fun c57 => ?_)
                     · have kc57 := jeq c57 rfl jz_0
                       refine lv_iconst (v := 0) hx hb dX10_worked_123 (of_decide_eq_true rfl) ?_
                       refine lv_istore (lv' := [(4, .int 0), (3, .int (σ 23 x6.toNatClampNeg)), (2, .int x6), (1, .int x5), (0, .ref (ad 22))]) hx hb dX10_worked_124 hl (of_decide_eq_true rfl) rfl (fun ls hl => ?_)
                       refine lv_iconst (v := 0) hx hb dX10_worked_126 (of_decide_eq_true rfl) ?_
                       refine lv_istore_n (lv' := [(1, .int 0), (4, .int 0), (3, .int (σ 23 x6.toNatClampNeg)), (2, .int x6), (0, .ref (ad 22))]) hx hb dX10_worked_127 rfl hl (of_decide_eq_true rfl) rfl (fun ls hl => ?_)
                       obtain ⟨x58, ex58⟩ : ∃ y : Int32, y = x6 + 1 := ⟨_, rfl⟩
                       exact by
                        have tx58 : x58.toInt = x6.toInt + 1 := (jadd ex58 rfl jz_1 (by omega) (by omega)).trans (by omega)
                        refine lv_iinc (v := x58) (lv' := [(2, .int x58), (1, .int 0), (4, .int 0), (3, .int (σ 23 x6.toNatClampNeg)), (0, .ref (ad 22))]) hx hb dX10_worked_128 hl (k := 3) rfl (by rw [ex58]; rfl) (of_decide_eq_true rfl) rfl (fun ls hl => ?_)
                        refine lv_iload hx hb dX10_worked_131 (lv_at hl 2 rfl) ?_
                        refine lv_if_ne (tgt := 157) hx hb dX10_worked_133 (of_decide_eq_true rfl) (fun c => absurd (of_decide_eq_true rfl) c) (fun _ => ?_)
                        refine lv_iload_n hx hb dX10_worked_136 rfl (lv_at hl 0 rfl) ?_
                        refine lv_aload_n hx hb dX10_worked_137 rfl (lv_at hl 4 rfl) ?_
                        refine va_get (D := D) hx hb hts inlX10 hown hK hP 22 (jc_22 cI cL ad σ9 τ) rfl 0 (of_decide_eq_true rfl) (hts _ kw_16_20) (fun _ h9 => h9) rfl dX10_worked_138 ?_
                        refine jtopr m18 ?_
                        refine lv_icmp_ge (tgt := 157) hx hb dX10_worked_141 (of_decide_eq_true rfl) (fun c59 => ?_) (fun c59 => ?_)
                        · exact by
                           have kc59 := jle c59 rfl tx58
                           refine lv_goto (tgt := 259) hx hb dX10_worked_157 (of_decide_eq_true rfl) ?_
                           obtain ⟨x60, ex60⟩ : ∃ y : Int32, y = x58 + 1 := ⟨_, rfl⟩
                           have tx60 : x60.toInt = x6.toInt + 2 := (jadd ex60 tx58 jz_1 (by omega) (by omega)).trans (by omega)
                           refine lv_iinc (v := x60) (lv' := [(2, .int x60), (1, .int 0), (4, .int 0), (3, .int (σ 23 x6.toNatClampNeg)), (0, .ref (ad 22))]) hx hb dX10_worked_259 hl (k := 0) rfl (by rw [ex60]; rfl) (of_decide_eq_true rfl) rfl (fun ls hl => ?_)
                           refine lv_goto (tgt := 4) hx hb dX10_worked_262 (of_decide_eq_true rfl) ?_
                           exact by exact ihlp3 0 x60 σ9 _ _ ls (by have h90 := jz_0; have h91 := tx60; omega) (by have h90 := jz_0; have h91 := tx60; omega) (by have h90 := jz_0; have h91 := tx60; omega) (by have h90 := jz_0; have h91 := tx60; omega) (by have h90 := jz_0; have h91 := tx60; omega) (fun i hi => (f16 i hi))   (fun v h => q17 v (jWr.ask (t := jStk (σ9 25) (x5.toInt - 1).toNat) (a' := x60.toInt) (by rw [jz_0] at h; exact h) (by omega) (show (σ 23 x6.toNatClampNeg) = (σ 23) (x6.toInt).toNat from by rw [jnc (rfl : x6.toInt = x6.toInt)]) (by omega) ((jStk_top (f := σ9 25) (T := x5.toInt) (by omega)).trans (by rw [← jnc (show x56.toInt = x5.toInt - 1 by omega)])) (Or.inl ⟨Or.inr (by omega), by have h9 := tx60; omega⟩))) hP hS (lv_sub hl [0, 1, 4] rfl)
                        · have kc59 := jnle c59 rfl tx58
                          refine lv_iload_n hx hb dX10_worked_144 rfl (lv_at hl 0 rfl) ?_
                          exact by
                           refine lv_aload_n hx hb dX10_worked_145 rfl (lv_at hl 4 rfl) ?_
                           refine va_get (D := D) hx hb hts inlX10 hown hK hP 22 (jc_22 cI cL ad σ9 τ) rfl 2 (of_decide_eq_true rfl) (hts _ kw_4_3) (fun _ h9 => h9) rfl dX10_worked_146 ?_
                           refine lv_iload_n hx hb dX10_worked_149 rfl (lv_at hl 0 rfl) ?_
                           refine jald hx hb hK hP (jc_23 cI cL ad σ9 τ) (jin tx58 (by omega) (by omega)) dX10_worked_150 ?_
                           have g61 := w20 _ (jnat (x := x58) tx58 (n := 160) (by omega) (of_decide_eq_true rfl))
                           refine jtopr (y := (σ 23 x58.toNatClampNeg)) (by rw [f16 23 (of_decide_eq_true rfl)]) ?_
                           rw [f16 23 (of_decide_eq_true rfl)] at g61
                           refine lv_iconst (v := 1) hx hb dX10_worked_151 (of_decide_eq_true rfl) ?_
                           have g62 := jrg (rfl : (σ 23 x58.toNatClampNeg).toInt = (σ 23 x58.toNatClampNeg).toInt)
                           exact by
                            refine lv_isub hx hb dX10_worked_152 ?_
                            refine lv_topi (fun x63 ex63 => ?_)
                            have tx63 : x63.toInt = (σ 23 x58.toNatClampNeg).toInt - 1 := (jsub ex63 rfl jz_1 (by omega) (by omega)).trans (by omega)
                            refine va_mmax hx hb (hml.trans hl.1.symm) hown (hts _ kw_22_21) (hts _ kw_21_0) (hts _ kw_21_1) (hts _ kw_21_2) (Nat.le_of_ble_eq_true rfl) (Nat.le_of_ble_eq_true rfl) (Nat.le_of_ble_eq_true rfl) (Nat.le_of_ble_eq_true rfl) dX10_worked_153 ?_
                            refine lv_topi (fun x64 ex64 => ?_)
                            have g65 := jmax ex64 tx58 tx63
                            refine lv_istore_n (lv' := [(2, .int x64), (1, .int 0), (4, .int 0), (3, .int (σ 23 x6.toNatClampNeg)), (0, .ref (ad 22))]) hx hb dX10_worked_156 rfl hl (of_decide_eq_true rfl) rfl (fun ls hl => ?_)
                            refine lv_goto (tgt := 259) hx hb dX10_worked_157 (of_decide_eq_true rfl) ?_
                            obtain ⟨x66, ex66⟩ : ∃ y : Int32, y = x64 + 1 := ⟨_, rfl⟩
                            exact by
                             have tx66 : x66.toInt = x64.toInt + 1 := (jadd ex66 rfl jz_1 (by omega) (by omega)).trans (by omega)
                             refine lv_iinc (v := x66) (lv' := [(2, .int x66), (1, .int 0), (4, .int 0), (3, .int (σ 23 x6.toNatClampNeg)), (0, .ref (ad 22))]) hx hb dX10_worked_259 hl (k := 0) rfl (by rw [ex66]; rfl) (of_decide_eq_true rfl) rfl (fun ls hl => ?_)
                             refine lv_goto (tgt := 4) hx hb dX10_worked_262 (of_decide_eq_true rfl) ?_
                             exact by exact ihlp3 0 x66 σ9 _ _ ls (by have h90 := jz_0; have h91 := tx66; omega) (by have h90 := jz_0; have h91 := tx66; omega) (by have h90 := jz_0; have h91 := tx66; omega) (by have h90 := jz_0; have h91 := tx66; omega) (by have h90 := jz_0; have h91 := tx66; omega) (fun i hi => (f16 i hi))   (fun v h => q17 v (jWr.ask (t := jStk (σ9 25) (x5.toInt - 1).toNat) (a' := x66.toInt) (by rw [jz_0] at h; exact h) (by omega) (show (σ 23 x6.toNatClampNeg) = (σ 23) (x6.toInt).toNat from by rw [jnc (rfl : x6.toInt = x6.toInt)]) (by omega) ((jStk_top (f := σ9 25) (T := x5.toInt) (by omega)).trans (by rw [← jnc (show x56.toInt = x5.toInt - 1 by omega)])) (Or.inr ⟨by omega, by omega, (σ 23 x58.toNatClampNeg), (by rw [jnc (show x58.toInt = x6.toInt + 1 by omega)]), (by have h9 := tx66; omega)⟩))) hP hS (lv_sub hl [0, 1, 4] rfl)
                     · have kc57 := jne c57 rfl jz_0
                       refine lv_iconst (v := 1) hx hb dX10_worked_119 (of_decide_eq_true rfl) ?_
                       refine lv_goto (tgt := 124) hx hb dX10_worked_120 (of_decide_eq_true rfl) ?_
                       refine lv_istore (lv' := [(4, .int 1), (3, .int (σ 23 x6.toNatClampNeg)), (2, .int x6), (1, .int x5), (0, .ref (ad 22))]) hx hb dX10_worked_124 hl (of_decide_eq_true rfl) rfl (fun ls hl => ?_)
                       refine lv_iconst (v := 0) hx hb dX10_worked_126 (of_decide_eq_true rfl) ?_
                       exact by
                        refine lv_istore_n (lv' := [(1, .int 0), (4, .int 1), (3, .int (σ 23 x6.toNatClampNeg)), (2, .int x6), (0, .ref (ad 22))]) hx hb dX10_worked_127 rfl hl (of_decide_eq_true rfl) rfl (fun ls hl => ?_)
                        obtain ⟨x67, ex67⟩ : ∃ y : Int32, y = x6 + 1 := ⟨_, rfl⟩
                        have tx67 : x67.toInt = x6.toInt + 1 := (jadd ex67 rfl jz_1 (by omega) (by omega)).trans (by omega)
                        refine lv_iinc (v := x67) (lv' := [(2, .int x67), (1, .int 0), (4, .int 1), (3, .int (σ 23 x6.toNatClampNeg)), (0, .ref (ad 22))]) hx hb dX10_worked_128 hl (k := 3) rfl (by rw [ex67]; rfl) (of_decide_eq_true rfl) rfl (fun ls hl => ?_)
                        refine lv_iload hx hb dX10_worked_131 (lv_at hl 2 rfl) ?_
                        refine lv_if_ne (tgt := 157) hx hb dX10_worked_133 (of_decide_eq_true rfl) (fun _ => ?_) (fun c => absurd c (of_decide_eq_true rfl))
                        refine lv_goto (tgt := 259) hx hb dX10_worked_157 (of_decide_eq_true rfl) ?_
                        obtain ⟨x68, ex68⟩ : ∃ y : Int32, y = x67 + 1 := ⟨_, rfl⟩
                        have tx68 : x68.toInt = x6.toInt + 2 := (jadd ex68 tx67 jz_1 (by omega) (by omega)).trans (by omega)
                        exact by
                         refine lv_iinc (v := x68) (lv' := [(2, .int x68), (1, .int 0), (4, .int 1), (3, .int (σ 23 x6.toNatClampNeg)), (0, .ref (ad 22))]) hx hb dX10_worked_259 hl (k := 0) rfl (by rw [ex68]; rfl) (of_decide_eq_true rfl) rfl (fun ls hl => ?_)
                         refine lv_goto (tgt := 4) hx hb dX10_worked_262 (of_decide_eq_true rfl) ?_
                         exact by exact ihlp3 0 x68 σ9 _ _ ls (by have h90 := jz_0; have h91 := tx68; omega) (by have h90 := jz_0; have h91 := tx68; omega) (by have h90 := jz_0; have h91 := tx68; omega) (by have h90 := jz_0; have h91 := tx68; omega) (by have h90 := jz_0; have h91 := tx68; omega) (fun i hi => (f16 i hi))   (fun v h => q17 v (jWr.ask (t := jStk (σ9 25) (x5.toInt - 1).toNat) (a' := x68.toInt) (by rw [jz_0] at h; exact h) (by omega) (show (σ 23 x6.toNatClampNeg) = (σ 23) (x6.toInt).toNat from by rw [jnc (rfl : x6.toInt = x6.toInt)]) (by omega) ((jStk_top (f := σ9 25) (T := x5.toInt) (by omega)).trans (by rw [← jnc (show x56.toInt = x5.toInt - 1 by omega)])) (Or.inl ⟨Or.inl (by omega), by have h9 := tx68; omega⟩))) hP hS (lv_sub hl [0, 1, 4] rfl)
               · have kc25 := jeq c25 rfl jz_20059
                 refine lv_iload_n hx hb dX10_worked_83 rfl (lv_at hl 2 rfl) ?_
                 refine lv_iconst (v := 1) hx hb dX10_worked_84 (of_decide_eq_true rfl) ?_
                 refine lv_icmp_ge (tgt := 92) hx hb dX10_worked_85 (of_decide_eq_true rfl) (fun c69 => ?_) (fun c => absurd (jnle c jz_1 rfl) (by omega))
                 have kc69 := jle c69 jz_1 rfl
                 refine lv_aload_n hx hb dX10_worked_92 rfl (lv_at hl 3 rfl) ?_
                 exact by
                  refine va_get (D := D) hx hb hts inlX10 hown hK hP 22 (jc_22 cI cL ad σ9 τ) rfl 4 (of_decide_eq_true rfl) (hts _ kw_4_5) (fun _ h9 => h9) rfl dX10_worked_93 ?_
                  refine lv_iload_n hx hb dX10_worked_96 rfl (lv_at hl 2 rfl) ?_
                  refine lv_iconst (v := 1) hx hb dX10_worked_97 (of_decide_eq_true rfl) ?_
                  have g70 := jrg (rfl : x5.toInt = x5.toInt)
                  refine lv_isub hx hb dX10_worked_98 ?_
                  refine lv_topi (fun x71 ex71 => ?_)
                  have tx71 : x71.toInt = x5.toInt - 1 := (jsub ex71 rfl jz_1 (by omega) (by omega)).trans (by omega)
                  refine jald hx hb hK hP (jc_25 cI cL ad σ9 τ) (jin tx71 (by omega) (by omega)) dX10_worked_99 ?_
                  refine jtopr (y := (σ9 25 x71.toNatClampNeg)) rfl ?_
                  exact by exact hret (σ9 25 x71.toNatClampNeg) σ9 τ _ _ _ _ rfl ⟨rfl, (fun i hi => (f16 i hi)), (q17 _ (jWr.semi (t := jStk (σ9 25) (x5.toInt - 1).toNat) (by omega) (show (σ 23 x6.toNatClampNeg) = (σ 23) (x6.toInt).toNat from by rw [jnc (rfl : x6.toInt = x6.toInt)]) (by omega) ((jStk_top (f := σ9 25) (T := x5.toInt) (by omega)).trans (by rw [← jnc (show x71.toInt = x5.toInt - 1 by omega)])))), trivial⟩ hP hS dX10_worked_100
          · exact by
             have kc22 := jnle c22 jz_20000 rfl
             refine lv_iload_n hx hb dX10_worked_26 rfl (lv_at hl 2 rfl) ?_
             refine lv_sipush (v := 160) hx hb dX10_worked_27 (of_decide_eq_true rfl) ?_
             refine lv_icmp_lt (tgt := 35) hx hb dX10_worked_30 (of_decide_eq_true rfl) (fun c72 => ?_) (fun c72 => ?_)
             · have kc72 := jlt c72 rfl jz_160
               refine lv_aload_n hx hb dX10_worked_35 rfl (lv_at hl 3 rfl) ?_
               refine va_get (D := D) hx hb hts inlX10 hown hK hP 22 (jc_22 cI cL ad σ9 τ) rfl 4 (of_decide_eq_true rfl) (hts _ kw_4_5) (fun _ h9 => h9) rfl dX10_worked_36 ?_
               refine lv_iload_n hx hb dX10_worked_39 rfl (lv_at hl 2 rfl) ?_
               obtain ⟨x73, ex73⟩ : ∃ y : Int32, y = x5 + 1 := ⟨_, rfl⟩
               exact by
                have tx73 : x73.toInt = x5.toInt + 1 := (jadd ex73 rfl jz_1 (by omega) (by omega)).trans (by omega)
                refine lv_iinc (v := x73) (lv' := [(1, .int x73), (3, .int (σ 23 x6.toNatClampNeg)), (2, .int x6), (0, .ref (ad 22))]) hx hb dX10_worked_40 hl (k := 2) rfl (by rw [ex73]; rfl) (of_decide_eq_true rfl) rfl (fun ls hl => ?_)
                refine lv_iload_n hx hb dX10_worked_43 rfl (lv_at hl 1 rfl) ?_
                refine lv_sipush (v := 10000) hx hb dX10_worked_44 (of_decide_eq_true rfl) ?_
                refine lv_icmp_ge (tgt := 54) hx hb dX10_worked_47 (of_decide_eq_true rfl) (fun c74 => ?_) (fun c74 => ?_)
                · have kc74 := jle c74 jz_10000 rfl
                  refine lv_aload_n hx hb dX10_worked_54 rfl (lv_at hl 3 rfl) ?_
                  refine va_get (D := D) hx hb hts inlX10 hown hK hP 22 (jc_22 cI cL ad σ9 τ) rfl 3 (of_decide_eq_true rfl) (hts _ kw_4_4) (fun _ h9 => h9) rfl dX10_worked_55 ?_
                  refine lv_iload_n hx hb dX10_worked_58 rfl (lv_at hl 1 rfl) ?_
                  exact by
                   refine lv_sipush (v := 10000) hx hb dX10_worked_59 (of_decide_eq_true rfl) ?_
                   have g75 := jrg (rfl : (σ 23 x6.toNatClampNeg).toInt = (σ 23 x6.toNatClampNeg).toInt)
                   refine lv_isub hx hb dX10_worked_62 ?_
                   refine lv_topi (fun x76 ex76 => ?_)
                   have tx76 : x76.toInt = (σ 23 x6.toNatClampNeg).toInt - 10000 := (jsub ex76 rfl jz_10000 (by omega) (by omega)).trans (by omega)
                   refine lv_bipush (v := 7) hx hb dX10_worked_63 (of_decide_eq_true rfl) ?_
                   refine lv_iand hx hb dX10_worked_65 ?_
                   refine lv_topi (fun x77 ex77 => ?_)
                   have gx77 := jrg (rfl : x77.toInt = x77.toInt)
                   exact by
                    have g78 : 0 ≤ x77.toInt ∧ x77.toInt ≤ 7 := jmask ex77 3 (of_decide_eq_true rfl) (of_decide_eq_true rfl)
                    refine jald hx hb hK hP (jc_24 cI cL ad σ9 τ) (jin rfl (by omega) (by omega)) dX10_worked_66 ?_
                    refine jtopr (y := (σ 24 x77.toNatClampNeg)) (by rw [f16 24 (of_decide_eq_true rfl)]) ?_
                    refine jast hx hb hK hP hJ hA hS (jc_25 cI cL ad σ9 τ) (ja_25 cI cL ad σ9 τ _ _) (jin rfl (by omega) (by omega)) dX10_worked_67 (fun σ79 H locs eσ79 hP hS => ?_)
                    refine lv_goto (tgt := 259) hx hb dX10_worked_68 (of_decide_eq_true rfl) ?_
                    obtain ⟨x80, ex80⟩ : ∃ y : Int32, y = x6 + 1 := ⟨_, rfl⟩
                    have tx80 : x80.toInt = x6.toInt + 1 := (jadd ex80 rfl jz_1 (by omega) (by omega)).trans (by omega)
                    refine lv_iinc (v := x80) (lv' := [(2, .int x80), (1, .int x73), (3, .int (σ 23 x6.toNatClampNeg)), (0, .ref (ad 22))]) hx hb dX10_worked_259 hl (k := 2) rfl (by rw [ex80]; rfl) (of_decide_eq_true rfl) rfl (fun ls hl => ?_)
                    refine lv_goto (tgt := 4) hx hb dX10_worked_262 (of_decide_eq_true rfl) ?_
                    exact by exact ihlp3 x73 x80 σ79 _ _ ls (by have h90 := tx73; have h91 := tx80; omega) (by have h90 := tx73; have h91 := tx80; omega) (by have h90 := tx73; have h91 := tx80; omega) (by have h90 := tx73; have h91 := tx80; omega) (by have h90 := tx73; have h91 := tx80; omega) (fun i hi => ((jnp i eσ79 (imp_34 i hi)).trans (f16 i hi)))   (fun v h => q17 v (jWr.push h (by omega) (show (σ 23 x6.toNatClampNeg) = (σ 23) (x6.toInt).toNat from by rw [jnc (rfl : x6.toInt = x6.toInt)]) (by omega) (by rw [jStk_len]; omega) (jStk_put (T := 0) (f := σ9 25) (g := σ79 25) (T' := x73.toInt) (q := x5.toInt) (v := (σ 24 x77.toNatClampNeg)) (by rw [eσ79, jup_row, jnc (rfl : x5.toInt = x5.toInt)]) (by omega) (by have h9 := tx73; omega)) (Or.inr ⟨by omega, (by rw [ex77, ex76])⟩) (by have h9 := tx80; omega))) hP hS (lv_sub hl [0, 1, 3] rfl)
                · exact by
                   have kc74 := jnle c74 jz_10000 rfl
                   refine lv_iload_n hx hb dX10_worked_50 rfl (lv_at hl 1 rfl) ?_
                   refine lv_goto (tgt := 67) hx hb dX10_worked_51 (of_decide_eq_true rfl) ?_
                   refine jast hx hb hK hP hJ hA hS (jc_25 cI cL ad σ9 τ) (ja_25 cI cL ad σ9 τ _ _) (jin rfl (by omega) (by omega)) dX10_worked_67 (fun σ81 H locs eσ81 hP hS => ?_)
                   refine lv_goto (tgt := 259) hx hb dX10_worked_68 (of_decide_eq_true rfl) ?_
                   obtain ⟨x82, ex82⟩ : ∃ y : Int32, y = x6 + 1 := ⟨_, rfl⟩
                   have tx82 : x82.toInt = x6.toInt + 1 := (jadd ex82 rfl jz_1 (by omega) (by omega)).trans (by omega)
                   refine lv_iinc (v := x82) (lv' := [(2, .int x82), (1, .int x73), (3, .int (σ 23 x6.toNatClampNeg)), (0, .ref (ad 22))]) hx hb dX10_worked_259 hl (k := 2) rfl (by rw [ex82]; rfl) (of_decide_eq_true rfl) rfl (fun ls hl => ?_)
                   refine lv_goto (tgt := 4) hx hb dX10_worked_262 (of_decide_eq_true rfl) ?_
                   exact by exact ihlp3 x73 x82 σ81 _ _ ls (by have h90 := tx73; have h91 := tx82; omega) (by have h90 := tx73; have h91 := tx82; omega) (by have h90 := tx73; have h91 := tx82; omega) (by have h90 := tx73; have h91 := tx82; omega) (by have h90 := tx73; have h91 := tx82; omega) (fun i hi => ((jnp i eσ81 (imp_34 i hi)).trans (f16 i hi)))   (fun v h => q17 v (jWr.push h (by omega) (show (σ 23 x6.toNatClampNeg) = (σ 23) (x6.toInt).toNat from by rw [jnc (rfl : x6.toInt = x6.toInt)]) (by omega) (by rw [jStk_len]; omega) (jStk_put (T := 0) (f := σ9 25) (g := σ81 25) (T' := x73.toInt) (q := x5.toInt) (v := (σ 23 x6.toNatClampNeg)) (by rw [eσ81, jup_row, jnc (rfl : x5.toInt = x5.toInt)]) (by omega) (by have h9 := tx73; omega)) (Or.inl ⟨by omega, rfl⟩) (by have h9 := tx82; omega))) hP hS (lv_sub hl [0, 1, 3] rfl)
             · exact by
                have kc72 := jnlt c72 rfl jz_160
                refine lv_iconst (v := 0) hx hb dX10_worked_33 (of_decide_eq_true rfl) ?_
                exact by exact hret 0 σ9 τ _ _ _ _ rfl ⟨rfl, (fun i hi => (f16 i hi)), (q17 _ (jWr.full (by omega) (by rw [← (show (σ 23 x6.toNatClampNeg) = (σ 23) (x6.toInt).toNat from by rw [jnc (rfl : x6.toInt = x6.toInt)])]; omega) (by rw [jStk_len]; omega))), trivial⟩ hP hS dX10_worked_34
  exact by exact lp3 1000000 0 0 σ _ _ ls (by have h90 := jz_0; have h91 := jz_0; omega) (by have h90 := jz_0; have h91 := jz_0; omega) (by have h90 := jz_0; have h91 := jz_0; omega) (by have h90 := jz_0; have h91 := jz_0; omega) (by have h90 := jz_0; have h91 := jz_0; omega) (fun _ _ => rfl)  (fun v h => by rw [jz_0] at h; exact h) hP hS hl
set_option maxHeartbeats 4000000 in
set_option maxRecDepth 100000 in
theorem c_X10_uses_22 (l : Launch) (D : va_G) (cI cL : ClassId) (ad zz : Nat → Nat) (hJ : jD ad) (σ : Nat → Nat → Int32) (τ : Nat → Nat → Int64) (a1 : Int32) (A1 : Int) (t1 : a1.toInt = A1) (hp0 : 0 ≤ A1 ∧ A1 ≤ 7) : jM l yX10_uses cX10_uses 2 (some .boolean) ({ frames := 0, cells := 0, slots := 0, locals := 0 }) D cI cL ad zz [.ref (ad 22), .int a1] σ τ (fun r σ' τ' => (σ = σ' ∧ τ = τ') ∧ ((r.toInt ≠ 0 ↔ (σ 22 1).toBitVec.getLsbD (A1).toNat = true)) ∧ ((r = 1 ∧ True) ∨ (r = 0 ∧ True))) := by
  refine jM.of hJ (by decide +kernel) (nt := .boolean) rfl (Nat.le_of_ble_eq_true rfl) ?_
  intro p e s m args below meth c Q ls hC hret hl hP
  obtain ⟨hx, hb, hr, hml, hown, hts, hK, -, hlocks, hZ⟩ := hC
  have hown : s.vm.findClass RX10 = some m.cls := hown
  have hS : va_S (jA ad) s.heap s.heap [] := va_S.rf
  have hA : ∀ q, jA ad q → jA ad q := fun _ h => h
  have hl : lv_has ls 2 [(0, .ref (ad 22)), (1, .int a1)] := hl
  have g1 := jrg t1
  refine lv_aload_n hx hb dX10_uses_0 rfl (lv_at hl 0 rfl) ?_
  refine va_get (D := D) hx hb hts inlX10 hown hK hP 22 (jc_22 cI cL ad σ τ) rfl 1 (of_decide_eq_true rfl) (hts _ kw_16_21) (fun _ h9 => h9) rfl dX10_uses_1 ?_
  refine lv_iload_n hx hb dX10_uses_4 rfl (lv_at hl 1 rfl) ?_
  refine lv_ishr hx hb dX10_uses_5 ?_
  refine lv_topi (fun x1 ex1 => ?_)
  have gx1 := jrg (rfl : x1.toInt = x1.toInt)
  refine lv_iconst (v := 1) hx hb dX10_uses_6 (of_decide_eq_true rfl) ?_
  refine lv_iand hx hb dX10_uses_7 ?_
  refine lv_topi (fun x2 ex2 => ?_)
  have gx2 := jrg (rfl : x2.toInt = x2.toInt)
  have g3 : 0 ≤ x2.toInt ∧ x2.toInt ≤ 1 := jmask ex2 1 (of_decide_eq_true rfl) (of_decide_eq_true rfl)
  refine lv_if_eq (tgt := 15) hx hb dX10_uses_8 (of_decide_eq_true rfl) (fun c4 => ?_) (fun c4 => ?_)
  · have kc4 := jeq c4 rfl jz_0
    refine lv_iconst (v := 0) hx hb dX10_uses_15 (of_decide_eq_true rfl) ?_
    exact by exact hret 0 σ τ _ _ _ _ rfl ⟨⟨rfl, rfl⟩, (by have w := juse (m := σ 22 1) (a := a1) (y := x2) (by have h9 := t1; omega) (by have h9 := t1; omega) (by rw [ex2, ex1]); rw [show (a1 : Int32).toInt = A1 from t1] at w; rw [← w]; have h9 := jz_0; omega), Or.inr (⟨rfl, trivial⟩)⟩ hP hS dX10_uses_16
  · have kc4 := jne c4 rfl jz_0
    refine lv_iconst (v := 1) hx hb dX10_uses_11 (of_decide_eq_true rfl) ?_
    refine lv_goto (tgt := 16) hx hb dX10_uses_12 (of_decide_eq_true rfl) ?_
    exact by exact hret 1 σ τ _ _ _ _ rfl ⟨⟨rfl, rfl⟩, (by have w := juse (m := σ 22 1) (a := a1) (y := x2) (by have h9 := t1; omega) (by have h9 := t1; omega) (by rw [ex2, ex1]); rw [show (a1 : Int32).toInt = A1 from t1] at w; rw [← w]; have h9 := jz_1; omega), Or.inl ⟨rfl, trivial⟩⟩ hP hS dX10_uses_16
set_option maxHeartbeats 4000000 in
set_option maxRecDepth 100000 in
theorem c_X7_take_9 (l : Launch) (D : va_G) (cI cL : ClassId) (ad zz : Nat → Nat) (hJ : jD ad) (σ : Nat → Nat → Int32) (τ : Nat → Nat → Int64) (a1 : Int32) (A1 : Int) (t1 : a1.toInt = A1) (a2 : Int32) (A2 : Int) (t2 : a2.toInt = A2) (hI9 : jI9 σ) (hp0 : 1 ≤ A1 ∧ A1 ≤ 4) (hp1 : (σ 9 0).toInt + A1 ≤ 80) : jM l yX7_take cX7_take 4 (some .int) ({ frames := 0, cells := 0, slots := 0, locals := 0 }) D cI cL ad zz [.ref (ad 9), .int a1, .int a2] σ τ (fun r σ' τ' => τ = τ' ∧ (∀ i : Nat, (i < 9 ∨ 10 < i) → σ' i = σ i) ∧ (∀ k : Nat, (k < 0 ∨ 0 < k) → σ' 9 k = σ 9 k) ∧ (jI9 σ') ∧ ((True ∧ (r.toInt = (σ 9 0).toInt + A1) ∧ ((σ' 9 0).toInt = (σ 9 0).toInt + A1) ∧ (jFd jBc (σ 10) (σ' 10) ((σ 9 0).toInt) (A1) a2)))) := by
  refine jM.of hJ (by decide +kernel) (nt := .int) rfl (Nat.le_of_ble_eq_true rfl) ?_
  intro p e s m args below meth c Q ls hC hret hl hP
  obtain ⟨hx, hb, hr, hml, hown, hts, hK, -, hlocks, hZ⟩ := hC
  have hown : s.vm.findClass RX7 = some m.cls := hown
  have hS : va_S (jA ad) s.heap s.heap [] := va_S.rf
  have hA : ∀ q, jA ad q → jA ad q := fun _ h => h
  have hl : lv_has ls 4 [(0, .ref (ad 9)), (1, .int a1), (2, .int a2)] := hl
  have g1 := jrg t1
  have g2 := jrg t2
  obtain ⟨i1, w2, w3⟩ : (0 ≤ (σ 9 0).toInt ∧ (σ 9 0).toInt ≤ 80) ∧ (∀ k : Nat, k < 80 → 0 ≤ (σ 10 k).toInt ∧ (σ 10 k).toInt ≤ 255) ∧ (∀ k : Nat, k < 8 → 0 ≤ (σ 11 k).toInt ∧ (σ 11 k).toInt ≤ 3) := id hI9
  refine lv_iconst (v := 0) hx hb dX7_take_0 (of_decide_eq_true rfl) ?_
  refine lv_istore_n (lv' := [(3, .int 0), (0, .ref (ad 9)), (1, .int a1), (2, .int a2)]) hx hb dX7_take_1 rfl hl (of_decide_eq_true rfl) rfl (fun ls hl => ?_)
  have lp4 : ∀ (n5 : Nat) (x6 : Int32) (σ7 : Nat → Nat → Int32) (H : Heap) (locs : List Loc) (ls : Array Slot), (-x6.toInt + 4 : Int) < n5 → 0 ≤ x6.toInt → x6.toInt ≤ 4 → x6.toInt ≤ A1 → (σ7 9 0).toInt = (σ 9 0).toInt + x6.toInt → (∀ i : Nat, (i < 9 ∨ 10 < i) → σ7 i = σ i) → (∀ k : Nat, (k < 0 ∨ 0 < k) → σ7 9 k = σ 9 k) → jI9 σ7 → (jFd jBc (σ 10) (σ7 10) ((σ 9 0).toInt) (x6.toInt) a2) → jH D cI cL ad σ7 τ H → va_S (jA ad) s.heap H locs → lv_has ls 4 [(3, .int x6), (0, .ref (ad 9)), (1, .int a1), (2, .int a2)] → W p l e ({ frames := 0, cells := 0, slots := 0, locals := 0 }) s m args below meth c H locs 0 0 Q (F0 m 2 ls []) := by
    intro n5
    induction n5 with
    | zero => intro x6 σ7 H locs ls h9 h10 h11 h12 h13; exact absurd h9 (by omega)
    | succ n5 ihlp4 =>
      intro x6 σ7 H locs ls h9 h10 h11 h12 h13 f14 f15 p16 q17 hP hS hl
      exact by
       obtain ⟨i18, w19, w20⟩ : (0 ≤ (σ7 9 0).toInt ∧ (σ7 9 0).toInt ≤ 80) ∧ (∀ k : Nat, k < 80 → 0 ≤ (σ7 10 k).toInt ∧ (σ7 10 k).toInt ≤ 255) ∧ (∀ k : Nat, k < 8 → 0 ≤ (σ7 11 k).toInt ∧ (σ7 11 k).toInt ≤ 3) := id p16
       refine lv_iload_n hx hb dX7_take_2 rfl (lv_at hl 0 rfl) ?_
       refine lv_iload_n hx hb dX7_take_3 rfl (lv_at hl 2 rfl) ?_
       refine lv_icmp_ge (tgt := 53) hx hb dX7_take_4 (of_decide_eq_true rfl) (fun c21 => ?_) (fun c21 => ?_)
       · have kc21 := jle c21 t1 rfl
         refine lv_aload_n hx hb dX7_take_53 rfl (lv_at hl 1 rfl) ?_
         refine va_get (D := D) hx hb hts inlX7 hown hK hP 9 (jc_9 cI cL ad σ7 τ) rfl 0 (of_decide_eq_true rfl) (hts _ kw_13_0) (fun _ h9 => h9) rfl dX7_take_54 ?_
         exact by exact hret (σ7 9 0) σ7 τ _ _ _ _ rfl ⟨rfl, (fun i hi => (f14 i hi)), (fun i hi => (f15 i hi)), p16, ⟨trivial, (by omega), (by omega), (by rw [show A1 = x6.toInt by omega]; exact q17)⟩⟩ hP hS dX7_take_57
       · have kc21 := jnle c21 t1 rfl
         refine lv_iload_n hx hb dX7_take_7 rfl (lv_at hl 0 rfl) ?_
         refine lv_iconst (v := 4) hx hb dX7_take_8 (of_decide_eq_true rfl) ?_
         exact by
          refine lv_icmp_ge (tgt := 53) hx hb dX7_take_9 (of_decide_eq_true rfl) (fun c => absurd (jle c jz_4 rfl) (by omega)) (fun c22 => ?_)
          have kc22 := jnle c22 jz_4 rfl
          refine lv_aload_n hx hb dX7_take_12 rfl (lv_at hl 1 rfl) ?_
          refine va_get (D := D) hx hb hts inlX7 hown hK hP 9 (jc_9 cI cL ad σ7 τ) rfl 0 (of_decide_eq_true rfl) (hts _ kw_13_0) (fun _ h9 => h9) rfl dX7_take_13 ?_
          refine lv_bipush (v := 80) hx hb dX7_take_16 (of_decide_eq_true rfl) ?_
          refine lv_icmp_ge (tgt := 53) hx hb dX7_take_18 (of_decide_eq_true rfl) (fun c => absurd (jle c jz_80 rfl) (by omega)) (fun c23 => ?_)
          have kc23 := jnle c23 jz_80 rfl
          refine lv_aload_n hx hb dX7_take_21 rfl (lv_at hl 1 rfl) ?_
          refine va_get (D := D) hx hb hts inlX7 hown hK hP 9 (jc_9 cI cL ad σ7 τ) rfl 3 (of_decide_eq_true rfl) (hts _ kw_3_20) (fun _ h9 => h9) rfl dX7_take_22 ?_
          exact by
           refine lv_aload_n hx hb dX7_take_25 rfl (lv_at hl 1 rfl) ?_
           refine lv_dup hx hb dX7_take_26 rfl ?_
           refine va_get (D := D) hx hb hts inlX7 hown hK hP 9 (jc_9 cI cL ad σ7 τ) rfl 0 (of_decide_eq_true rfl) (hts _ kw_13_0) (fun _ h9 => h9) rfl dX7_take_27 ?_
           refine lv_dup_x1 hx hb dX7_take_30 rfl rfl ?_
           refine lv_iconst (v := 1) hx hb dX7_take_31 (of_decide_eq_true rfl) ?_
           have g24 := jrg (rfl : (σ7 9 0).toInt = (σ7 9 0).toInt)
           refine lv_iadd hx hb dX7_take_32 ?_
           refine lv_topi (fun x25 ex25 => ?_)
           have tx25 : x25.toInt = (σ7 9 0).toInt + 1 := (jadd ex25 rfl jz_1 (by omega) (by omega)).trans (by omega)
           exact by
            refine jput (ty := .int) hx hb hts inlX7 tyX7 tyX7_ok nmX7 hown hK hP hJ hA hS (jc_9 cI cL ad σ7 τ) rfl (k := 0) (of_decide_eq_true rfl) (Nat.le_of_ble_eq_true rfl) (jp_9_0 cI cL ad σ7 τ x25) (hts _ kw_13_0) (fun _ h9 => h9) rfl (by decide +kernel) rfl rfl dX7_take_33 (fun σ26 H locs eσ26 hP hS => ?_)
            refine lv_iload_n hx hb dX7_take_36 rfl (lv_at hl 3 rfl) ?_
            refine lv_bipush (v := 8) hx hb dX7_take_37 (of_decide_eq_true rfl) ?_
            refine lv_iload_n hx hb dX7_take_39 rfl (lv_at hl 0 rfl) ?_
            have g27 := jrg (rfl : x6.toInt = x6.toInt)
            refine lv_imul hx hb dX7_take_40 ?_
            refine lv_topi (fun x28 ex28 => ?_)
            have tx28 : x28.toInt = 8 * x6.toInt := (jmul ex28 jz_8 rfl (by omega) (by omega)).trans (by omega)
            refine lv_iushr hx hb dX7_take_41 rfl ?_
            exact by
             refine lv_topi (fun x29 ex29 => ?_)
             have gx29 := jrg (rfl : x29.toInt = x29.toInt)
             refine lv_sipush (v := 255) hx hb dX7_take_42 (of_decide_eq_true rfl) ?_
             refine lv_iand hx hb dX7_take_45 ?_
             refine lv_topi (fun x30 ex30 => ?_)
             have gx30 := jrg (rfl : x30.toInt = x30.toInt)
             have g31 : 0 ≤ x30.toInt ∧ x30.toInt ≤ 255 := jmask ex30 8 (of_decide_eq_true rfl) (of_decide_eq_true rfl)
             refine jast hx hb hK hP hJ hA hS (jc_10 cI cL ad σ26 τ) (ja_10 cI cL ad σ26 τ _ _) (jin rfl (by omega) (by omega)) dX7_take_46 (fun σ32 H locs eσ32 hP hS => ?_)
             obtain ⟨x33, ex33⟩ : ∃ y : Int32, y = x6 + 1 := ⟨_, rfl⟩
             exact by
              have tx33 : x33.toInt = x6.toInt + 1 := (jadd ex33 rfl jz_1 (by omega) (by omega)).trans (by omega)
              refine lv_iinc (v := x33) (lv' := [(3, .int x33), (0, .ref (ad 9)), (1, .int a1), (2, .int a2)]) hx hb dX7_take_47 hl (k := 0) rfl (by rw [ex33]; rfl) (of_decide_eq_true rfl) rfl (fun ls hl => ?_)
              refine lv_goto (tgt := 2) hx hb dX7_take_50 (of_decide_eq_true rfl) ?_
              have z34 : (σ32 9 0).toInt = (σ7 9 0).toInt + 1 := ((congrArg Int32.toInt (show σ32 9 0 = x25 from ((congrFun (jnp 9 eσ32 (of_decide_eq_true rfl)) 0).trans (jsp eσ26)))).trans tx25)
              have w35 : ∀ k : Nat, k < 80 → 0 ≤ (σ32 10 k).toInt ∧ (σ32 10 k).toInt ≤ 255 := (by rw [eσ32]; exact jrr_up (jrr_fr (jnp 10 eσ26 (of_decide_eq_true rfl)) w19) (by omega) (by omega))
              have w36 : ∀ k : Nat, k < 8 → 0 ≤ (σ32 11 k).toInt ∧ (σ32 11 k).toInt ≤ 3 := (jrr_fr (jnp 11 eσ32 (of_decide_eq_true rfl)) (jrr_fr (jnp 11 eσ26 (of_decide_eq_true rfl)) w20))
              have I37 : jI9 σ32 := ⟨(by omega), w35, w36⟩
              exact by exact ihlp4 x33 σ32 _ _ ls (by have h90 := tx33; omega) (by have h90 := tx33; omega) (by have h90 := tx33; omega) (by have h90 := tx33; omega) (by have h90 := tx33; omega) (fun i hi => ((jnp i eσ32 (imp_35 i hi)).trans ((jnp i eσ26 (imp_36 i hi)).trans (f14 i hi)))) (fun i hi => ((congrFun (jnp 9 eσ32 (of_decide_eq_true rfl)) i).trans ((jkp i eσ26 (imp_4 i hi)).trans (f15 i hi))))  I37 (jFd.step q17 (by rw [eσ32, jup_row, eσ26, jup_n (of_decide_eq_true rfl), jnc (rfl : (σ7 9 0).toInt = (σ7 9 0).toInt)]) (by omega) (by unfold jBc; rw [ex30, ex29, ex28]) (rfl : x6.toInt = x6.toInt) (by omega) (by omega) (by omega) (by have h9 := tx33; omega)) hP hS (lv_sub hl [0, 1, 2, 3] rfl)
  exact by exact lp4 1000000 0 σ _ _ ls (by have h90 := jz_0; omega) (by have h90 := jz_0; omega) (by have h90 := jz_0; omega) (by have h90 := jz_0; omega) (by have h90 := jz_0; omega) (fun _ _ => rfl) (fun _ _ => rfl)  hI9 (jFd.first (by have h9 := jz_0; omega)) hP hS hl
set_option maxHeartbeats 4000000 in
set_option maxRecDepth 100000 in
theorem c_X7_begin_9 (l : Launch) (D : va_G) (cI cL : ClassId) (ad zz : Nat → Nat) (hJ : jD ad) (σ : Nat → Nat → Int32) (τ : Nat → Nat → Int64) (hI9 : jI9 σ) : jMv l yX7_begin cX7_begin 1 none ({ frames := 0, cells := 0, slots := 0, locals := 0 }) D cI cL ad zz [.ref (ad 9)] σ τ (fun σ' τ' => τ = τ' ∧ (∀ i : Nat, (i < 9 ∨ 9 < i) → σ' i = σ i) ∧ (∀ k : Nat, (k < 1 ∨ 1 < k) ∧ (k < 2 ∨ 2 < k) → σ' 9 k = σ 9 k) ∧ (σ' 9 1 = 0) ∧ (σ' 9 2 = (-1)) ∧ (jI9 σ') ∧ (jI91 σ') ∧ (jI92 σ') ∧ True) := by
  refine jMv.of hJ (by decide +kernel) rfl (Nat.le_of_ble_eq_true rfl) ?_
  intro p e s m args below meth c Q ls hC hret hl hP
  obtain ⟨hx, hb, hr, hml, hown, hts, hK, -, hlocks, hZ⟩ := hC
  have hown : s.vm.findClass RX7 = some m.cls := hown
  have hS : va_S (jA ad) s.heap s.heap [] := va_S.rf
  have hA : ∀ q, jA ad q → jA ad q := fun _ h => h
  have hl : lv_has ls 1 [(0, .ref (ad 9))] := hl
  obtain ⟨i1, w2, w3⟩ : (0 ≤ (σ 9 0).toInt ∧ (σ 9 0).toInt ≤ 80) ∧ (∀ k : Nat, k < 80 → 0 ≤ (σ 10 k).toInt ∧ (σ 10 k).toInt ≤ 255) ∧ (∀ k : Nat, k < 8 → 0 ≤ (σ 11 k).toInt ∧ (σ 11 k).toInt ≤ 3) := id hI9
  refine lv_aload_n hx hb dX7_begin_0 rfl (lv_at hl 0 rfl) ?_
  refine lv_iconst (v := 0) hx hb dX7_begin_1 (of_decide_eq_true rfl) ?_
  refine jput (ty := .int) hx hb hts inlX7 tyX7 tyX7_ok nmX7 hown hK hP hJ hA hS (jc_9 cI cL ad σ τ) rfl (k := 1) (of_decide_eq_true rfl) (Nat.le_of_ble_eq_true rfl) (jp_9_1 cI cL ad σ τ 0) (hts _ kw_13_17) (fun _ h9 => h9) rfl (by decide +kernel) rfl rfl dX7_begin_2 (fun σ4 H locs eσ4 hP hS => ?_)
  refine lv_aload_n hx hb dX7_begin_5 rfl (lv_at hl 0 rfl) ?_
  refine lv_iconst (v := (-1)) hx hb dX7_begin_6 (of_decide_eq_true rfl) ?_
  refine jput (ty := .int) hx hb hts inlX7 tyX7 tyX7_ok nmX7 hown hK hP hJ hA hS (jc_9 cI cL ad σ4 τ) rfl (k := 2) (of_decide_eq_true rfl) (Nat.le_of_ble_eq_true rfl) (jp_9_2 cI cL ad σ4 τ (-1)) (hts _ kw_14_6) (fun _ h9 => h9) rfl (by decide +kernel) rfl rfl dX7_begin_7 (fun σ5 H locs eσ5 hP hS => ?_)
  have m6 : σ5 9 1 = 0 := ((jkp 1 eσ5 (of_decide_eq_true rfl)).trans (jsp eσ4))
  have m7 : σ5 9 2 = (-1) := (jsp eσ5)
  have I8 : jI9 σ5 := jI9_fr ((jkp 0 eσ5 (of_decide_eq_true rfl)).trans (jkp 0 eσ4 (of_decide_eq_true rfl))) ((jnp 10 eσ5 (of_decide_eq_true rfl)).trans (jnp 10 eσ4 (of_decide_eq_true rfl))) ((jnp 11 eσ5 (of_decide_eq_true rfl)).trans (jnp 11 eσ4 (of_decide_eq_true rfl))) hI9
  have z9 : (σ5 9 1).toInt = 0 := ((congrArg Int32.toInt (show σ5 9 1 = 0 from m6)).trans jz_0)
  have z10 : (σ5 9 0).toInt = (σ 9 0).toInt := (congrArg Int32.toInt (show σ5 9 0 = (σ 9 0) from ((jkp 0 eσ5 (of_decide_eq_true rfl)).trans (jkp 0 eσ4 (of_decide_eq_true rfl)))))
  exact by
   have I11 : jI91 σ5 := ⟨(by omega), (by omega)⟩
   have z12 : (σ5 9 2).toInt = (-1) := ((congrArg Int32.toInt (show σ5 9 2 = (-1) from m7)).trans jz_m1)
   have I13 : jI92 σ5 := (show (-1) ≤ (σ5 9 2).toInt ∧ (σ5 9 2).toInt ≤ 80 by omega)
   exact hret σ5 τ _ _ _ _ ⟨rfl, (fun i hi => ((jnp i eσ5 (imp_37 i hi)).trans (jnp i eσ4 (imp_37 i hi)))), (fun i hi => ((jkp i eσ5 (imp_38 i hi)).trans (jkp i eσ4 (imp_39 i hi)))), m6, m7, I8, I11, I13, trivial⟩ hP hS dX7_begin_10
set_option maxHeartbeats 4000000 in
set_option maxRecDepth 100000 in
theorem c_X7_isDigit (l : Launch) (D : va_G) (cI cL : ClassId) (ad zz : Nat → Nat) (hJ : jD ad) (σ : Nat → Nat → Int32) (τ : Nat → Nat → Int64) (a1 : Int32) (A1 : Int) (t1 : a1.toInt = A1) : jM l yX7_isDigit cX7_isDigit 1 (some .boolean) ({ frames := 0, cells := 0, slots := 0, locals := 0 }) D cI cL ad zz [.int a1] σ τ (fun r σ' τ' => (σ = σ' ∧ τ = τ') ∧ ((r = 1 ∧ (48 ≤ A1 ∧ A1 ≤ 57)) ∨ (r = 0 ∧ ((A1 < 48) ∨ (57 < A1))))) := by
  refine jM.of hJ (by decide +kernel) (nt := .boolean) rfl (Nat.le_of_ble_eq_true rfl) ?_
  intro p e s m args below meth c Q ls hC hret hl hP
  obtain ⟨hx, hb, hr, hml, hown, hts, hK, -, hlocks, hZ⟩ := hC
  have hown : s.vm.findClass RX7 = some m.cls := hown
  have hS : va_S (jA ad) s.heap s.heap [] := va_S.rf
  have hA : ∀ q, jA ad q → jA ad q := fun _ h => h
  have hl : lv_has ls 1 [(0, .int a1)] := hl
  have g1 := jrg t1
  refine lv_iload_n hx hb dX7_isDigit_0 rfl (lv_at hl 0 rfl) ?_
  refine lv_bipush (v := 48) hx hb dX7_isDigit_1 (of_decide_eq_true rfl) ?_
  refine lv_icmp_lt (tgt := 16) hx hb dX7_isDigit_3 (of_decide_eq_true rfl) (fun c1 => ?_) (fun c1 => ?_)
  · have kc1 := jlt c1 t1 jz_48
    refine lv_iconst (v := 0) hx hb dX7_isDigit_16 (of_decide_eq_true rfl) ?_
    exact hret 0 σ τ _ _ _ _ rfl ⟨⟨rfl, rfl⟩, Or.inr (⟨rfl, (by have h9 := jz_0; omega)⟩)⟩ hP hS dX7_isDigit_17
  · have kc1 := jnlt c1 t1 jz_48
    refine lv_iload_n hx hb dX7_isDigit_6 rfl (lv_at hl 0 rfl) ?_
    refine lv_bipush (v := 57) hx hb dX7_isDigit_7 (of_decide_eq_true rfl) ?_
    refine lv_icmp_gt (tgt := 16) hx hb dX7_isDigit_9 (of_decide_eq_true rfl) (fun c2 => ?_) (fun c2 => ?_)
    · have kc2 := jlt c2 jz_57 t1
      refine lv_iconst (v := 0) hx hb dX7_isDigit_16 (of_decide_eq_true rfl) ?_
      exact hret 0 σ τ _ _ _ _ rfl ⟨⟨rfl, rfl⟩, Or.inr (⟨rfl, (by have h9 := jz_0; omega)⟩)⟩ hP hS dX7_isDigit_17
    · have kc2 := jnlt c2 jz_57 t1
      refine lv_iconst (v := 1) hx hb dX7_isDigit_12 (of_decide_eq_true rfl) ?_
      refine lv_goto (tgt := 17) hx hb dX7_isDigit_13 (of_decide_eq_true rfl) ?_
      exact hret 1 σ τ _ _ _ _ rfl ⟨⟨rfl, rfl⟩, Or.inl ⟨rfl, (by have h9 := jz_1; omega)⟩⟩ hP hS dX7_isDigit_17
set_option maxHeartbeats 4000000 in
set_option maxRecDepth 100000 in
theorem c_X7_sign_9 (l : Launch) (D : va_G) (cI cL : ClassId) (ad zz : Nat → Nat) (hJ : jD ad) (σ : Nat → Nat → Int32) (τ : Nat → Nat → Int64) (hI9 : jI9 σ) : jM l yX7_sign cX7_sign 1 (some .int) ({ frames := 0, cells := 0, slots := 0, locals := 0 }) D cI cL ad zz [.ref (ad 9)] σ τ (fun r σ' τ' => (σ = σ' ∧ τ = τ') ∧ ((r = (σ 10 (σ 9 1).toNatClampNeg) ∧ (0 ≤ (σ 10 (σ 9 1).toNatClampNeg).toInt ∧ (σ 10 (σ 9 1).toNatClampNeg).toInt ≤ 255) ∧ (0 ≤ (σ 9 1).toInt ∧ (σ 9 1).toInt < (σ 9 0).toInt) ∧ (jYs (σ 10) (σ 9 0).toInt (σ 9 1).toInt = r.toInt)) ∨ (r = (-1) ∧ (((σ 9 1).toInt < 0) ∨ ((σ 9 0).toInt ≤ (σ 9 1).toInt)) ∧ (jYs (σ 10) (σ 9 0).toInt (σ 9 1).toInt = -1)))) := by
  refine jM.of hJ (by decide +kernel) (nt := .int) rfl (Nat.le_of_ble_eq_true rfl) ?_
  intro p e s m args below meth c Q ls hC hret hl hP
  obtain ⟨hx, hb, hr, hml, hown, hts, hK, -, hlocks, hZ⟩ := hC
  have hown : s.vm.findClass RX7 = some m.cls := hown
  have hS : va_S (jA ad) s.heap s.heap [] := va_S.rf
  have hA : ∀ q, jA ad q → jA ad q := fun _ h => h
  have hl : lv_has ls 1 [(0, .ref (ad 9))] := hl
  obtain ⟨i1, w2, w3⟩ : (0 ≤ (σ 9 0).toInt ∧ (σ 9 0).toInt ≤ 80) ∧ (∀ k : Nat, k < 80 → 0 ≤ (σ 10 k).toInt ∧ (σ 10 k).toInt ≤ 255) ∧ (∀ k : Nat, k < 8 → 0 ≤ (σ 11 k).toInt ∧ (σ 11 k).toInt ≤ 3) := id hI9
  refine lv_aload_n hx hb dX7_sign_0 rfl (lv_at hl 0 rfl) ?_
  refine va_get (D := D) hx hb hts inlX7 hown hK hP 9 (jc_9 cI cL ad σ τ) rfl 1 (of_decide_eq_true rfl) (hts _ kw_13_17) (fun _ h9 => h9) rfl dX7_sign_1 ?_
  refine lv_if_lt (tgt := 30) hx hb dX7_sign_4 (of_decide_eq_true rfl) (fun c4 => ?_) (fun c4 => ?_)
  · have kc4 := jlt c4 rfl jz_0
    refine lv_iconst (v := (-1)) hx hb dX7_sign_30 (of_decide_eq_true rfl) ?_
    exact by exact hret (-1) σ τ _ _ _ _ rfl ⟨⟨rfl, rfl⟩, Or.inr (⟨rfl, (by have h9 := jz_m1; omega), (by unfold jYs; rw [if_neg (by omega)])⟩)⟩ hP hS dX7_sign_31
  · have kc4 := jnlt c4 rfl jz_0
    refine lv_aload_n hx hb dX7_sign_7 rfl (lv_at hl 0 rfl) ?_
    refine va_get (D := D) hx hb hts inlX7 hown hK hP 9 (jc_9 cI cL ad σ τ) rfl 1 (of_decide_eq_true rfl) (hts _ kw_13_17) (fun _ h9 => h9) rfl dX7_sign_8 ?_
    refine lv_aload_n hx hb dX7_sign_11 rfl (lv_at hl 0 rfl) ?_
    refine va_get (D := D) hx hb hts inlX7 hown hK hP 9 (jc_9 cI cL ad σ τ) rfl 0 (of_decide_eq_true rfl) (hts _ kw_13_0) (fun _ h9 => h9) rfl dX7_sign_12 ?_
    refine lv_icmp_ge (tgt := 30) hx hb dX7_sign_15 (of_decide_eq_true rfl) (fun c5 => ?_) (fun c5 => ?_)
    · have kc5 := jle c5 rfl rfl
      refine lv_iconst (v := (-1)) hx hb dX7_sign_30 (of_decide_eq_true rfl) ?_
      exact by exact hret (-1) σ τ _ _ _ _ rfl ⟨⟨rfl, rfl⟩, Or.inr (⟨rfl, (by have h9 := jz_m1; omega), (by unfold jYs; rw [if_neg (by omega)])⟩)⟩ hP hS dX7_sign_31
    · have kc5 := jnle c5 rfl rfl
      refine lv_aload_n hx hb dX7_sign_18 rfl (lv_at hl 0 rfl) ?_
      refine va_get (D := D) hx hb hts inlX7 hown hK hP 9 (jc_9 cI cL ad σ τ) rfl 3 (of_decide_eq_true rfl) (hts _ kw_3_20) (fun _ h9 => h9) rfl dX7_sign_19 ?_
      refine lv_aload_n hx hb dX7_sign_22 rfl (lv_at hl 0 rfl) ?_
      refine va_get (D := D) hx hb hts inlX7 hown hK hP 9 (jc_9 cI cL ad σ τ) rfl 1 (of_decide_eq_true rfl) (hts _ kw_13_17) (fun _ h9 => h9) rfl dX7_sign_23 ?_
      exact by
       refine jald hx hb hK hP (jc_10 cI cL ad σ τ) (jin rfl (by omega) (by omega)) dX7_sign_26 ?_
       have g6 := w2 _ (jnat (x := (σ 9 1)) rfl (n := 80) (by omega) (of_decide_eq_true rfl))
       refine jtopr (y := (σ 10 (σ 9 1).toNatClampNeg)) rfl ?_
       refine lv_goto (tgt := 31) hx hb dX7_sign_27 (of_decide_eq_true rfl) ?_
       exact by exact hret (σ 10 (σ 9 1).toNatClampNeg) σ τ _ _ _ _ rfl ⟨⟨rfl, rfl⟩, Or.inl ⟨rfl, (by omega), (by omega), (by unfold jYs; rw [if_pos (by omega), jnc (rfl : (σ 9 1).toInt = (σ 9 1).toInt)])⟩⟩ hP hS dX7_sign_31
set_option maxHeartbeats 4000000 in
set_option maxRecDepth 100000 in
theorem c_X7_fail_9 (l : Launch) (D : va_G) (cI cL : ClassId) (ad zz : Nat → Nat) (hJ : jD ad) (σ : Nat → Nat → Int32) (τ : Nat → Nat → Int64) (a1 : Int32) (A1 : Int) (t1 : a1.toInt = A1) (hI92 : jI92 σ) (hp0 : 0 ≤ A1 ∧ A1 ≤ 80) : jMv l yX7_fail cX7_fail 2 none ({ frames := 0, cells := 0, slots := 0, locals := 0 }) D cI cL ad zz [.ref (ad 9), .int a1] σ τ (fun σ' τ' => τ = τ' ∧ (∀ i : Nat, (i < 9 ∨ 9 < i) → σ' i = σ i) ∧ (∀ k : Nat, (k < 2 ∨ 2 < k) → σ' 9 k = σ 9 k) ∧ (0 ≤ (σ' 9 2).toInt) ∧ (((σ 9 2).toInt = (-1) ∧ (σ' 9 2).toInt = A1) ∨ (0 ≤ (σ 9 2).toInt ∧ (σ' 9 2).toInt = (σ 9 2).toInt)) ∧ True) := by
  refine jMv.of hJ (by decide +kernel) rfl (Nat.le_of_ble_eq_true rfl) ?_
  intro p e s m args below meth c Q ls hC hret hl hP
  obtain ⟨hx, hb, hr, hml, hown, hts, hK, -, hlocks, hZ⟩ := hC
  have hown : s.vm.findClass RX7 = some m.cls := hown
  have hS : va_S (jA ad) s.heap s.heap [] := va_S.rf
  have hA : ∀ q, jA ad q → jA ad q := fun _ h => h
  have hl : lv_has ls 2 [(0, .ref (ad 9)), (1, .int a1)] := hl
  have g1 := jrg t1
  have i1 : (-1) ≤ (σ 9 2).toInt ∧ (σ 9 2).toInt ≤ 80 := hI92
  refine lv_aload_n hx hb dX7_fail_0 rfl (lv_at hl 0 rfl) ?_
  refine va_get (D := D) hx hb hts inlX7 hown hK hP 9 (jc_9 cI cL ad σ τ) rfl 2 (of_decide_eq_true rfl) (hts _ kw_14_6) (fun _ h9 => h9) rfl dX7_fail_1 ?_
  refine lv_iconst (v := (-1)) hx hb dX7_fail_4 (of_decide_eq_true rfl) ?_
  refine lv_icmp_ne (tgt := 13) hx hb dX7_fail_5 (of_decide_eq_true rfl) (fun c2 => ?_) (fun c2 => ?_)
  · have kc2 := jne c2 rfl jz_m1
    exact by exact hret σ τ _ _ _ _ ⟨rfl, (fun _ _ => rfl), (fun _ _ => rfl), (by omega), (by omega), trivial⟩ hP hS dX7_fail_13
  · have kc2 := jeq c2 rfl jz_m1
    refine lv_aload_n hx hb dX7_fail_8 rfl (lv_at hl 0 rfl) ?_
    refine lv_iload_n hx hb dX7_fail_9 rfl (lv_at hl 1 rfl) ?_
    refine jput (ty := .int) hx hb hts inlX7 tyX7 tyX7_ok nmX7 hown hK hP hJ hA hS (jc_9 cI cL ad σ τ) rfl (k := 2) (of_decide_eq_true rfl) (Nat.le_of_ble_eq_true rfl) (jp_9_2 cI cL ad σ τ a1) (hts _ kw_14_6) (fun _ h9 => h9) rfl (by decide +kernel) rfl rfl dX7_fail_10 (fun σ3 H locs eσ3 hP hS => ?_)
    have z4 : (σ3 9 2).toInt = A1 := ((congrArg Int32.toInt (show σ3 9 2 = a1 from (jsp eσ3))).trans t1)
    exact by exact hret σ3 τ _ _ _ _ ⟨rfl, (fun i hi => (jnp i eσ3 (imp_37 i hi))), (fun i hi => (jkp i eσ3 (imp_7 i hi))), (by omega), (by omega), trivial⟩ hP hS dX7_fail_13
set_option maxHeartbeats 4000000 in
set_option maxRecDepth 100000 in
theorem c_X7_end_9 (l : Launch) (D : va_G) (cI cL : ClassId) (ad zz : Nat → Nat) (hJ : jD ad) (σ : Nat → Nat → Int32) (τ : Nat → Nat → Int64) (hI9 : jI9 σ) (hI91 : jI91 σ) (hI92 : jI92 σ) : jM l yX7_end cX7_end 1 (some .int) ({ frames := 0, cells := 0, slots := 0, locals := 0 }) D cI cL ad zz [.ref (ad 9)] σ τ (fun r σ' τ' => τ = τ' ∧ (∀ i : Nat, (i < 9 ∨ 9 < i) → σ' i = σ i) ∧ (∀ k : Nat, (k < 0 ∨ 0 < k) ∧ (k < 2 ∨ 2 < k) → σ' 9 k = σ 9 k) ∧ (jI9 σ') ∧ (jI92 σ') ∧ ((σ' 9 0).toInt = 0) ∧ ((r = (-1) ∧ ((σ 9 2).toInt = (-1)) ∧ ((σ 9 0).toInt ≤ (σ 9 1).toInt)) ∨ (True ∧ (0 ≤ r.toInt) ∧ ((0 ≤ (σ 9 2).toInt ∧ r.toInt = (σ 9 2).toInt) ∨ ((σ 9 2).toInt = (-1) ∧ (σ 9 1).toInt < (σ 9 0).toInt ∧ r.toInt = (σ 9 1).toInt))))) := by
  refine jM.of hJ (by decide +kernel) (nt := .int) rfl (Nat.le_of_ble_eq_true rfl) ?_
  intro p e s m args below meth c Q ls hC hret hl hP
  obtain ⟨hx, hb, hr, hml, hown, hts, hK, -, hlocks, hZ⟩ := hC
  have hown : s.vm.findClass RX7 = some m.cls := hown
  have hS : va_S (jA ad) s.heap s.heap [] := va_S.rf
  have hA : ∀ q, jA ad q → jA ad q := fun _ h => h
  have hl : lv_has ls 1 [(0, .ref (ad 9))] := hl
  obtain ⟨i1, w2, w3⟩ : (0 ≤ (σ 9 0).toInt ∧ (σ 9 0).toInt ≤ 80) ∧ (∀ k : Nat, k < 80 → 0 ≤ (σ 10 k).toInt ∧ (σ 10 k).toInt ≤ 255) ∧ (∀ k : Nat, k < 8 → 0 ≤ (σ 11 k).toInt ∧ (σ 11 k).toInt ≤ 3) := id hI9
  obtain ⟨i4, i5⟩ : (0 ≤ (σ 9 1).toInt) ∧ ((σ 9 1).toInt ≤ (σ 9 0).toInt) := id hI91
  have i6 : (-1) ≤ (σ 9 2).toInt ∧ (σ 9 2).toInt ≤ 80 := hI92
  refine lv_aload_n hx hb dX7_end_0 rfl (lv_at hl 0 rfl) ?_
  refine va_get (D := D) hx hb hts inlX7 hown hK hP 9 (jc_9 cI cL ad σ τ) rfl 2 (of_decide_eq_true rfl) (hts _ kw_14_6) (fun _ h9 => h9) rfl dX7_end_1 ?_
  refine lv_iconst (v := (-1)) hx hb dX7_end_4 (of_decide_eq_true rfl) ?_
  refine lv_icmp_ne (tgt := 27) hx hb dX7_end_5 (of_decide_eq_true rfl) (fun c7 => ?_) (fun c7 => ?_)
  · have kc7 := jne c7 rfl jz_m1
    refine lv_aload_n hx hb dX7_end_27 rfl (lv_at hl 0 rfl) ?_
    refine lv_iconst (v := 0) hx hb dX7_end_28 (of_decide_eq_true rfl) ?_
    refine jput (ty := .int) hx hb hts inlX7 tyX7 tyX7_ok nmX7 hown hK hP hJ hA hS (jc_9 cI cL ad σ τ) rfl (k := 0) (of_decide_eq_true rfl) (Nat.le_of_ble_eq_true rfl) (jp_9_0 cI cL ad σ τ 0) (hts _ kw_13_0) (fun _ h9 => h9) rfl (by decide +kernel) rfl rfl dX7_end_29 (fun σ8 H locs eσ8 hP hS => ?_)
    refine lv_aload_n hx hb dX7_end_32 rfl (lv_at hl 0 rfl) ?_
    refine va_get (D := D) hx hb hts inlX7 hown hK hP 9 (jc_9 cI cL ad σ8 τ) rfl 2 (of_decide_eq_true rfl) (hts _ kw_14_6) (fun _ h9 => h9) rfl dX7_end_33 ?_
    have m9 : σ8 9 2 = (σ 9 2) := (jkp 2 eσ8 (of_decide_eq_true rfl))
    refine jtopr m9 ?_
    have z10 : (σ8 9 0).toInt = 0 := ((congrArg Int32.toInt (show σ8 9 0 = 0 from (jsp eσ8))).trans jz_0)
    have w11 : ∀ k : Nat, k < 80 → 0 ≤ (σ8 10 k).toInt ∧ (σ8 10 k).toInt ≤ 255 := (jrr_fr (jnp 10 eσ8 (of_decide_eq_true rfl)) w2)
    have w12 : ∀ k : Nat, k < 8 → 0 ≤ (σ8 11 k).toInt ∧ (σ8 11 k).toInt ≤ 3 := (jrr_fr (jnp 11 eσ8 (of_decide_eq_true rfl)) w3)
    exact by
     have I13 : jI9 σ8 := ⟨(by omega), w11, w12⟩
     have I14 : jI92 σ8 := jI92_fr (jkp 2 eσ8 (of_decide_eq_true rfl)) hI92
     exact by exact hret (σ 9 2) σ8 τ _ _ _ _ rfl ⟨rfl, (fun i hi => (jnp i eσ8 (imp_37 i hi))), (fun i hi => (jkp i eσ8 (imp_40 i hi))), I13, I14, (by omega), Or.inr (⟨trivial, (by omega), (by omega)⟩)⟩ hP hS dX7_end_36
  · have kc7 := jeq c7 rfl jz_m1
    refine lv_aload_n hx hb dX7_end_8 rfl (lv_at hl 0 rfl) ?_
    refine va_get (D := D) hx hb hts inlX7 hown hK hP 9 (jc_9 cI cL ad σ τ) rfl 1 (of_decide_eq_true rfl) (hts _ kw_13_17) (fun _ h9 => h9) rfl dX7_end_9 ?_
    refine lv_aload_n hx hb dX7_end_12 rfl (lv_at hl 0 rfl) ?_
    refine va_get (D := D) hx hb hts inlX7 hown hK hP 9 (jc_9 cI cL ad σ τ) rfl 0 (of_decide_eq_true rfl) (hts _ kw_13_0) (fun _ h9 => h9) rfl dX7_end_13 ?_
    refine lv_icmp_ge (tgt := 27) hx hb dX7_end_16 (of_decide_eq_true rfl) (fun c15 => ?_) (fun c15 => ?_)
    · have kc15 := jle c15 rfl rfl
      refine lv_aload_n hx hb dX7_end_27 rfl (lv_at hl 0 rfl) ?_
      refine lv_iconst (v := 0) hx hb dX7_end_28 (of_decide_eq_true rfl) ?_
      refine jput (ty := .int) hx hb hts inlX7 tyX7 tyX7_ok nmX7 hown hK hP hJ hA hS (jc_9 cI cL ad σ τ) rfl (k := 0) (of_decide_eq_true rfl) (Nat.le_of_ble_eq_true rfl) (jp_9_0 cI cL ad σ τ 0) (hts _ kw_13_0) (fun _ h9 => h9) rfl (by decide +kernel) rfl rfl dX7_end_29 (fun σ16 H locs eσ16 hP hS => ?_)
      refine lv_aload_n hx hb dX7_end_32 rfl (lv_at hl 0 rfl) ?_
      refine va_get (D := D) hx hb hts inlX7 hown hK hP 9 (jc_9 cI cL ad σ16 τ) rfl 2 (of_decide_eq_true rfl) (hts _ kw_14_6) (fun _ h9 => h9) rfl dX7_end_33 ?_
      have m17 : σ16 9 2 = (σ 9 2) := (jkp 2 eσ16 (of_decide_eq_true rfl))
      refine jtopr m17 ?_
      have z18 : (σ16 9 0).toInt = 0 := ((congrArg Int32.toInt (show σ16 9 0 = 0 from (jsp eσ16))).trans jz_0)
      have w19 : ∀ k : Nat, k < 80 → 0 ≤ (σ16 10 k).toInt ∧ (σ16 10 k).toInt ≤ 255 := (jrr_fr (jnp 10 eσ16 (of_decide_eq_true rfl)) w2)
      have w20 : ∀ k : Nat, k < 8 → 0 ≤ (σ16 11 k).toInt ∧ (σ16 11 k).toInt ≤ 3 := (jrr_fr (jnp 11 eσ16 (of_decide_eq_true rfl)) w3)
      exact by
       have I21 : jI9 σ16 := ⟨(by omega), w19, w20⟩
       have I22 : jI92 σ16 := jI92_fr (jkp 2 eσ16 (of_decide_eq_true rfl)) hI92
       exact by exact hret (σ 9 2) σ16 τ _ _ _ _ rfl ⟨rfl, (fun i hi => (jnp i eσ16 (imp_37 i hi))), (fun i hi => (jkp i eσ16 (imp_40 i hi))), I21, I22, (by omega), Or.inl ⟨jsame rfl jz_m1 (by omega), (by omega), (by omega)⟩⟩ hP hS dX7_end_36
    · have kc15 := jnle c15 rfl rfl
      refine lv_aload_n hx hb dX7_end_19 rfl (lv_at hl 0 rfl) ?_
      refine lv_aload_n hx hb dX7_end_20 rfl (lv_at hl 0 rfl) ?_
      refine va_get (D := D) hx hb hts inlX7 hown hK hP 9 (jc_9 cI cL ad σ τ) rfl 1 (of_decide_eq_true rfl) (hts _ kw_13_17) (fun _ h9 => h9) rfl dX7_end_21 ?_
      refine jput (ty := .int) hx hb hts inlX7 tyX7 tyX7_ok nmX7 hown hK hP hJ hA hS (jc_9 cI cL ad σ τ) rfl (k := 2) (of_decide_eq_true rfl) (Nat.le_of_ble_eq_true rfl) (jp_9_2 cI cL ad σ τ (σ 9 1)) (hts _ kw_14_6) (fun _ h9 => h9) rfl (by decide +kernel) rfl rfl dX7_end_24 (fun σ23 H locs eσ23 hP hS => ?_)
      refine lv_aload_n hx hb dX7_end_27 rfl (lv_at hl 0 rfl) ?_
      refine lv_iconst (v := 0) hx hb dX7_end_28 (of_decide_eq_true rfl) ?_
      refine jput (ty := .int) hx hb hts inlX7 tyX7 tyX7_ok nmX7 hown hK hP hJ hA hS (jc_9 cI cL ad σ23 τ) rfl (k := 0) (of_decide_eq_true rfl) (Nat.le_of_ble_eq_true rfl) (jp_9_0 cI cL ad σ23 τ 0) (hts _ kw_13_0) (fun _ h9 => h9) rfl (by decide +kernel) rfl rfl dX7_end_29 (fun σ24 H locs eσ24 hP hS => ?_)
      refine lv_aload_n hx hb dX7_end_32 rfl (lv_at hl 0 rfl) ?_
      refine va_get (D := D) hx hb hts inlX7 hown hK hP 9 (jc_9 cI cL ad σ24 τ) rfl 2 (of_decide_eq_true rfl) (hts _ kw_14_6) (fun _ h9 => h9) rfl dX7_end_33 ?_
      have m25 : σ24 9 2 = (σ 9 1) := ((jkp 2 eσ24 (of_decide_eq_true rfl)).trans (jsp eσ23))
      refine jtopr m25 ?_
      have z26 : (σ24 9 0).toInt = 0 := ((congrArg Int32.toInt (show σ24 9 0 = 0 from (jsp eσ24))).trans jz_0)
      have w27 : ∀ k : Nat, k < 80 → 0 ≤ (σ24 10 k).toInt ∧ (σ24 10 k).toInt ≤ 255 := (jrr_fr (jnp 10 eσ24 (of_decide_eq_true rfl)) (jrr_fr (jnp 10 eσ23 (of_decide_eq_true rfl)) w2))
      have w28 : ∀ k : Nat, k < 8 → 0 ≤ (σ24 11 k).toInt ∧ (σ24 11 k).toInt ≤ 3 := (jrr_fr (jnp 11 eσ24 (of_decide_eq_true rfl)) (jrr_fr (jnp 11 eσ23 (of_decide_eq_true rfl)) w3))
      exact by
       have I29 : jI9 σ24 := ⟨(by omega), w27, w28⟩
       have z30 : (σ24 9 2).toInt = (σ 9 1).toInt := (congrArg Int32.toInt (show σ24 9 2 = (σ 9 1) from m25))
       have I31 : jI92 σ24 := (show (-1) ≤ (σ24 9 2).toInt ∧ (σ24 9 2).toInt ≤ 80 by omega)
       exact by exact hret (σ 9 1) σ24 τ _ _ _ _ rfl ⟨rfl, (fun i hi => ((jnp i eσ24 (imp_37 i hi)).trans (jnp i eσ23 (imp_37 i hi)))), (fun i hi => ((jkp i eσ24 (imp_40 i hi)).trans (jkp i eσ23 (imp_41 i hi)))), I29, I31, (by omega), Or.inr (⟨trivial, (by omega), (by omega)⟩)⟩ hP hS dX7_end_36
set_option maxHeartbeats 4000000 in
set_option maxRecDepth 100000 in
theorem c_X7_skip_9 (l : Launch) (D : va_G) (cI cL : ClassId) (ad zz : Nat → Nat) (hJ : jD ad) (σ : Nat → Nat → Int32) (τ : Nat → Nat → Int64) (a1 : Int32) (A1 : Int) (t1 : a1.toInt = A1) (hI9 : jI9 σ) (hI91 : jI91 σ) (hI92 : jI92 σ) (hp0 : 0 ≤ A1) : jM l yX7_skip cX7_skip 2 (some .boolean) ({ frames := 1, cells := 0, slots := 0, locals := 20 }) D cI cL ad zz [.ref (ad 9), .int a1] σ τ (fun r σ' τ' => τ = τ' ∧ (∀ i : Nat, (i < 9 ∨ 9 < i) → σ' i = σ i) ∧ (∀ k : Nat, (k < 1 ∨ 1 < k) → σ' 9 k = σ 9 k) ∧ (jI9 σ') ∧ (jI91 σ') ∧ (jI92 σ') ∧ ((r = 1 ∧ ((σ 9 2).toInt = (-1)) ∧ ((σ' 9 1).toInt = (σ 9 1).toInt + 1) ∧ ((σ' 9 2).toInt = (-1)) ∧ (jIs (σ 10) ((σ 9 0).toInt) ((σ 9 1).toInt) (A1)) ∧ (jYs (σ 10) (σ 9 0).toInt (σ 9 1).toInt = A1)) ∨ (r = 0 ∧ ((σ' 9 1).toInt = (σ 9 1).toInt) ∧ ((σ' 9 2).toInt = (σ 9 2).toInt) ∧ (((σ 9 2).toInt = -1 → ¬ jIs (σ 10) ((σ 9 0).toInt) ((σ 9 1).toInt) (A1))) ∧ (((σ 9 2).toInt = -1 → jYs (σ 10) (σ 9 0).toInt (σ 9 1).toInt ≠ A1))))) := by
  refine jM.of hJ (by decide +kernel) (nt := .boolean) rfl (Nat.le_of_ble_eq_true rfl) ?_
  intro p e s m args below meth c Q ls hC hret hl hP
  obtain ⟨hx, hb, hr, hml, hown, hts, hK, -, hlocks, hZ⟩ := hC
  have hown : s.vm.findClass RX7 = some m.cls := hown
  have hS : va_S (jA ad) s.heap s.heap [] := va_S.rf
  have hA : ∀ q, jA ad q → jA ad q := fun _ h => h
  have hl : lv_has ls 2 [(0, .ref (ad 9)), (1, .int a1)] := hl
  have g1 := jrg t1
  obtain ⟨i1, w2, w3⟩ : (0 ≤ (σ 9 0).toInt ∧ (σ 9 0).toInt ≤ 80) ∧ (∀ k : Nat, k < 80 → 0 ≤ (σ 10 k).toInt ∧ (σ 10 k).toInt ≤ 255) ∧ (∀ k : Nat, k < 8 → 0 ≤ (σ 11 k).toInt ∧ (σ 11 k).toInt ≤ 3) := id hI9
  obtain ⟨i4, i5⟩ : (0 ≤ (σ 9 1).toInt) ∧ ((σ 9 1).toInt ≤ (σ 9 0).toInt) := id hI91
  have i6 : (-1) ≤ (σ 9 2).toInt ∧ (σ 9 2).toInt ≤ 80 := hI92
  refine lv_aload_n hx hb dX7_skip_0 rfl (lv_at hl 0 rfl) ?_
  refine va_get (D := D) hx hb hts inlX7 hown hK hP 9 (jc_9 cI cL ad σ τ) rfl 2 (of_decide_eq_true rfl) (hts _ kw_14_6) (fun _ h9 => h9) rfl dX7_skip_1 ?_
  refine lv_iconst (v := (-1)) hx hb dX7_skip_4 (of_decide_eq_true rfl) ?_
  refine lv_icmp_ne (tgt := 16) hx hb dX7_skip_5 (of_decide_eq_true rfl) (fun c7 => ?_) (fun c7 => ?_)
  · have kc7 := jne c7 rfl jz_m1
    refine lv_iconst (v := 0) hx hb dX7_skip_16 (of_decide_eq_true rfl) ?_
    exact by exact hret 0 σ τ _ _ _ _ rfl ⟨rfl, (fun _ _ => rfl), (fun _ _ => rfl), hI9, hI91, hI92, Or.inr (⟨rfl, (by have h9 := jz_0; omega), (by have h9 := jz_0; omega), (fun h => by unfold jIs; omega), (fun h9 => by omega)⟩)⟩ hP hS dX7_skip_17
  · have kc7 := jeq c7 rfl jz_m1
    refine lv_aload_n hx hb dX7_skip_8 rfl (lv_at hl 0 rfl) ?_
    refine jcallV (As := []) (rest := []) ⟨hx, hb, hml, hown, hts⟩ hK hP hA hS hZ (c_X7_sign_9 l D cI cL ad zz hJ σ τ hI9) cw_RX7_35 (jc_9 cI cL ad σ τ) rfl ⟨Nat.le_of_ble_eq_true rfl, Nat.le_of_ble_eq_true rfl⟩ rfl rfl rfl hl.1 rfl (Nat.le_of_ble_eq_true rfl) dX7_skip_9 ⟨Nat.zero_le _, Nat.zero_le _⟩ (fun r9 σ8 τ8 H locs h8 hP hS => ?_)
    obtain ⟨⟨rfl, rfl⟩, h8⟩ := h8
    rcases h8 with h10 | h11
    · obtain ⟨q15, k12, k13, k14⟩ := h10
      have q16 : r9 = (σ 10 (σ 9 1).toNatClampNeg) := q15.trans rfl
      have q16 := q16.symm
      subst q16
      refine lv_iload_n hx hb dX7_skip_12 rfl (lv_at hl 1 rfl) ?_
      refine lv_icmp_eq (tgt := 18) hx hb dX7_skip_13 (of_decide_eq_true rfl) (fun c17 => ?_) (fun c17 => ?_)
      · have kc17 := jeq c17 rfl t1
        refine lv_aload_n hx hb dX7_skip_18 rfl (lv_at hl 0 rfl) ?_
        refine lv_dup hx hb dX7_skip_19 rfl ?_
        refine va_get (D := D) hx hb hts inlX7 hown hK hP 9 (jc_9 cI cL ad σ τ) rfl 1 (of_decide_eq_true rfl) (hts _ kw_13_17) (fun _ h9 => h9) rfl dX7_skip_20 ?_
        refine lv_iconst (v := 1) hx hb dX7_skip_23 (of_decide_eq_true rfl) ?_
        have g18 := jrg (rfl : (σ 9 1).toInt = (σ 9 1).toInt)
        refine lv_iadd hx hb dX7_skip_24 ?_
        refine lv_topi (fun x19 ex19 => ?_)
        exact by
         have tx19 : x19.toInt = (σ 9 1).toInt + 1 := (jadd ex19 rfl jz_1 (by omega) (by omega)).trans (by omega)
         refine jput (ty := .int) hx hb hts inlX7 tyX7 tyX7_ok nmX7 hown hK hP hJ hA hS (jc_9 cI cL ad σ τ) rfl (k := 1) (of_decide_eq_true rfl) (Nat.le_of_ble_eq_true rfl) (jp_9_1 cI cL ad σ τ x19) (hts _ kw_13_17) (fun _ h9 => h9) rfl (by decide +kernel) rfl rfl dX7_skip_25 (fun σ20 H locs eσ20 hP hS => ?_)
         refine lv_iconst (v := 1) hx hb dX7_skip_28 (of_decide_eq_true rfl) ?_
         have I21 : jI9 σ20 := jI9_fr (jkp 0 eσ20 (of_decide_eq_true rfl)) (jnp 10 eσ20 (of_decide_eq_true rfl)) (jnp 11 eσ20 (of_decide_eq_true rfl)) hI9
         have z22 : (σ20 9 1).toInt = (σ 9 1).toInt + 1 := ((congrArg Int32.toInt (show σ20 9 1 = x19 from (jsp eσ20))).trans tx19)
         have z23 : (σ20 9 0).toInt = (σ 9 0).toInt := (congrArg Int32.toInt (show σ20 9 0 = (σ 9 0) from (jkp 0 eσ20 (of_decide_eq_true rfl))))
         have I24 : jI91 σ20 := ⟨(by omega), (by omega)⟩
         have I25 : jI92 σ20 := jI92_fr (jkp 2 eσ20 (of_decide_eq_true rfl)) hI92
         have z26 : (σ20 9 2).toInt = (σ 9 2).toInt := (congrArg Int32.toInt (show σ20 9 2 = (σ 9 2) from (jkp 2 eσ20 (of_decide_eq_true rfl))))
         exact by exact hret 1 σ20 τ _ _ _ _ rfl ⟨rfl, (fun i hi => (jnp i eσ20 (imp_37 i hi))), (fun i hi => (jkp i eσ20 (imp_42 i hi))), I21, I24, I25, Or.inl ⟨rfl, (by have h9 := jz_1; omega), (by have h9 := jz_1; omega), (by have h9 := jz_1; omega), (by have i0 := jix (f := σ 10) (show (σ 9 1).toInt = (σ 9 1).toInt by omega); unfold jIs; omega), (by omega)⟩⟩ hP hS dX7_skip_29
      · exact by
         have kc17 := jne c17 rfl t1
         refine lv_iconst (v := 0) hx hb dX7_skip_16 (of_decide_eq_true rfl) ?_
         exact by exact hret 0 σ τ _ _ _ _ rfl ⟨rfl, (fun _ _ => rfl), (fun _ _ => rfl), hI9, hI91, hI92, Or.inr (⟨rfl, (by have h9 := jz_0; omega), (by have h9 := jz_0; omega), (fun h => by have i0 := jix (f := σ 10) (show (σ 9 1).toInt = (σ 9 1).toInt by omega); unfold jIs; omega), (fun h9 => by omega)⟩)⟩ hP hS dX7_skip_17
    · obtain ⟨q29, k27, k28⟩ := h11
      have q29 := q29.symm
      subst q29
      refine lv_iload_n hx hb dX7_skip_12 rfl (lv_at hl 1 rfl) ?_
      refine lv_icmp_eq (tgt := 18) hx hb dX7_skip_13 (of_decide_eq_true rfl) (fun c => absurd (jeq c jz_m1 t1) (by omega)) (fun c30 => ?_)
      have kc30 := jne c30 jz_m1 t1
      exact by
       refine lv_iconst (v := 0) hx hb dX7_skip_16 (of_decide_eq_true rfl) ?_
       exact by exact hret 0 σ τ _ _ _ _ rfl ⟨rfl, (fun _ _ => rfl), (fun _ _ => rfl), hI9, hI91, hI92, Or.inr (⟨rfl, (by have h9 := jz_0; omega), (by have h9 := jz_0; omega), (fun h => by unfold jIs; omega), (fun h9 => by omega)⟩)⟩ hP hS dX7_skip_17
set_option maxHeartbeats 4000000 in
set_option maxRecDepth 100000 in
theorem c_X7_number_4 (l : Launch) (D : va_G) (cI cL : ClassId) (ad zz : Nat → Nat) (hJ : jD ad) (σ : Nat → Nat → Int32) (τ : Nat → Nat → Int64) (hI9 : jI9 σ) (hI91 : jI91 σ) (hI92 : jI92 σ) (hp0 : (σ 9 2).toInt = (-1)) : jM l yX7_number cX7_number 4 (some .int) ({ frames := 1, cells := 0, slots := 0, locals := 21 }) D cI cL ad zz [.ref (ad 9), .int 4] σ τ (fun r σ' τ' => τ = τ' ∧ (∀ i : Nat, (i < 9 ∨ 9 < i) → σ' i = σ i) ∧ (∀ k : Nat, (k < 1 ∨ 1 < k) ∧ (k < 2 ∨ 2 < k) → σ' 9 k = σ 9 k) ∧ (jI9 σ') ∧ (jI91 σ') ∧ (jI92 σ') ∧ ((48 ≤ jYs (σ 10) (σ 9 0).toInt (σ 9 1).toInt ∧ jYs (σ 10) (σ 9 0).toInt (σ 9 1).toInt ≤ 57 → (σ' 9 1).toInt = (σ 9 1).toInt + jNq (σ 10) (σ 9 0).toInt (σ 9 1).toInt ∧ r.toInt = jNv (σ 10) (σ 9 0).toInt (σ 9 1).toInt ∧ (σ' 9 2).toInt = -1)) ∧ ((σ 9 1).toInt ≤ (σ' 9 1).toInt) ∧ ((True ∧ (0 ≤ r.toInt ∧ r.toInt ≤ 9999)))) := by
  refine jM.of hJ (by decide +kernel) (nt := .int) rfl (Nat.le_of_ble_eq_true rfl) ?_
  intro p e s m args below meth c Q ls hC hret hl hP
  obtain ⟨hx, hb, hr, hml, hown, hts, hK, -, hlocks, hZ⟩ := hC
  have hown : s.vm.findClass RX7 = some m.cls := hown
  have hS : va_S (jA ad) s.heap s.heap [] := va_S.rf
  have hA : ∀ q, jA ad q → jA ad q := fun _ h => h
  have hl : lv_has ls 4 [(0, .ref (ad 9)), (1, .int 4)] := hl
  obtain ⟨i1, w2, w3⟩ : (0 ≤ (σ 9 0).toInt ∧ (σ 9 0).toInt ≤ 80) ∧ (∀ k : Nat, k < 80 → 0 ≤ (σ 10 k).toInt ∧ (σ 10 k).toInt ≤ 255) ∧ (∀ k : Nat, k < 8 → 0 ≤ (σ 11 k).toInt ∧ (σ 11 k).toInt ≤ 3) := id hI9
  obtain ⟨i4, i5⟩ : (0 ≤ (σ 9 1).toInt) ∧ ((σ 9 1).toInt ≤ (σ 9 0).toInt) := id hI91
  have i6 : (-1) ≤ (σ 9 2).toInt ∧ (σ 9 2).toInt ≤ 80 := hI92
  refine lv_aload_n hx hb dX7_number_0 rfl (lv_at hl 0 rfl) ?_
  refine jcallV (As := []) (rest := []) ⟨hx, hb, hml, hown, hts⟩ hK hP hA hS hZ (c_X7_sign_9 l D cI cL ad zz hJ σ τ hI9) cw_RX7_35 (jc_9 cI cL ad σ τ) rfl ⟨Nat.le_of_ble_eq_true rfl, Nat.le_of_ble_eq_true rfl⟩ rfl rfl rfl hl.1 rfl (Nat.le_of_ble_eq_true rfl) dX7_number_1 ⟨Nat.zero_le _, Nat.zero_le _⟩ (fun r8 σ7 τ7 H locs h7 hP hS => ?_)
  obtain ⟨⟨rfl, rfl⟩, h7⟩ := h7
  rcases h7 with h9 | h10
  · obtain ⟨q14, k11, k12, k13⟩ := h9
    have q15 : r8 = (σ 10 (σ 9 1).toNatClampNeg) := q14.trans rfl
    have q15 := q15.symm
    subst q15
    refine jcallS (As := [.int (σ 10 (σ 9 1).toNatClampNeg)]) (rest := []) ⟨hx, hb, hml, hown, hts⟩ hK hP hA hS hZ (c_X7_isDigit l D cI cL ad zz hJ σ τ (σ 10 (σ 9 1).toNatClampNeg) ((σ 10 (σ 9 1).toNatClampNeg).toInt) rfl) cw_RX7_39 ⟨Nat.le_of_ble_eq_true rfl, Nat.le_of_ble_eq_true rfl⟩ rfl rfl rfl hl.1 rfl (Nat.le_of_ble_eq_true rfl) dX7_number_4 ⟨Nat.zero_le _, Nat.zero_le _⟩ (fun r17 σ16 τ16 H locs h16 hP hS => ?_)
    obtain ⟨⟨rfl, rfl⟩, h16⟩ := h16
    rcases h16 with h18 | h19
    · obtain ⟨q21, k20⟩ := h18
      have q21 := q21.symm
      subst q21
      refine lv_if_ne (tgt := 18) hx hb dX7_number_7 (of_decide_eq_true rfl) (fun _ => ?_) (fun c => absurd c (of_decide_eq_true rfl))
      refine lv_iconst (v := 0) hx hb dX7_number_18 (of_decide_eq_true rfl) ?_
      refine lv_istore_n (lv' := [(2, .int 0), (0, .ref (ad 9)), (1, .int 4)]) hx hb dX7_number_19 rfl hl (of_decide_eq_true rfl) rfl (fun ls hl => ?_)
      refine lv_iconst (v := 0) hx hb dX7_number_20 (of_decide_eq_true rfl) ?_
      refine lv_istore_n (lv' := [(3, .int 0), (2, .int 0), (0, .ref (ad 9)), (1, .int 4)]) hx hb dX7_number_21 rfl hl (of_decide_eq_true rfl) rfl (fun ls hl => ?_)
      refine lv_iload_n hx hb dX7_number_22 rfl (lv_at hl 0 rfl) ?_
      refine lv_iload_n hx hb dX7_number_23 rfl (lv_at hl 3 rfl) ?_
      refine lv_icmp_ge (tgt := 68) hx hb dX7_number_24 (of_decide_eq_true rfl) (fun c => absurd c (of_decide_eq_true rfl)) (fun _ => ?_)
      refine lv_aload_n hx hb dX7_number_27 rfl (lv_at hl 2 rfl) ?_
      refine jcallV (As := []) (rest := []) ⟨hx, hb, hml, hown, hts⟩ hK hP hA hS hZ (c_X7_sign_9 l D cI cL ad zz hJ σ τ hI9) cw_RX7_35 (jc_9 cI cL ad σ τ) rfl ⟨Nat.le_of_ble_eq_true rfl, Nat.le_of_ble_eq_true rfl⟩ rfl rfl rfl hl.1 rfl (Nat.le_of_ble_eq_true rfl) dX7_number_28 ⟨Nat.zero_le _, Nat.zero_le _⟩ (fun r23 σ22 τ22 H locs h22 hP hS => ?_)
      obtain ⟨⟨rfl, rfl⟩, h22⟩ := h22
      rcases h22 with h24 | h25
      · obtain ⟨q29, k26, k27, k28⟩ := h24
        have q30 : r23 = (σ 10 (σ 9 1).toNatClampNeg) := q29.trans rfl
        have q30 := q30.symm
        subst q30
        refine jcallS (As := [.int (σ 10 (σ 9 1).toNatClampNeg)]) (rest := []) ⟨hx, hb, hml, hown, hts⟩ hK hP hA hS hZ (c_X7_isDigit l D cI cL ad zz hJ σ τ (σ 10 (σ 9 1).toNatClampNeg) ((σ 10 (σ 9 1).toNatClampNeg).toInt) rfl) cw_RX7_39 ⟨Nat.le_of_ble_eq_true rfl, Nat.le_of_ble_eq_true rfl⟩ rfl rfl rfl hl.1 rfl (Nat.le_of_ble_eq_true rfl) dX7_number_31 ⟨Nat.zero_le _, Nat.zero_le _⟩ (fun r32 σ31 τ31 H locs h31 hP hS => ?_)
        obtain ⟨⟨rfl, rfl⟩, h31⟩ := h31
        rcases h31 with h33 | h34
        · obtain ⟨q36, k35⟩ := h33
          have q36 := q36.symm
          subst q36
          refine lv_if_eq (tgt := 68) hx hb dX7_number_34 (of_decide_eq_true rfl) (fun c => absurd c (of_decide_eq_true rfl)) (fun _ => ?_)
          refine lv_iload_n hx hb dX7_number_37 rfl (lv_at hl 1 rfl) ?_
          refine lv_bipush (v := 10) hx hb dX7_number_38 (of_decide_eq_true rfl) ?_
          refine lv_imul hx hb dX7_number_40 ?_
          refine jtopr (y := 0) (of_decide_eq_true rfl) ?_
          refine lv_aload_n hx hb dX7_number_41 rfl (lv_at hl 2 rfl) ?_
          refine va_get (D := D) hx hb hts inlX7 hown hK hP 9 (jc_9 cI cL ad σ τ) rfl 3 (of_decide_eq_true rfl) (hts _ kw_3_20) (fun _ h9 => h9) rfl dX7_number_42 ?_
          refine lv_aload_n hx hb dX7_number_45 rfl (lv_at hl 2 rfl) ?_
          refine lv_dup hx hb dX7_number_46 rfl ?_
          refine va_get (D := D) hx hb hts inlX7 hown hK hP 9 (jc_9 cI cL ad σ τ) rfl 1 (of_decide_eq_true rfl) (hts _ kw_13_17) (fun _ h9 => h9) rfl dX7_number_47 ?_
          refine lv_dup_x1 hx hb dX7_number_50 rfl rfl ?_
          refine lv_iconst (v := 1) hx hb dX7_number_51 (of_decide_eq_true rfl) ?_
          have g37 := jrg (rfl : (σ 9 1).toInt = (σ 9 1).toInt)
          refine lv_iadd hx hb dX7_number_52 ?_
          refine lv_topi (fun x38 ex38 => ?_)
          exact by
           have tx38 : x38.toInt = (σ 9 1).toInt + 1 := (jadd ex38 rfl jz_1 (by omega) (by omega)).trans (by omega)
           refine jput (ty := .int) hx hb hts inlX7 tyX7 tyX7_ok nmX7 hown hK hP hJ hA hS (jc_9 cI cL ad σ τ) rfl (k := 1) (of_decide_eq_true rfl) (Nat.le_of_ble_eq_true rfl) (jp_9_1 cI cL ad σ τ x38) (hts _ kw_13_17) (fun _ h9 => h9) rfl (by decide +kernel) rfl rfl dX7_number_53 (fun σ39 H locs eσ39 hP hS => ?_)
           refine jald hx hb hK hP (jc_10 cI cL ad σ39 τ) (jin rfl (by omega) (by omega)) dX7_number_56 ?_
           refine jtopr (y := (σ 10 (σ 9 1).toNatClampNeg)) (by rw [jnp 10 eσ39 (of_decide_eq_true rfl)]) ?_
           refine lv_iadd hx hb dX7_number_57 ?_
           refine jtopr (y := (σ 10 (σ 9 1).toNatClampNeg)) (by rw [Int32.zero_add]) ?_
           refine lv_bipush (v := 48) hx hb dX7_number_58 (of_decide_eq_true rfl) ?_
           have g40 := jrg (rfl : (σ 10 (σ 9 1).toNatClampNeg).toInt = (σ 10 (σ 9 1).toNatClampNeg).toInt)
           refine lv_isub hx hb dX7_number_60 ?_
           exact by
            refine lv_topi (fun x41 ex41 => ?_)
            have tx41 : x41.toInt = (σ 10 (σ 9 1).toNatClampNeg).toInt - 48 := (jsub ex41 rfl jz_48 (by omega) (by omega)).trans (by omega)
            refine lv_istore_n (lv' := [(2, .int x41), (3, .int 0), (0, .ref (ad 9)), (1, .int 4)]) hx hb dX7_number_61 rfl hl (of_decide_eq_true rfl) rfl (fun ls hl => ?_)
            refine lv_iinc (v := 1) (lv' := [(3, .int 1), (2, .int x41), (0, .ref (ad 9)), (1, .int 4)]) hx hb dX7_number_62 hl (k := 1) rfl (of_decide_eq_true rfl) (of_decide_eq_true rfl) rfl (fun ls hl => ?_)
            refine lv_goto (tgt := 22) hx hb dX7_number_65 (of_decide_eq_true rfl) ?_
            refine lv_iload_n hx hb dX7_number_22 rfl (lv_at hl 0 rfl) ?_
            refine lv_iload_n hx hb dX7_number_23 rfl (lv_at hl 3 rfl) ?_
            refine lv_icmp_ge (tgt := 68) hx hb dX7_number_24 (of_decide_eq_true rfl) (fun c => absurd c (of_decide_eq_true rfl)) (fun _ => ?_)
            refine lv_aload_n hx hb dX7_number_27 rfl (lv_at hl 2 rfl) ?_
            exact by
             have I42 : jI9 σ39 := jI9_fr (jkp 0 eσ39 (of_decide_eq_true rfl)) (jnp 10 eσ39 (of_decide_eq_true rfl)) (jnp 11 eσ39 (of_decide_eq_true rfl)) hI9
             have z43 : (σ39 9 1).toInt = (σ 9 1).toInt + 1 := ((congrArg Int32.toInt (show σ39 9 1 = x38 from (jsp eσ39))).trans tx38)
             have z44 : (σ39 9 0).toInt = (σ 9 0).toInt := (congrArg Int32.toInt (show σ39 9 0 = (σ 9 0) from (jkp 0 eσ39 (of_decide_eq_true rfl))))
             refine jcallV (As := []) (rest := []) ⟨hx, hb, hml, hown, hts⟩ hK hP hA hS hZ (c_X7_sign_9 l D cI cL ad zz hJ σ39 τ I42) cw_RX7_35 (jc_9 cI cL ad σ39 τ) rfl ⟨Nat.le_of_ble_eq_true rfl, Nat.le_of_ble_eq_true rfl⟩ rfl rfl rfl hl.1 rfl (Nat.le_of_ble_eq_true rfl) dX7_number_28 ⟨Nat.zero_le _, Nat.zero_le _⟩ (fun r46 σ45 τ45 H locs h45 hP hS => ?_)
             obtain ⟨⟨rfl, rfl⟩, h45⟩ := h45
             rcases h45 with h47 | h48
             · obtain ⟨q52, k49, k50, k51⟩ := h47
               have q53 : r46 = (σ 10 x38.toNatClampNeg) := q52.trans (by rw [(show σ39 9 1 = x38 from (jsp eσ39)), jnp 10 eσ39 (of_decide_eq_true rfl)])
               have q53e : (σ39 10 (σ39 9 1).toNatClampNeg).toInt = (σ 10 x38.toNatClampNeg).toInt := by rw [← q52, ← q53]
               exact by
                have q53 := q53.symm
                subst q53
                try rw [show (σ39 9 1).toInt = (σ 9 1).toInt + 1 from by omega] at k51
                try rw [show (σ39 9 0).toInt = (σ 9 0).toInt from by omega] at k51
                try rw [show σ39 10 = σ 10 from (jnp 10 eσ39 (of_decide_eq_true rfl))] at k51
                refine jcallS (As := [.int (σ 10 x38.toNatClampNeg)]) (rest := []) ⟨hx, hb, hml, hown, hts⟩ hK hP hA hS hZ (c_X7_isDigit l D cI cL ad zz hJ σ39 τ (σ 10 x38.toNatClampNeg) ((σ 10 x38.toNatClampNeg).toInt) rfl) cw_RX7_39 ⟨Nat.le_of_ble_eq_true rfl, Nat.le_of_ble_eq_true rfl⟩ rfl rfl rfl hl.1 rfl (Nat.le_of_ble_eq_true rfl) dX7_number_31 ⟨Nat.zero_le _, Nat.zero_le _⟩ (fun r55 σ54 τ54 H locs h54 hP hS => ?_)
                obtain ⟨⟨rfl, rfl⟩, h54⟩ := h54
                rcases h54 with h56 | h57
                · obtain ⟨q59, k58⟩ := h56
                  have q59 := q59.symm
                  subst q59
                  refine lv_if_eq (tgt := 68) hx hb dX7_number_34 (of_decide_eq_true rfl) (fun c => absurd c (of_decide_eq_true rfl)) (fun _ => ?_)
                  refine lv_iload_n hx hb dX7_number_37 rfl (lv_at hl 1 rfl) ?_
                  refine lv_bipush (v := 10) hx hb dX7_number_38 (of_decide_eq_true rfl) ?_
                  refine lv_imul hx hb dX7_number_40 ?_
                  refine lv_topi (fun x60 ex60 => ?_)
                  exact by
                   have tx60 : x60.toInt = 10 * (σ 10 (σ 9 1).toNatClampNeg).toInt - 480 := (jmul ex60 tx41 jz_10 (by omega) (by omega)).trans (by omega)
                   refine lv_aload_n hx hb dX7_number_41 rfl (lv_at hl 2 rfl) ?_
                   refine va_get (D := D) hx hb hts inlX7 hown hK hP 9 (jc_9 cI cL ad σ39 τ) rfl 3 (of_decide_eq_true rfl) (hts _ kw_3_20) (fun _ h9 => h9) rfl dX7_number_42 ?_
                   refine lv_aload_n hx hb dX7_number_45 rfl (lv_at hl 2 rfl) ?_
                   refine lv_dup hx hb dX7_number_46 rfl ?_
                   refine va_get (D := D) hx hb hts inlX7 hown hK hP 9 (jc_9 cI cL ad σ39 τ) rfl 1 (of_decide_eq_true rfl) (hts _ kw_13_17) (fun _ h9 => h9) rfl dX7_number_47 ?_
                   have m61 : σ39 9 1 = x38 := (jsp eσ39)
                   refine jtopr m61 ?_
                   refine lv_dup_x1 hx hb dX7_number_50 rfl rfl ?_
                   refine lv_iconst (v := 1) hx hb dX7_number_51 (of_decide_eq_true rfl) ?_
                   refine lv_iadd hx hb dX7_number_52 ?_
                   refine lv_topi (fun x62 ex62 => ?_)
                   exact by
                    have tx62 : x62.toInt = (σ 9 1).toInt + 2 := (jadd ex62 tx38 jz_1 (by omega) (by omega)).trans (by omega)
                    refine jput (ty := .int) hx hb hts inlX7 tyX7 tyX7_ok nmX7 hown hK hP hJ hA hS (jc_9 cI cL ad σ39 τ) rfl (k := 1) (of_decide_eq_true rfl) (Nat.le_of_ble_eq_true rfl) (jp_9_1 cI cL ad σ39 τ x62) (hts _ kw_13_17) (fun _ h9 => h9) rfl (by decide +kernel) rfl rfl dX7_number_53 (fun σ63 H locs eσ63 hP hS => ?_)
                    refine jald hx hb hK hP (jc_10 cI cL ad σ63 τ) (jin tx38 (by omega) (by omega)) dX7_number_56 ?_
                    refine jtopr (y := (σ 10 x38.toNatClampNeg)) (by rw [jnp 10 eσ63 (of_decide_eq_true rfl), jnp 10 eσ39 (of_decide_eq_true rfl)]) ?_
                    have g64 := jrg (rfl : (σ 10 x38.toNatClampNeg).toInt = (σ 10 x38.toNatClampNeg).toInt)
                    refine lv_iadd hx hb dX7_number_57 ?_
                    refine lv_topi (fun x65 ex65 => ?_)
                    have tx65 : x65.toInt = 10 * (σ 10 (σ 9 1).toNatClampNeg).toInt + (σ 10 x38.toNatClampNeg).toInt - 480 := (jadd ex65 tx60 rfl (by omega) (by omega)).trans (by omega)
                    refine lv_bipush (v := 48) hx hb dX7_number_58 (of_decide_eq_true rfl) ?_
                    exact by
                     refine lv_isub hx hb dX7_number_60 ?_
                     refine lv_topi (fun x66 ex66 => ?_)
                     have tx66 : x66.toInt = 10 * (σ 10 (σ 9 1).toNatClampNeg).toInt + (σ 10 x38.toNatClampNeg).toInt - 528 := (jsub ex66 tx65 jz_48 (by omega) (by omega)).trans (by omega)
                     refine lv_istore_n (lv' := [(2, .int x66), (3, .int 1), (0, .ref (ad 9)), (1, .int 4)]) hx hb dX7_number_61 rfl hl (of_decide_eq_true rfl) rfl (fun ls hl => ?_)
                     refine lv_iinc (v := 2) (lv' := [(3, .int 2), (2, .int x66), (0, .ref (ad 9)), (1, .int 4)]) hx hb dX7_number_62 hl (k := 1) rfl (of_decide_eq_true rfl) (of_decide_eq_true rfl) rfl (fun ls hl => ?_)
                     refine lv_goto (tgt := 22) hx hb dX7_number_65 (of_decide_eq_true rfl) ?_
                     refine lv_iload_n hx hb dX7_number_22 rfl (lv_at hl 0 rfl) ?_
                     refine lv_iload_n hx hb dX7_number_23 rfl (lv_at hl 3 rfl) ?_
                     refine lv_icmp_ge (tgt := 68) hx hb dX7_number_24 (of_decide_eq_true rfl) (fun c => absurd c (of_decide_eq_true rfl)) (fun _ => ?_)
                     exact by
                      refine lv_aload_n hx hb dX7_number_27 rfl (lv_at hl 2 rfl) ?_
                      have I67 : jI9 σ63 := jI9_fr (jkp 0 eσ63 (of_decide_eq_true rfl)) (jnp 10 eσ63 (of_decide_eq_true rfl)) (jnp 11 eσ63 (of_decide_eq_true rfl)) I42
                      have z68 : (σ63 9 1).toInt = (σ 9 1).toInt + 2 := ((congrArg Int32.toInt (show σ63 9 1 = x62 from (jsp eσ63))).trans tx62)
                      have z69 : (σ63 9 0).toInt = (σ 9 0).toInt := (congrArg Int32.toInt (show σ63 9 0 = (σ 9 0) from ((jkp 0 eσ63 (of_decide_eq_true rfl)).trans (jkp 0 eσ39 (of_decide_eq_true rfl)))))
                      refine jcallV (As := []) (rest := []) ⟨hx, hb, hml, hown, hts⟩ hK hP hA hS hZ (c_X7_sign_9 l D cI cL ad zz hJ σ63 τ I67) cw_RX7_35 (jc_9 cI cL ad σ63 τ) rfl ⟨Nat.le_of_ble_eq_true rfl, Nat.le_of_ble_eq_true rfl⟩ rfl rfl rfl hl.1 rfl (Nat.le_of_ble_eq_true rfl) dX7_number_28 ⟨Nat.zero_le _, Nat.zero_le _⟩ (fun r71 σ70 τ70 H locs h70 hP hS => ?_)
                      obtain ⟨⟨rfl, rfl⟩, h70⟩ := h70
                      rcases h70 with h72 | h73
                      · obtain ⟨q77, k74, k75, k76⟩ := h72
                        have q78 : r71 = (σ 10 x62.toNatClampNeg) := q77.trans (by rw [(show σ63 9 1 = x62 from (jsp eσ63)), jnp 10 eσ63 (of_decide_eq_true rfl), jnp 10 eσ39 (of_decide_eq_true rfl)])
                        exact by
                         have q78e : (σ63 10 (σ63 9 1).toNatClampNeg).toInt = (σ 10 x62.toNatClampNeg).toInt := by rw [← q77, ← q78]
                         have q78 := q78.symm
                         subst q78
                         try rw [show (σ63 9 1).toInt = (σ 9 1).toInt + 2 from by omega] at k76
                         try rw [show (σ63 9 0).toInt = (σ 9 0).toInt from by omega] at k76
                         try rw [show σ63 10 = σ 10 from ((jnp 10 eσ63 (of_decide_eq_true rfl)).trans (jnp 10 eσ39 (of_decide_eq_true rfl)))] at k76
                         refine jcallS (As := [.int (σ 10 x62.toNatClampNeg)]) (rest := []) ⟨hx, hb, hml, hown, hts⟩ hK hP hA hS hZ (c_X7_isDigit l D cI cL ad zz hJ σ63 τ (σ 10 x62.toNatClampNeg) ((σ 10 x62.toNatClampNeg).toInt) rfl) cw_RX7_39 ⟨Nat.le_of_ble_eq_true rfl, Nat.le_of_ble_eq_true rfl⟩ rfl rfl rfl hl.1 rfl (Nat.le_of_ble_eq_true rfl) dX7_number_31 ⟨Nat.zero_le _, Nat.zero_le _⟩ (fun r80 σ79 τ79 H locs h79 hP hS => ?_)
                         obtain ⟨⟨rfl, rfl⟩, h79⟩ := h79
                         rcases h79 with h81 | h82
                         · obtain ⟨q84, k83⟩ := h81
                           have q84 := q84.symm
                           subst q84
                           refine lv_if_eq (tgt := 68) hx hb dX7_number_34 (of_decide_eq_true rfl) (fun c => absurd c (of_decide_eq_true rfl)) (fun _ => ?_)
                           refine lv_iload_n hx hb dX7_number_37 rfl (lv_at hl 1 rfl) ?_
                           refine lv_bipush (v := 10) hx hb dX7_number_38 (of_decide_eq_true rfl) ?_
                           refine lv_imul hx hb dX7_number_40 ?_
                           refine lv_topi (fun x85 ex85 => ?_)
                           exact by
                            have tx85 : x85.toInt = 100 * (σ 10 (σ 9 1).toNatClampNeg).toInt + 10 * (σ 10 x38.toNatClampNeg).toInt - 5280 := (jmul ex85 tx66 jz_10 (by omega) (by omega)).trans (by omega)
                            refine lv_aload_n hx hb dX7_number_41 rfl (lv_at hl 2 rfl) ?_
                            refine va_get (D := D) hx hb hts inlX7 hown hK hP 9 (jc_9 cI cL ad σ63 τ) rfl 3 (of_decide_eq_true rfl) (hts _ kw_3_20) (fun _ h9 => h9) rfl dX7_number_42 ?_
                            refine lv_aload_n hx hb dX7_number_45 rfl (lv_at hl 2 rfl) ?_
                            refine lv_dup hx hb dX7_number_46 rfl ?_
                            refine va_get (D := D) hx hb hts inlX7 hown hK hP 9 (jc_9 cI cL ad σ63 τ) rfl 1 (of_decide_eq_true rfl) (hts _ kw_13_17) (fun _ h9 => h9) rfl dX7_number_47 ?_
                            have m86 : σ63 9 1 = x62 := (jsp eσ63)
                            refine jtopr m86 ?_
                            refine lv_dup_x1 hx hb dX7_number_50 rfl rfl ?_
                            refine lv_iconst (v := 1) hx hb dX7_number_51 (of_decide_eq_true rfl) ?_
                            refine lv_iadd hx hb dX7_number_52 ?_
                            refine lv_topi (fun x87 ex87 => ?_)
                            exact by
                             have tx87 : x87.toInt = (σ 9 1).toInt + 3 := (jadd ex87 tx62 jz_1 (by omega) (by omega)).trans (by omega)
                             refine jput (ty := .int) hx hb hts inlX7 tyX7 tyX7_ok nmX7 hown hK hP hJ hA hS (jc_9 cI cL ad σ63 τ) rfl (k := 1) (of_decide_eq_true rfl) (Nat.le_of_ble_eq_true rfl) (jp_9_1 cI cL ad σ63 τ x87) (hts _ kw_13_17) (fun _ h9 => h9) rfl (by decide +kernel) rfl rfl dX7_number_53 (fun σ88 H locs eσ88 hP hS => ?_)
                             refine jald hx hb hK hP (jc_10 cI cL ad σ88 τ) (jin tx62 (by omega) (by omega)) dX7_number_56 ?_
                             refine jtopr (y := (σ 10 x62.toNatClampNeg)) (by rw [jnp 10 eσ88 (of_decide_eq_true rfl), jnp 10 eσ63 (of_decide_eq_true rfl), jnp 10 eσ39 (of_decide_eq_true rfl)]) ?_
                             have g89 := jrg (rfl : (σ 10 x62.toNatClampNeg).toInt = (σ 10 x62.toNatClampNeg).toInt)
                             refine lv_iadd hx hb dX7_number_57 ?_
                             refine lv_topi (fun x90 ex90 => ?_)
                             have tx90 : x90.toInt = 100 * (σ 10 (σ 9 1).toNatClampNeg).toInt + 10 * (σ 10 x38.toNatClampNeg).toInt + (σ 10 x62.toNatClampNeg).toInt - 5280 := (jadd ex90 tx85 rfl (by omega) (by omega)).trans (by omega)
                             refine lv_bipush (v := 48) hx hb dX7_number_58 (of_decide_eq_true rfl) ?_
                             exact by
                              refine lv_isub hx hb dX7_number_60 ?_
                              refine lv_topi (fun x91 ex91 => ?_)
                              have tx91 : x91.toInt = 100 * (σ 10 (σ 9 1).toNatClampNeg).toInt + 10 * (σ 10 x38.toNatClampNeg).toInt + (σ 10 x62.toNatClampNeg).toInt - 5328 := (jsub ex91 tx90 jz_48 (by omega) (by omega)).trans (by omega)
                              refine lv_istore_n (lv' := [(2, .int x91), (3, .int 2), (0, .ref (ad 9)), (1, .int 4)]) hx hb dX7_number_61 rfl hl (of_decide_eq_true rfl) rfl (fun ls hl => ?_)
                              refine lv_iinc (v := 3) (lv' := [(3, .int 3), (2, .int x91), (0, .ref (ad 9)), (1, .int 4)]) hx hb dX7_number_62 hl (k := 1) rfl (of_decide_eq_true rfl) (of_decide_eq_true rfl) rfl (fun ls hl => ?_)
                              refine lv_goto (tgt := 22) hx hb dX7_number_65 (of_decide_eq_true rfl) ?_
                              refine lv_iload_n hx hb dX7_number_22 rfl (lv_at hl 0 rfl) ?_
                              refine lv_iload_n hx hb dX7_number_23 rfl (lv_at hl 3 rfl) ?_
                              refine lv_icmp_ge (tgt := 68) hx hb dX7_number_24 (of_decide_eq_true rfl) (fun c => absurd c (of_decide_eq_true rfl)) (fun _ => ?_)
                              exact by
                               refine lv_aload_n hx hb dX7_number_27 rfl (lv_at hl 2 rfl) ?_
                               have I92 : jI9 σ88 := jI9_fr (jkp 0 eσ88 (of_decide_eq_true rfl)) (jnp 10 eσ88 (of_decide_eq_true rfl)) (jnp 11 eσ88 (of_decide_eq_true rfl)) I67
                               have z93 : (σ88 9 1).toInt = (σ 9 1).toInt + 3 := ((congrArg Int32.toInt (show σ88 9 1 = x87 from (jsp eσ88))).trans tx87)
                               have z94 : (σ88 9 0).toInt = (σ 9 0).toInt := (congrArg Int32.toInt (show σ88 9 0 = (σ 9 0) from ((jkp 0 eσ88 (of_decide_eq_true rfl)).trans ((jkp 0 eσ63 (of_decide_eq_true rfl)).trans (jkp 0 eσ39 (of_decide_eq_true rfl))))))
                               refine jcallV (As := []) (rest := []) ⟨hx, hb, hml, hown, hts⟩ hK hP hA hS hZ (c_X7_sign_9 l D cI cL ad zz hJ σ88 τ I92) cw_RX7_35 (jc_9 cI cL ad σ88 τ) rfl ⟨Nat.le_of_ble_eq_true rfl, Nat.le_of_ble_eq_true rfl⟩ rfl rfl rfl hl.1 rfl (Nat.le_of_ble_eq_true rfl) dX7_number_28 ⟨Nat.zero_le _, Nat.zero_le _⟩ (fun r96 σ95 τ95 H locs h95 hP hS => ?_)
                               obtain ⟨⟨rfl, rfl⟩, h95⟩ := h95
                               rcases h95 with h97 | h98
                               · obtain ⟨q102, k99, k100, k101⟩ := h97
                                 have q103 : r96 = (σ 10 x87.toNatClampNeg) := q102.trans (by rw [(show σ88 9 1 = x87 from (jsp eσ88)), jnp 10 eσ88 (of_decide_eq_true rfl), jnp 10 eσ63 (of_decide_eq_true rfl), jnp 10 eσ39 (of_decide_eq_true rfl)])
                                 exact by
                                  have q103e : (σ88 10 (σ88 9 1).toNatClampNeg).toInt = (σ 10 x87.toNatClampNeg).toInt := by rw [← q102, ← q103]
                                  have q103 := q103.symm
                                  subst q103
                                  try rw [show (σ88 9 1).toInt = (σ 9 1).toInt + 3 from by omega] at k101
                                  try rw [show (σ88 9 0).toInt = (σ 9 0).toInt from by omega] at k101
                                  try rw [show σ88 10 = σ 10 from ((jnp 10 eσ88 (of_decide_eq_true rfl)).trans ((jnp 10 eσ63 (of_decide_eq_true rfl)).trans (jnp 10 eσ39 (of_decide_eq_true rfl))))] at k101
                                  refine jcallS (As := [.int (σ 10 x87.toNatClampNeg)]) (rest := []) ⟨hx, hb, hml, hown, hts⟩ hK hP hA hS hZ (c_X7_isDigit l D cI cL ad zz hJ σ88 τ (σ 10 x87.toNatClampNeg) ((σ 10 x87.toNatClampNeg).toInt) rfl) cw_RX7_39 ⟨Nat.le_of_ble_eq_true rfl, Nat.le_of_ble_eq_true rfl⟩ rfl rfl rfl hl.1 rfl (Nat.le_of_ble_eq_true rfl) dX7_number_31 ⟨Nat.zero_le _, Nat.zero_le _⟩ (fun r105 σ104 τ104 H locs h104 hP hS => ?_)
                                  obtain ⟨⟨rfl, rfl⟩, h104⟩ := h104
                                  rcases h104 with h106 | h107
                                  · obtain ⟨q109, k108⟩ := h106
                                    have q109 := q109.symm
                                    subst q109
                                    refine lv_if_eq (tgt := 68) hx hb dX7_number_34 (of_decide_eq_true rfl) (fun c => absurd c (of_decide_eq_true rfl)) (fun _ => ?_)
                                    refine lv_iload_n hx hb dX7_number_37 rfl (lv_at hl 1 rfl) ?_
                                    refine lv_bipush (v := 10) hx hb dX7_number_38 (of_decide_eq_true rfl) ?_
                                    refine lv_imul hx hb dX7_number_40 ?_
                                    refine lv_topi (fun x110 ex110 => ?_)
                                    exact by
                                     have tx110 : x110.toInt = 1000 * (σ 10 (σ 9 1).toNatClampNeg).toInt + 100 * (σ 10 x38.toNatClampNeg).toInt + 10 * (σ 10 x62.toNatClampNeg).toInt - 53280 := (jmul ex110 tx91 jz_10 (by omega) (by omega)).trans (by omega)
                                     refine lv_aload_n hx hb dX7_number_41 rfl (lv_at hl 2 rfl) ?_
                                     refine va_get (D := D) hx hb hts inlX7 hown hK hP 9 (jc_9 cI cL ad σ88 τ) rfl 3 (of_decide_eq_true rfl) (hts _ kw_3_20) (fun _ h9 => h9) rfl dX7_number_42 ?_
                                     refine lv_aload_n hx hb dX7_number_45 rfl (lv_at hl 2 rfl) ?_
                                     refine lv_dup hx hb dX7_number_46 rfl ?_
                                     refine va_get (D := D) hx hb hts inlX7 hown hK hP 9 (jc_9 cI cL ad σ88 τ) rfl 1 (of_decide_eq_true rfl) (hts _ kw_13_17) (fun _ h9 => h9) rfl dX7_number_47 ?_
                                     have m111 : σ88 9 1 = x87 := (jsp eσ88)
                                     refine jtopr m111 ?_
                                     refine lv_dup_x1 hx hb dX7_number_50 rfl rfl ?_
                                     refine lv_iconst (v := 1) hx hb dX7_number_51 (of_decide_eq_true rfl) ?_
                                     refine lv_iadd hx hb dX7_number_52 ?_
                                     refine lv_topi (fun x112 ex112 => ?_)
                                     exact by
                                      have tx112 : x112.toInt = (σ 9 1).toInt + 4 := (jadd ex112 tx87 jz_1 (by omega) (by omega)).trans (by omega)
                                      refine jput (ty := .int) hx hb hts inlX7 tyX7 tyX7_ok nmX7 hown hK hP hJ hA hS (jc_9 cI cL ad σ88 τ) rfl (k := 1) (of_decide_eq_true rfl) (Nat.le_of_ble_eq_true rfl) (jp_9_1 cI cL ad σ88 τ x112) (hts _ kw_13_17) (fun _ h9 => h9) rfl (by decide +kernel) rfl rfl dX7_number_53 (fun σ113 H locs eσ113 hP hS => ?_)
                                      refine jald hx hb hK hP (jc_10 cI cL ad σ113 τ) (jin tx87 (by omega) (by omega)) dX7_number_56 ?_
                                      refine jtopr (y := (σ 10 x87.toNatClampNeg)) (by rw [jnp 10 eσ113 (of_decide_eq_true rfl), jnp 10 eσ88 (of_decide_eq_true rfl), jnp 10 eσ63 (of_decide_eq_true rfl), jnp 10 eσ39 (of_decide_eq_true rfl)]) ?_
                                      have g114 := jrg (rfl : (σ 10 x87.toNatClampNeg).toInt = (σ 10 x87.toNatClampNeg).toInt)
                                      refine lv_iadd hx hb dX7_number_57 ?_
                                      refine lv_topi (fun x115 ex115 => ?_)
                                      have tx115 : x115.toInt = 1000 * (σ 10 (σ 9 1).toNatClampNeg).toInt + 100 * (σ 10 x38.toNatClampNeg).toInt + 10 * (σ 10 x62.toNatClampNeg).toInt + (σ 10 x87.toNatClampNeg).toInt - 53280 := (jadd ex115 tx110 rfl (by omega) (by omega)).trans (by omega)
                                      refine lv_bipush (v := 48) hx hb dX7_number_58 (of_decide_eq_true rfl) ?_
                                      exact by
                                       refine lv_isub hx hb dX7_number_60 ?_
                                       refine lv_topi (fun x116 ex116 => ?_)
                                       have tx116 : x116.toInt = 1000 * (σ 10 (σ 9 1).toNatClampNeg).toInt + 100 * (σ 10 x38.toNatClampNeg).toInt + 10 * (σ 10 x62.toNatClampNeg).toInt + (σ 10 x87.toNatClampNeg).toInt - 53328 := (jsub ex116 tx115 jz_48 (by omega) (by omega)).trans (by omega)
                                       refine lv_istore_n (lv' := [(2, .int x116), (3, .int 3), (0, .ref (ad 9)), (1, .int 4)]) hx hb dX7_number_61 rfl hl (of_decide_eq_true rfl) rfl (fun ls hl => ?_)
                                       refine lv_iinc (v := 4) (lv' := [(3, .int 4), (2, .int x116), (0, .ref (ad 9)), (1, .int 4)]) hx hb dX7_number_62 hl (k := 1) rfl (of_decide_eq_true rfl) (of_decide_eq_true rfl) rfl (fun ls hl => ?_)
                                       refine lv_goto (tgt := 22) hx hb dX7_number_65 (of_decide_eq_true rfl) ?_
                                       refine lv_iload_n hx hb dX7_number_22 rfl (lv_at hl 0 rfl) ?_
                                       refine lv_iload_n hx hb dX7_number_23 rfl (lv_at hl 3 rfl) ?_
                                       refine lv_icmp_ge (tgt := 68) hx hb dX7_number_24 (of_decide_eq_true rfl) (fun _ => ?_) (fun c => absurd (of_decide_eq_true rfl) c)
                                       exact by
                                        refine lv_iload_n hx hb dX7_number_68 rfl (lv_at hl 1 rfl) ?_
                                        have I117 : jI9 σ113 := jI9_fr (jkp 0 eσ113 (of_decide_eq_true rfl)) (jnp 10 eσ113 (of_decide_eq_true rfl)) (jnp 11 eσ113 (of_decide_eq_true rfl)) I92
                                        have z118 : (σ113 9 1).toInt = (σ 9 1).toInt + 4 := ((congrArg Int32.toInt (show σ113 9 1 = x112 from (jsp eσ113))).trans tx112)
                                        have z119 : (σ113 9 0).toInt = (σ 9 0).toInt := (congrArg Int32.toInt (show σ113 9 0 = (σ 9 0) from ((jkp 0 eσ113 (of_decide_eq_true rfl)).trans ((jkp 0 eσ88 (of_decide_eq_true rfl)).trans ((jkp 0 eσ63 (of_decide_eq_true rfl)).trans (jkp 0 eσ39 (of_decide_eq_true rfl)))))))
                                        have I120 : jI91 σ113 := ⟨(by omega), (by omega)⟩
                                        have I121 : jI92 σ113 := jI92_fr ((jkp 2 eσ113 (of_decide_eq_true rfl)).trans ((jkp 2 eσ88 (of_decide_eq_true rfl)).trans ((jkp 2 eσ63 (of_decide_eq_true rfl)).trans (jkp 2 eσ39 (of_decide_eq_true rfl))))) hI92
                                        have z122 : (σ113 9 2).toInt = (σ 9 2).toInt := (congrArg Int32.toInt (show σ113 9 2 = (σ 9 2) from ((jkp 2 eσ113 (of_decide_eq_true rfl)).trans ((jkp 2 eσ88 (of_decide_eq_true rfl)).trans ((jkp 2 eσ63 (of_decide_eq_true rfl)).trans (jkp 2 eσ39 (of_decide_eq_true rfl)))))))
                                        exact hret x116 σ113 τ _ _ _ _ rfl ⟨rfl, (fun i hi => ((jnp i eσ113 (imp_37 i hi)).trans ((jnp i eσ88 (imp_37 i hi)).trans ((jnp i eσ63 (imp_37 i hi)).trans (jnp i eσ39 (imp_37 i hi)))))), (fun i hi => ((jkp i eσ113 (imp_39 i hi)).trans ((jkp i eσ88 (imp_39 i hi)).trans ((jkp i eσ63 (imp_39 i hi)).trans (jkp i eσ39 (imp_39 i hi)))))), I117, I120, I121, (fun hd => by
                                          have h9 := tx116; unfold jNq jNv
                                          exact by
                                           refine ⟨?_, ?_, ?_⟩
                                           · first | ((repeat (first | rw [if_pos (by omega)] | rw [if_neg (by omega)])) <;> omega) | ((repeat' split) <;> omega)
                                           · first | ((repeat (first | rw [if_pos (by omega)] | rw [if_neg (by omega)])) <;> omega) | ((repeat' split) <;> omega)
                                           · omega), (by omega), ⟨trivial, (by have h9 := tx116; omega)⟩⟩ hP hS dX7_number_69
                                  · obtain ⟨q124, k123⟩ := h107
                                    have q124 := q124.symm
                                    subst q124
                                    refine lv_if_eq (tgt := 68) hx hb dX7_number_34 (of_decide_eq_true rfl) (fun _ => ?_) (fun c => absurd (of_decide_eq_true rfl) c)
                                    refine lv_iload_n hx hb dX7_number_68 rfl (lv_at hl 1 rfl) ?_
                                    exact by
                                     have I125 : jI91 σ88 := ⟨(by omega), (by omega)⟩
                                     have I126 : jI92 σ88 := jI92_fr ((jkp 2 eσ88 (of_decide_eq_true rfl)).trans ((jkp 2 eσ63 (of_decide_eq_true rfl)).trans (jkp 2 eσ39 (of_decide_eq_true rfl)))) hI92
                                     have z127 : (σ88 9 2).toInt = (σ 9 2).toInt := (congrArg Int32.toInt (show σ88 9 2 = (σ 9 2) from ((jkp 2 eσ88 (of_decide_eq_true rfl)).trans ((jkp 2 eσ63 (of_decide_eq_true rfl)).trans (jkp 2 eσ39 (of_decide_eq_true rfl))))))
                                     exact hret x91 σ88 τ _ _ _ _ rfl ⟨rfl, (fun i hi => ((jnp i eσ88 (imp_37 i hi)).trans ((jnp i eσ63 (imp_37 i hi)).trans (jnp i eσ39 (imp_37 i hi))))), (fun i hi => ((jkp i eσ88 (imp_39 i hi)).trans ((jkp i eσ63 (imp_39 i hi)).trans (jkp i eσ39 (imp_39 i hi))))), I92, I125, I126, (fun hd => by
                                       have h9 := tx91; unfold jNq jNv
                                       refine ⟨?_, ?_, ?_⟩
                                       · first | ((repeat (first | rw [if_pos (by omega)] | rw [if_neg (by omega)])) <;> omega) | ((repeat' split) <;> omega)
                                       · first | ((repeat (first | rw [if_pos (by omega)] | rw [if_neg (by omega)])) <;> omega) | ((repeat' split) <;> omega)
                                       · omega), (by omega), ⟨trivial, (by have h9 := tx91; omega)⟩⟩ hP hS dX7_number_69
                               · exact by
                                  obtain ⟨q130, k128, k129⟩ := h98
                                  have q130 := q130.symm
                                  subst q130
                                  try rw [show (σ88 9 1).toInt = (σ 9 1).toInt + 3 from by omega] at k129
                                  try rw [show (σ88 9 0).toInt = (σ 9 0).toInt from by omega] at k129
                                  try rw [show σ88 10 = σ 10 from ((jnp 10 eσ88 (of_decide_eq_true rfl)).trans ((jnp 10 eσ63 (of_decide_eq_true rfl)).trans (jnp 10 eσ39 (of_decide_eq_true rfl))))] at k129
                                  refine jcallS (As := [.int (-1)]) (rest := []) ⟨hx, hb, hml, hown, hts⟩ hK hP hA hS hZ (c_X7_isDigit l D cI cL ad zz hJ σ88 τ (-1) ((-1)) jz_m1) cw_RX7_39 ⟨Nat.le_of_ble_eq_true rfl, Nat.le_of_ble_eq_true rfl⟩ rfl rfl rfl hl.1 rfl (Nat.le_of_ble_eq_true rfl) dX7_number_31 ⟨Nat.zero_le _, Nat.zero_le _⟩ (fun r132 σ131 τ131 H locs h131 hP hS => ?_)
                                  obtain ⟨⟨rfl, rfl⟩, h131⟩ := h131
                                  rcases h131 with h133 | h134
                                  · obtain ⟨q136, k135⟩ := h133
                                    exact absurd (by omega : False) id
                                  · obtain ⟨q138, k137⟩ := h134
                                    have q138 := q138.symm
                                    subst q138
                                    refine lv_if_eq (tgt := 68) hx hb dX7_number_34 (of_decide_eq_true rfl) (fun _ => ?_) (fun c => absurd (of_decide_eq_true rfl) c)
                                    refine lv_iload_n hx hb dX7_number_68 rfl (lv_at hl 1 rfl) ?_
                                    exact by
                                     have I139 : jI91 σ88 := ⟨(by omega), (by omega)⟩
                                     have I140 : jI92 σ88 := jI92_fr ((jkp 2 eσ88 (of_decide_eq_true rfl)).trans ((jkp 2 eσ63 (of_decide_eq_true rfl)).trans (jkp 2 eσ39 (of_decide_eq_true rfl)))) hI92
                                     have z141 : (σ88 9 2).toInt = (σ 9 2).toInt := (congrArg Int32.toInt (show σ88 9 2 = (σ 9 2) from ((jkp 2 eσ88 (of_decide_eq_true rfl)).trans ((jkp 2 eσ63 (of_decide_eq_true rfl)).trans (jkp 2 eσ39 (of_decide_eq_true rfl))))))
                                     exact hret x91 σ88 τ _ _ _ _ rfl ⟨rfl, (fun i hi => ((jnp i eσ88 (imp_37 i hi)).trans ((jnp i eσ63 (imp_37 i hi)).trans (jnp i eσ39 (imp_37 i hi))))), (fun i hi => ((jkp i eσ88 (imp_39 i hi)).trans ((jkp i eσ63 (imp_39 i hi)).trans (jkp i eσ39 (imp_39 i hi))))), I92, I139, I140, (fun hd => by
                                       have h9 := tx91; unfold jNq jNv
                                       refine ⟨?_, ?_, ?_⟩
                                       · first | ((repeat (first | rw [if_pos (by omega)] | rw [if_neg (by omega)])) <;> omega) | ((repeat' split) <;> omega)
                                       · first | ((repeat (first | rw [if_pos (by omega)] | rw [if_neg (by omega)])) <;> omega) | ((repeat' split) <;> omega)
                                       · omega), (by omega), ⟨trivial, (by have h9 := tx91; omega)⟩⟩ hP hS dX7_number_69
                         · exact by
                            obtain ⟨q143, k142⟩ := h82
                            have q143 := q143.symm
                            subst q143
                            refine lv_if_eq (tgt := 68) hx hb dX7_number_34 (of_decide_eq_true rfl) (fun _ => ?_) (fun c => absurd (of_decide_eq_true rfl) c)
                            refine lv_iload_n hx hb dX7_number_68 rfl (lv_at hl 1 rfl) ?_
                            have I144 : jI91 σ63 := ⟨(by omega), (by omega)⟩
                            have I145 : jI92 σ63 := jI92_fr ((jkp 2 eσ63 (of_decide_eq_true rfl)).trans (jkp 2 eσ39 (of_decide_eq_true rfl))) hI92
                            have z146 : (σ63 9 2).toInt = (σ 9 2).toInt := (congrArg Int32.toInt (show σ63 9 2 = (σ 9 2) from ((jkp 2 eσ63 (of_decide_eq_true rfl)).trans (jkp 2 eσ39 (of_decide_eq_true rfl)))))
                            exact hret x66 σ63 τ _ _ _ _ rfl ⟨rfl, (fun i hi => ((jnp i eσ63 (imp_37 i hi)).trans (jnp i eσ39 (imp_37 i hi)))), (fun i hi => ((jkp i eσ63 (imp_39 i hi)).trans (jkp i eσ39 (imp_39 i hi)))), I67, I144, I145, (fun hd => by
                              exact by
                               have h9 := tx66; unfold jNq jNv
                               refine ⟨?_, ?_, ?_⟩
                               · first | ((repeat (first | rw [if_pos (by omega)] | rw [if_neg (by omega)])) <;> omega) | ((repeat' split) <;> omega)
                               · first | ((repeat (first | rw [if_pos (by omega)] | rw [if_neg (by omega)])) <;> omega) | ((repeat' split) <;> omega)
                               · omega), (by omega), ⟨trivial, (by have h9 := tx66; omega)⟩⟩ hP hS dX7_number_69
                      · obtain ⟨q149, k147, k148⟩ := h73
                        have q149 := q149.symm
                        subst q149
                        try rw [show (σ63 9 1).toInt = (σ 9 1).toInt + 2 from by omega] at k148
                        try rw [show (σ63 9 0).toInt = (σ 9 0).toInt from by omega] at k148
                        try rw [show σ63 10 = σ 10 from ((jnp 10 eσ63 (of_decide_eq_true rfl)).trans (jnp 10 eσ39 (of_decide_eq_true rfl)))] at k148
                        exact by
                         refine jcallS (As := [.int (-1)]) (rest := []) ⟨hx, hb, hml, hown, hts⟩ hK hP hA hS hZ (c_X7_isDigit l D cI cL ad zz hJ σ63 τ (-1) ((-1)) jz_m1) cw_RX7_39 ⟨Nat.le_of_ble_eq_true rfl, Nat.le_of_ble_eq_true rfl⟩ rfl rfl rfl hl.1 rfl (Nat.le_of_ble_eq_true rfl) dX7_number_31 ⟨Nat.zero_le _, Nat.zero_le _⟩ (fun r151 σ150 τ150 H locs h150 hP hS => ?_)
                         obtain ⟨⟨rfl, rfl⟩, h150⟩ := h150
                         rcases h150 with h152 | h153
                         · obtain ⟨q155, k154⟩ := h152
                           exact absurd (by omega : False) id
                         · obtain ⟨q157, k156⟩ := h153
                           have q157 := q157.symm
                           subst q157
                           refine lv_if_eq (tgt := 68) hx hb dX7_number_34 (of_decide_eq_true rfl) (fun _ => ?_) (fun c => absurd (of_decide_eq_true rfl) c)
                           refine lv_iload_n hx hb dX7_number_68 rfl (lv_at hl 1 rfl) ?_
                           exact by
                            have I158 : jI91 σ63 := ⟨(by omega), (by omega)⟩
                            have I159 : jI92 σ63 := jI92_fr ((jkp 2 eσ63 (of_decide_eq_true rfl)).trans (jkp 2 eσ39 (of_decide_eq_true rfl))) hI92
                            have z160 : (σ63 9 2).toInt = (σ 9 2).toInt := (congrArg Int32.toInt (show σ63 9 2 = (σ 9 2) from ((jkp 2 eσ63 (of_decide_eq_true rfl)).trans (jkp 2 eσ39 (of_decide_eq_true rfl)))))
                            exact hret x66 σ63 τ _ _ _ _ rfl ⟨rfl, (fun i hi => ((jnp i eσ63 (imp_37 i hi)).trans (jnp i eσ39 (imp_37 i hi)))), (fun i hi => ((jkp i eσ63 (imp_39 i hi)).trans (jkp i eσ39 (imp_39 i hi)))), I67, I158, I159, (fun hd => by
                              have h9 := tx66; unfold jNq jNv
                              refine ⟨?_, ?_, ?_⟩
                              · first | ((repeat (first | rw [if_pos (by omega)] | rw [if_neg (by omega)])) <;> omega) | ((repeat' split) <;> omega)
                              · first | ((repeat (first | rw [if_pos (by omega)] | rw [if_neg (by omega)])) <;> omega) | ((repeat' split) <;> omega)
                              · omega), (by omega), ⟨trivial, (by have h9 := tx66; omega)⟩⟩ hP hS dX7_number_69
                · exact by
                   obtain ⟨q162, k161⟩ := h57
                   have q162 := q162.symm
                   subst q162
                   refine lv_if_eq (tgt := 68) hx hb dX7_number_34 (of_decide_eq_true rfl) (fun _ => ?_) (fun c => absurd (of_decide_eq_true rfl) c)
                   refine lv_iload_n hx hb dX7_number_68 rfl (lv_at hl 1 rfl) ?_
                   have I163 : jI91 σ39 := ⟨(by omega), (by omega)⟩
                   have I164 : jI92 σ39 := jI92_fr (jkp 2 eσ39 (of_decide_eq_true rfl)) hI92
                   have z165 : (σ39 9 2).toInt = (σ 9 2).toInt := (congrArg Int32.toInt (show σ39 9 2 = (σ 9 2) from (jkp 2 eσ39 (of_decide_eq_true rfl))))
                   exact hret x41 σ39 τ _ _ _ _ rfl ⟨rfl, (fun i hi => (jnp i eσ39 (imp_37 i hi))), (fun i hi => (jkp i eσ39 (imp_39 i hi))), I42, I163, I164, (fun hd => by
                     exact by
                      have h9 := tx41; unfold jNq jNv
                      refine ⟨?_, ?_, ?_⟩
                      · first | ((repeat (first | rw [if_pos (by omega)] | rw [if_neg (by omega)])) <;> omega) | ((repeat' split) <;> omega)
                      · first | ((repeat (first | rw [if_pos (by omega)] | rw [if_neg (by omega)])) <;> omega) | ((repeat' split) <;> omega)
                      · omega), (by omega), ⟨trivial, (by have h9 := tx41; omega)⟩⟩ hP hS dX7_number_69
             · obtain ⟨q168, k166, k167⟩ := h48
               have q168 := q168.symm
               subst q168
               try rw [show (σ39 9 1).toInt = (σ 9 1).toInt + 1 from by omega] at k167
               try rw [show (σ39 9 0).toInt = (σ 9 0).toInt from by omega] at k167
               try rw [show σ39 10 = σ 10 from (jnp 10 eσ39 (of_decide_eq_true rfl))] at k167
               exact by
                refine jcallS (As := [.int (-1)]) (rest := []) ⟨hx, hb, hml, hown, hts⟩ hK hP hA hS hZ (c_X7_isDigit l D cI cL ad zz hJ σ39 τ (-1) ((-1)) jz_m1) cw_RX7_39 ⟨Nat.le_of_ble_eq_true rfl, Nat.le_of_ble_eq_true rfl⟩ rfl rfl rfl hl.1 rfl (Nat.le_of_ble_eq_true rfl) dX7_number_31 ⟨Nat.zero_le _, Nat.zero_le _⟩ (fun r170 σ169 τ169 H locs h169 hP hS => ?_)
                obtain ⟨⟨rfl, rfl⟩, h169⟩ := h169
                rcases h169 with h171 | h172
                · obtain ⟨q174, k173⟩ := h171
                  exact absurd (by omega : False) id
                · obtain ⟨q176, k175⟩ := h172
                  have q176 := q176.symm
                  subst q176
                  refine lv_if_eq (tgt := 68) hx hb dX7_number_34 (of_decide_eq_true rfl) (fun _ => ?_) (fun c => absurd (of_decide_eq_true rfl) c)
                  refine lv_iload_n hx hb dX7_number_68 rfl (lv_at hl 1 rfl) ?_
                  exact by
                   have I177 : jI91 σ39 := ⟨(by omega), (by omega)⟩
                   have I178 : jI92 σ39 := jI92_fr (jkp 2 eσ39 (of_decide_eq_true rfl)) hI92
                   have z179 : (σ39 9 2).toInt = (σ 9 2).toInt := (congrArg Int32.toInt (show σ39 9 2 = (σ 9 2) from (jkp 2 eσ39 (of_decide_eq_true rfl))))
                   exact hret x41 σ39 τ _ _ _ _ rfl ⟨rfl, (fun i hi => (jnp i eσ39 (imp_37 i hi))), (fun i hi => (jkp i eσ39 (imp_39 i hi))), I42, I177, I178, (fun hd => by
                     have h9 := tx41; unfold jNq jNv
                     refine ⟨?_, ?_, ?_⟩
                     · first | ((repeat (first | rw [if_pos (by omega)] | rw [if_neg (by omega)])) <;> omega) | ((repeat' split) <;> omega)
                     · first | ((repeat (first | rw [if_pos (by omega)] | rw [if_neg (by omega)])) <;> omega) | ((repeat' split) <;> omega)
                     · omega), (by omega), ⟨trivial, (by have h9 := tx41; omega)⟩⟩ hP hS dX7_number_69
        · exact by
           obtain ⟨q181, k180⟩ := h34
           exact absurd (by omega : False) id
      · obtain ⟨q184, k182, k183⟩ := h25
        exact absurd (by omega : False) id
    · obtain ⟨q186, k185⟩ := h19
      have q186 := q186.symm
      subst q186
      refine lv_if_ne (tgt := 18) hx hb dX7_number_7 (of_decide_eq_true rfl) (fun c => absurd (of_decide_eq_true rfl) c) (fun _ => ?_)
      refine lv_aload_n hx hb dX7_number_10 rfl (lv_at hl 0 rfl) ?_
      refine lv_aload_n hx hb dX7_number_11 rfl (lv_at hl 0 rfl) ?_
      refine va_get (D := D) hx hb hts inlX7 hown hK hP 9 (jc_9 cI cL ad σ τ) rfl 1 (of_decide_eq_true rfl) (hts _ kw_13_17) (fun _ h9 => h9) rfl dX7_number_12 ?_
      exact by
       refine jcallVv (As := [.int (σ 9 1)]) (rest := []) ⟨hx, hb, hml, hown, hts⟩ hK hP hA hS hZ (c_X7_fail_9 l D cI cL ad zz hJ σ τ (σ 9 1) ((σ 9 1).toInt) rfl hI92 (by omega)) cw_RX7_43 (jc_9 cI cL ad σ τ) rfl ⟨Nat.le_of_ble_eq_true rfl, Nat.le_of_ble_eq_true rfl⟩ rfl rfl rfl hl.1 rfl (Nat.le_of_ble_eq_true rfl) dX7_number_15 ⟨Nat.zero_le _, Nat.zero_le _⟩ (fun σ187 τ187 H locs h187 hP hS => ?_)
       obtain ⟨rfl, f189, f190, h187⟩ := h187
       obtain ⟨k192, k193, h187⟩ := h187
       refine lv_iconst (v := 0) hx hb dX7_number_18 (of_decide_eq_true rfl) ?_
       refine lv_istore_n (lv' := [(2, .int 0), (0, .ref (ad 9)), (1, .int 4)]) hx hb dX7_number_19 rfl hl (of_decide_eq_true rfl) rfl (fun ls hl => ?_)
       refine lv_iconst (v := 0) hx hb dX7_number_20 (of_decide_eq_true rfl) ?_
       refine lv_istore_n (lv' := [(3, .int 0), (2, .int 0), (0, .ref (ad 9)), (1, .int 4)]) hx hb dX7_number_21 rfl hl (of_decide_eq_true rfl) rfl (fun ls hl => ?_)
       refine lv_iload_n hx hb dX7_number_22 rfl (lv_at hl 0 rfl) ?_
       refine lv_iload_n hx hb dX7_number_23 rfl (lv_at hl 3 rfl) ?_
       refine lv_icmp_ge (tgt := 68) hx hb dX7_number_24 (of_decide_eq_true rfl) (fun c => absurd c (of_decide_eq_true rfl)) (fun _ => ?_)
       refine lv_aload_n hx hb dX7_number_27 rfl (lv_at hl 2 rfl) ?_
       have I194 : jI9 σ187 := jI9_fr (f190 0 (of_decide_eq_true rfl)) (f189 10 (of_decide_eq_true rfl)) (f189 11 (of_decide_eq_true rfl)) hI9
       have z195 : (σ187 9 1).toInt = (σ 9 1).toInt := (congrArg Int32.toInt (show σ187 9 1 = (σ 9 1) from (f190 1 (of_decide_eq_true rfl))))
       have z196 : (σ187 9 0).toInt = (σ 9 0).toInt := (congrArg Int32.toInt (show σ187 9 0 = (σ 9 0) from (f190 0 (of_decide_eq_true rfl))))
       refine jcallV (As := []) (rest := []) ⟨hx, hb, hml, hown, hts⟩ hK hP hA hS hZ (c_X7_sign_9 l D cI cL ad zz hJ σ187 τ I194) cw_RX7_35 (jc_9 cI cL ad σ187 τ) rfl ⟨Nat.le_of_ble_eq_true rfl, Nat.le_of_ble_eq_true rfl⟩ rfl rfl rfl hl.1 rfl (Nat.le_of_ble_eq_true rfl) dX7_number_28 ⟨Nat.zero_le _, Nat.zero_le _⟩ (fun r198 σ197 τ197 H locs h197 hP hS => ?_)
       obtain ⟨⟨rfl, rfl⟩, h197⟩ := h197
       rcases h197 with h199 | h200
       · obtain ⟨q204, k201, k202, k203⟩ := h199
         exact by
          have q205 : r198 = (σ 10 (σ 9 1).toNatClampNeg) := q204.trans (by rw [(show σ187 9 1 = (σ 9 1) from (f190 1 (of_decide_eq_true rfl))), f189 10 (of_decide_eq_true rfl)])
          have q205e : (σ187 10 (σ187 9 1).toNatClampNeg).toInt = (σ 10 (σ 9 1).toNatClampNeg).toInt := by rw [← q204, ← q205]
          have q205 := q205.symm
          subst q205
          try rw [show (σ187 9 1).toInt = (σ 9 1).toInt from by omega] at k203
          try rw [show (σ187 9 0).toInt = (σ 9 0).toInt from by omega] at k203
          try rw [show σ187 10 = σ 10 from (f189 10 (of_decide_eq_true rfl))] at k203
          refine jcallS (As := [.int (σ 10 (σ 9 1).toNatClampNeg)]) (rest := []) ⟨hx, hb, hml, hown, hts⟩ hK hP hA hS hZ (c_X7_isDigit l D cI cL ad zz hJ σ187 τ (σ 10 (σ 9 1).toNatClampNeg) ((σ 10 (σ 9 1).toNatClampNeg).toInt) rfl) cw_RX7_39 ⟨Nat.le_of_ble_eq_true rfl, Nat.le_of_ble_eq_true rfl⟩ rfl rfl rfl hl.1 rfl (Nat.le_of_ble_eq_true rfl) dX7_number_31 ⟨Nat.zero_le _, Nat.zero_le _⟩ (fun r207 σ206 τ206 H locs h206 hP hS => ?_)
          obtain ⟨⟨rfl, rfl⟩, h206⟩ := h206
          rcases h206 with h208 | h209
          · obtain ⟨q211, k210⟩ := h208
            exact absurd (by omega : False) id
          · obtain ⟨q213, k212⟩ := h209
            have q213 := q213.symm
            subst q213
            refine lv_if_eq (tgt := 68) hx hb dX7_number_34 (of_decide_eq_true rfl) (fun _ => ?_) (fun c => absurd (of_decide_eq_true rfl) c)
            refine lv_iload_n hx hb dX7_number_68 rfl (lv_at hl 1 rfl) ?_
            have I214 : jI91 σ187 := jI91_fr (f190 0 (of_decide_eq_true rfl)) (f190 1 (of_decide_eq_true rfl)) hI91
            have I215 : jI92 σ187 := (show (-1) ≤ (σ187 9 2).toInt ∧ (σ187 9 2).toInt ≤ 80 by omega)
            exact hret 0 σ187 τ _ _ _ _ rfl ⟨rfl, (fun i hi => (f189 i hi)), (fun i hi => (f190 i (imp_43 i hi))), I194, I214, I215, (fun hd => by
              have h9 := jz_0; unfold jNq jNv
              refine ⟨?_, ?_, ?_⟩
              · first | ((repeat (first | rw [if_pos (by omega)] | rw [if_neg (by omega)])) <;> omega) | ((repeat' split) <;> omega)
              · first | ((repeat (first | rw [if_pos (by omega)] | rw [if_neg (by omega)])) <;> omega) | ((repeat' split) <;> omega)
              · omega), (by omega), ⟨trivial, (by have h9 := jz_0; omega)⟩⟩ hP hS dX7_number_69
       · exact by
          obtain ⟨q218, k216, k217⟩ := h200
          have q218 := q218.symm
          subst q218
          try rw [show (σ187 9 1).toInt = (σ 9 1).toInt from by omega] at k217
          try rw [show (σ187 9 0).toInt = (σ 9 0).toInt from by omega] at k217
          try rw [show σ187 10 = σ 10 from (f189 10 (of_decide_eq_true rfl))] at k217
          exact absurd (by omega : False) id
  · obtain ⟨q221, k219, k220⟩ := h10
    have q221 := q221.symm
    subst q221
    refine jcallS (As := [.int (-1)]) (rest := []) ⟨hx, hb, hml, hown, hts⟩ hK hP hA hS hZ (c_X7_isDigit l D cI cL ad zz hJ σ τ (-1) ((-1)) jz_m1) cw_RX7_39 ⟨Nat.le_of_ble_eq_true rfl, Nat.le_of_ble_eq_true rfl⟩ rfl rfl rfl hl.1 rfl (Nat.le_of_ble_eq_true rfl) dX7_number_4 ⟨Nat.zero_le _, Nat.zero_le _⟩ (fun r223 σ222 τ222 H locs h222 hP hS => ?_)
    obtain ⟨⟨rfl, rfl⟩, h222⟩ := h222
    rcases h222 with h224 | h225
    · obtain ⟨q227, k226⟩ := h224
      exact absurd (by omega : False) id
    · obtain ⟨q229, k228⟩ := h225
      have q229 := q229.symm
      subst q229
      refine lv_if_ne (tgt := 18) hx hb dX7_number_7 (of_decide_eq_true rfl) (fun c => absurd (of_decide_eq_true rfl) c) (fun _ => ?_)
      refine lv_aload_n hx hb dX7_number_10 rfl (lv_at hl 0 rfl) ?_
      refine lv_aload_n hx hb dX7_number_11 rfl (lv_at hl 0 rfl) ?_
      refine va_get (D := D) hx hb hts inlX7 hown hK hP 9 (jc_9 cI cL ad σ τ) rfl 1 (of_decide_eq_true rfl) (hts _ kw_13_17) (fun _ h9 => h9) rfl dX7_number_12 ?_
      exact by
       refine jcallVv (As := [.int (σ 9 1)]) (rest := []) ⟨hx, hb, hml, hown, hts⟩ hK hP hA hS hZ (c_X7_fail_9 l D cI cL ad zz hJ σ τ (σ 9 1) ((σ 9 1).toInt) rfl hI92 (by omega)) cw_RX7_43 (jc_9 cI cL ad σ τ) rfl ⟨Nat.le_of_ble_eq_true rfl, Nat.le_of_ble_eq_true rfl⟩ rfl rfl rfl hl.1 rfl (Nat.le_of_ble_eq_true rfl) dX7_number_15 ⟨Nat.zero_le _, Nat.zero_le _⟩ (fun σ230 τ230 H locs h230 hP hS => ?_)
       obtain ⟨rfl, f232, f233, h230⟩ := h230
       obtain ⟨k235, k236, h230⟩ := h230
       refine lv_iconst (v := 0) hx hb dX7_number_18 (of_decide_eq_true rfl) ?_
       refine lv_istore_n (lv' := [(2, .int 0), (0, .ref (ad 9)), (1, .int 4)]) hx hb dX7_number_19 rfl hl (of_decide_eq_true rfl) rfl (fun ls hl => ?_)
       refine lv_iconst (v := 0) hx hb dX7_number_20 (of_decide_eq_true rfl) ?_
       refine lv_istore_n (lv' := [(3, .int 0), (2, .int 0), (0, .ref (ad 9)), (1, .int 4)]) hx hb dX7_number_21 rfl hl (of_decide_eq_true rfl) rfl (fun ls hl => ?_)
       refine lv_iload_n hx hb dX7_number_22 rfl (lv_at hl 0 rfl) ?_
       refine lv_iload_n hx hb dX7_number_23 rfl (lv_at hl 3 rfl) ?_
       refine lv_icmp_ge (tgt := 68) hx hb dX7_number_24 (of_decide_eq_true rfl) (fun c => absurd c (of_decide_eq_true rfl)) (fun _ => ?_)
       refine lv_aload_n hx hb dX7_number_27 rfl (lv_at hl 2 rfl) ?_
       have I237 : jI9 σ230 := jI9_fr (f233 0 (of_decide_eq_true rfl)) (f232 10 (of_decide_eq_true rfl)) (f232 11 (of_decide_eq_true rfl)) hI9
       have z238 : (σ230 9 1).toInt = (σ 9 1).toInt := (congrArg Int32.toInt (show σ230 9 1 = (σ 9 1) from (f233 1 (of_decide_eq_true rfl))))
       have z239 : (σ230 9 0).toInt = (σ 9 0).toInt := (congrArg Int32.toInt (show σ230 9 0 = (σ 9 0) from (f233 0 (of_decide_eq_true rfl))))
       refine jcallV (As := []) (rest := []) ⟨hx, hb, hml, hown, hts⟩ hK hP hA hS hZ (c_X7_sign_9 l D cI cL ad zz hJ σ230 τ I237) cw_RX7_35 (jc_9 cI cL ad σ230 τ) rfl ⟨Nat.le_of_ble_eq_true rfl, Nat.le_of_ble_eq_true rfl⟩ rfl rfl rfl hl.1 rfl (Nat.le_of_ble_eq_true rfl) dX7_number_28 ⟨Nat.zero_le _, Nat.zero_le _⟩ (fun r241 σ240 τ240 H locs h240 hP hS => ?_)
       obtain ⟨⟨rfl, rfl⟩, h240⟩ := h240
       rcases h240 with h242 | h243
       · obtain ⟨q247, k244, k245, k246⟩ := h242
         exact by
          have q248 : r241 = (σ 10 (σ 9 1).toNatClampNeg) := q247.trans (by rw [(show σ230 9 1 = (σ 9 1) from (f233 1 (of_decide_eq_true rfl))), f232 10 (of_decide_eq_true rfl)])
          have q248e : (σ230 10 (σ230 9 1).toNatClampNeg).toInt = (σ 10 (σ 9 1).toNatClampNeg).toInt := by rw [← q247, ← q248]
          have q248 := q248.symm
          subst q248
          try rw [show (σ230 9 1).toInt = (σ 9 1).toInt from by omega] at k246
          try rw [show (σ230 9 0).toInt = (σ 9 0).toInt from by omega] at k246
          try rw [show σ230 10 = σ 10 from (f232 10 (of_decide_eq_true rfl))] at k246
          exact absurd (by omega : False) id
       · obtain ⟨q251, k249, k250⟩ := h243
         have q251 := q251.symm
         subst q251
         try rw [show (σ230 9 1).toInt = (σ 9 1).toInt from by omega] at k250
         try rw [show (σ230 9 0).toInt = (σ 9 0).toInt from by omega] at k250
         try rw [show σ230 10 = σ 10 from (f232 10 (of_decide_eq_true rfl))] at k250
         refine jcallS (As := [.int (-1)]) (rest := []) ⟨hx, hb, hml, hown, hts⟩ hK hP hA hS hZ (c_X7_isDigit l D cI cL ad zz hJ σ230 τ (-1) ((-1)) jz_m1) cw_RX7_39 ⟨Nat.le_of_ble_eq_true rfl, Nat.le_of_ble_eq_true rfl⟩ rfl rfl rfl hl.1 rfl (Nat.le_of_ble_eq_true rfl) dX7_number_31 ⟨Nat.zero_le _, Nat.zero_le _⟩ (fun r253 σ252 τ252 H locs h252 hP hS => ?_)
         obtain ⟨⟨rfl, rfl⟩, h252⟩ := h252
         rcases h252 with h254 | h255
         · obtain ⟨q257, k256⟩ := h254
           exact absurd (by omega : False) id
         · obtain ⟨q259, k258⟩ := h255
           have q259 := q259.symm
           subst q259
           refine lv_if_eq (tgt := 68) hx hb dX7_number_34 (of_decide_eq_true rfl) (fun _ => ?_) (fun c => absurd (of_decide_eq_true rfl) c)
           refine lv_iload_n hx hb dX7_number_68 rfl (lv_at hl 1 rfl) ?_
           have I260 : jI91 σ230 := jI91_fr (f233 0 (of_decide_eq_true rfl)) (f233 1 (of_decide_eq_true rfl)) hI91
           have I261 : jI92 σ230 := (show (-1) ≤ (σ230 9 2).toInt ∧ (σ230 9 2).toInt ≤ 80 by omega)
           exact hret 0 σ230 τ _ _ _ _ rfl ⟨rfl, (fun i hi => (f232 i hi)), (fun i hi => (f233 i (imp_43 i hi))), I237, I260, I261, (fun hd => by
             have h9 := jz_0; unfold jNq jNv
             refine ⟨?_, ?_, ?_⟩
             · first | ((repeat (first | rw [if_pos (by omega)] | rw [if_neg (by omega)])) <;> omega) | ((repeat' split) <;> omega)
             · first | ((repeat (first | rw [if_pos (by omega)] | rw [if_neg (by omega)])) <;> omega) | ((repeat' split) <;> omega)
             · omega), (by omega), ⟨trivial, (by have h9 := jz_0; omega)⟩⟩ hP hS dX7_number_69
set_option maxHeartbeats 4000000 in
set_option maxRecDepth 100000 in
theorem c_X7_number_2 (l : Launch) (D : va_G) (cI cL : ClassId) (ad zz : Nat → Nat) (hJ : jD ad) (σ : Nat → Nat → Int32) (τ : Nat → Nat → Int64) (hI9 : jI9 σ) (hI91 : jI91 σ) (hI92 : jI92 σ) (hp0 : (σ 9 2).toInt = (-1)) : jM l yX7_number cX7_number 4 (some .int) ({ frames := 1, cells := 0, slots := 0, locals := 21 }) D cI cL ad zz [.ref (ad 9), .int 2] σ τ (fun r σ' τ' => τ = τ' ∧ (∀ i : Nat, (i < 9 ∨ 9 < i) → σ' i = σ i) ∧ (∀ k : Nat, (k < 1 ∨ 1 < k) ∧ (k < 2 ∨ 2 < k) → σ' 9 k = σ 9 k) ∧ (jI9 σ') ∧ (jI91 σ') ∧ (jI92 σ') ∧ ((True ∧ (0 ≤ r.toInt ∧ r.toInt ≤ 99) ∧ (∃ q : Int, jNb (σ 10) ((σ 9 0).toInt) ((σ 9 1).toInt) 2 q (r.toInt) ∧ ((σ' 9 1).toInt = (σ 9 1).toInt + q ∧ ((q = 0 ∧ (σ' 9 2).toInt = (σ 9 1).toInt) ∨ (1 ≤ q ∧ (σ' 9 2).toInt = -1))))))) := by
  refine jM.of hJ (by decide +kernel) (nt := .int) rfl (Nat.le_of_ble_eq_true rfl) ?_
  intro p e s m args below meth c Q ls hC hret hl hP
  obtain ⟨hx, hb, hr, hml, hown, hts, hK, -, hlocks, hZ⟩ := hC
  have hown : s.vm.findClass RX7 = some m.cls := hown
  have hS : va_S (jA ad) s.heap s.heap [] := va_S.rf
  have hA : ∀ q, jA ad q → jA ad q := fun _ h => h
  have hl : lv_has ls 4 [(0, .ref (ad 9)), (1, .int 2)] := hl
  obtain ⟨i1, w2, w3⟩ : (0 ≤ (σ 9 0).toInt ∧ (σ 9 0).toInt ≤ 80) ∧ (∀ k : Nat, k < 80 → 0 ≤ (σ 10 k).toInt ∧ (σ 10 k).toInt ≤ 255) ∧ (∀ k : Nat, k < 8 → 0 ≤ (σ 11 k).toInt ∧ (σ 11 k).toInt ≤ 3) := id hI9
  obtain ⟨i4, i5⟩ : (0 ≤ (σ 9 1).toInt) ∧ ((σ 9 1).toInt ≤ (σ 9 0).toInt) := id hI91
  have i6 : (-1) ≤ (σ 9 2).toInt ∧ (σ 9 2).toInt ≤ 80 := hI92
  refine lv_aload_n hx hb dX7_number_0 rfl (lv_at hl 0 rfl) ?_
  refine jcallV (As := []) (rest := []) ⟨hx, hb, hml, hown, hts⟩ hK hP hA hS hZ (c_X7_sign_9 l D cI cL ad zz hJ σ τ hI9) cw_RX7_35 (jc_9 cI cL ad σ τ) rfl ⟨Nat.le_of_ble_eq_true rfl, Nat.le_of_ble_eq_true rfl⟩ rfl rfl rfl hl.1 rfl (Nat.le_of_ble_eq_true rfl) dX7_number_1 ⟨Nat.zero_le _, Nat.zero_le _⟩ (fun r8 σ7 τ7 H locs h7 hP hS => ?_)
  obtain ⟨⟨rfl, rfl⟩, h7⟩ := h7
  rcases h7 with h9 | h10
  · obtain ⟨q14, k11, k12, k13⟩ := h9
    have q15 : r8 = (σ 10 (σ 9 1).toNatClampNeg) := q14.trans rfl
    have q15 := q15.symm
    subst q15
    refine jcallS (As := [.int (σ 10 (σ 9 1).toNatClampNeg)]) (rest := []) ⟨hx, hb, hml, hown, hts⟩ hK hP hA hS hZ (c_X7_isDigit l D cI cL ad zz hJ σ τ (σ 10 (σ 9 1).toNatClampNeg) ((σ 10 (σ 9 1).toNatClampNeg).toInt) rfl) cw_RX7_39 ⟨Nat.le_of_ble_eq_true rfl, Nat.le_of_ble_eq_true rfl⟩ rfl rfl rfl hl.1 rfl (Nat.le_of_ble_eq_true rfl) dX7_number_4 ⟨Nat.zero_le _, Nat.zero_le _⟩ (fun r17 σ16 τ16 H locs h16 hP hS => ?_)
    obtain ⟨⟨rfl, rfl⟩, h16⟩ := h16
    rcases h16 with h18 | h19
    · obtain ⟨q21, k20⟩ := h18
      have q21 := q21.symm
      subst q21
      refine lv_if_ne (tgt := 18) hx hb dX7_number_7 (of_decide_eq_true rfl) (fun _ => ?_) (fun c => absurd c (of_decide_eq_true rfl))
      refine lv_iconst (v := 0) hx hb dX7_number_18 (of_decide_eq_true rfl) ?_
      refine lv_istore_n (lv' := [(2, .int 0), (0, .ref (ad 9)), (1, .int 2)]) hx hb dX7_number_19 rfl hl (of_decide_eq_true rfl) rfl (fun ls hl => ?_)
      refine lv_iconst (v := 0) hx hb dX7_number_20 (of_decide_eq_true rfl) ?_
      refine lv_istore_n (lv' := [(3, .int 0), (2, .int 0), (0, .ref (ad 9)), (1, .int 2)]) hx hb dX7_number_21 rfl hl (of_decide_eq_true rfl) rfl (fun ls hl => ?_)
      refine lv_iload_n hx hb dX7_number_22 rfl (lv_at hl 0 rfl) ?_
      refine lv_iload_n hx hb dX7_number_23 rfl (lv_at hl 3 rfl) ?_
      refine lv_icmp_ge (tgt := 68) hx hb dX7_number_24 (of_decide_eq_true rfl) (fun c => absurd c (of_decide_eq_true rfl)) (fun _ => ?_)
      refine lv_aload_n hx hb dX7_number_27 rfl (lv_at hl 2 rfl) ?_
      refine jcallV (As := []) (rest := []) ⟨hx, hb, hml, hown, hts⟩ hK hP hA hS hZ (c_X7_sign_9 l D cI cL ad zz hJ σ τ hI9) cw_RX7_35 (jc_9 cI cL ad σ τ) rfl ⟨Nat.le_of_ble_eq_true rfl, Nat.le_of_ble_eq_true rfl⟩ rfl rfl rfl hl.1 rfl (Nat.le_of_ble_eq_true rfl) dX7_number_28 ⟨Nat.zero_le _, Nat.zero_le _⟩ (fun r23 σ22 τ22 H locs h22 hP hS => ?_)
      obtain ⟨⟨rfl, rfl⟩, h22⟩ := h22
      rcases h22 with h24 | h25
      · obtain ⟨q29, k26, k27, k28⟩ := h24
        have q30 : r23 = (σ 10 (σ 9 1).toNatClampNeg) := q29.trans rfl
        have q30 := q30.symm
        subst q30
        refine jcallS (As := [.int (σ 10 (σ 9 1).toNatClampNeg)]) (rest := []) ⟨hx, hb, hml, hown, hts⟩ hK hP hA hS hZ (c_X7_isDigit l D cI cL ad zz hJ σ τ (σ 10 (σ 9 1).toNatClampNeg) ((σ 10 (σ 9 1).toNatClampNeg).toInt) rfl) cw_RX7_39 ⟨Nat.le_of_ble_eq_true rfl, Nat.le_of_ble_eq_true rfl⟩ rfl rfl rfl hl.1 rfl (Nat.le_of_ble_eq_true rfl) dX7_number_31 ⟨Nat.zero_le _, Nat.zero_le _⟩ (fun r32 σ31 τ31 H locs h31 hP hS => ?_)
        obtain ⟨⟨rfl, rfl⟩, h31⟩ := h31
        rcases h31 with h33 | h34
        · obtain ⟨q36, k35⟩ := h33
          have q36 := q36.symm
          subst q36
          refine lv_if_eq (tgt := 68) hx hb dX7_number_34 (of_decide_eq_true rfl) (fun c => absurd c (of_decide_eq_true rfl)) (fun _ => ?_)
          refine lv_iload_n hx hb dX7_number_37 rfl (lv_at hl 1 rfl) ?_
          refine lv_bipush (v := 10) hx hb dX7_number_38 (of_decide_eq_true rfl) ?_
          refine lv_imul hx hb dX7_number_40 ?_
          refine jtopr (y := 0) (of_decide_eq_true rfl) ?_
          refine lv_aload_n hx hb dX7_number_41 rfl (lv_at hl 2 rfl) ?_
          refine va_get (D := D) hx hb hts inlX7 hown hK hP 9 (jc_9 cI cL ad σ τ) rfl 3 (of_decide_eq_true rfl) (hts _ kw_3_20) (fun _ h9 => h9) rfl dX7_number_42 ?_
          refine lv_aload_n hx hb dX7_number_45 rfl (lv_at hl 2 rfl) ?_
          refine lv_dup hx hb dX7_number_46 rfl ?_
          refine va_get (D := D) hx hb hts inlX7 hown hK hP 9 (jc_9 cI cL ad σ τ) rfl 1 (of_decide_eq_true rfl) (hts _ kw_13_17) (fun _ h9 => h9) rfl dX7_number_47 ?_
          refine lv_dup_x1 hx hb dX7_number_50 rfl rfl ?_
          refine lv_iconst (v := 1) hx hb dX7_number_51 (of_decide_eq_true rfl) ?_
          have g37 := jrg (rfl : (σ 9 1).toInt = (σ 9 1).toInt)
          refine lv_iadd hx hb dX7_number_52 ?_
          refine lv_topi (fun x38 ex38 => ?_)
          exact by
           have tx38 : x38.toInt = (σ 9 1).toInt + 1 := (jadd ex38 rfl jz_1 (by omega) (by omega)).trans (by omega)
           refine jput (ty := .int) hx hb hts inlX7 tyX7 tyX7_ok nmX7 hown hK hP hJ hA hS (jc_9 cI cL ad σ τ) rfl (k := 1) (of_decide_eq_true rfl) (Nat.le_of_ble_eq_true rfl) (jp_9_1 cI cL ad σ τ x38) (hts _ kw_13_17) (fun _ h9 => h9) rfl (by decide +kernel) rfl rfl dX7_number_53 (fun σ39 H locs eσ39 hP hS => ?_)
           refine jald hx hb hK hP (jc_10 cI cL ad σ39 τ) (jin rfl (by omega) (by omega)) dX7_number_56 ?_
           refine jtopr (y := (σ 10 (σ 9 1).toNatClampNeg)) (by rw [jnp 10 eσ39 (of_decide_eq_true rfl)]) ?_
           refine lv_iadd hx hb dX7_number_57 ?_
           refine jtopr (y := (σ 10 (σ 9 1).toNatClampNeg)) (by rw [Int32.zero_add]) ?_
           refine lv_bipush (v := 48) hx hb dX7_number_58 (of_decide_eq_true rfl) ?_
           have g40 := jrg (rfl : (σ 10 (σ 9 1).toNatClampNeg).toInt = (σ 10 (σ 9 1).toNatClampNeg).toInt)
           refine lv_isub hx hb dX7_number_60 ?_
           exact by
            refine lv_topi (fun x41 ex41 => ?_)
            have tx41 : x41.toInt = (σ 10 (σ 9 1).toNatClampNeg).toInt - 48 := (jsub ex41 rfl jz_48 (by omega) (by omega)).trans (by omega)
            refine lv_istore_n (lv' := [(2, .int x41), (3, .int 0), (0, .ref (ad 9)), (1, .int 2)]) hx hb dX7_number_61 rfl hl (of_decide_eq_true rfl) rfl (fun ls hl => ?_)
            refine lv_iinc (v := 1) (lv' := [(3, .int 1), (2, .int x41), (0, .ref (ad 9)), (1, .int 2)]) hx hb dX7_number_62 hl (k := 1) rfl (of_decide_eq_true rfl) (of_decide_eq_true rfl) rfl (fun ls hl => ?_)
            refine lv_goto (tgt := 22) hx hb dX7_number_65 (of_decide_eq_true rfl) ?_
            refine lv_iload_n hx hb dX7_number_22 rfl (lv_at hl 0 rfl) ?_
            refine lv_iload_n hx hb dX7_number_23 rfl (lv_at hl 3 rfl) ?_
            refine lv_icmp_ge (tgt := 68) hx hb dX7_number_24 (of_decide_eq_true rfl) (fun c => absurd c (of_decide_eq_true rfl)) (fun _ => ?_)
            refine lv_aload_n hx hb dX7_number_27 rfl (lv_at hl 2 rfl) ?_
            exact by
             have I42 : jI9 σ39 := jI9_fr (jkp 0 eσ39 (of_decide_eq_true rfl)) (jnp 10 eσ39 (of_decide_eq_true rfl)) (jnp 11 eσ39 (of_decide_eq_true rfl)) hI9
             have z43 : (σ39 9 1).toInt = (σ 9 1).toInt + 1 := ((congrArg Int32.toInt (show σ39 9 1 = x38 from (jsp eσ39))).trans tx38)
             have z44 : (σ39 9 0).toInt = (σ 9 0).toInt := (congrArg Int32.toInt (show σ39 9 0 = (σ 9 0) from (jkp 0 eσ39 (of_decide_eq_true rfl))))
             refine jcallV (As := []) (rest := []) ⟨hx, hb, hml, hown, hts⟩ hK hP hA hS hZ (c_X7_sign_9 l D cI cL ad zz hJ σ39 τ I42) cw_RX7_35 (jc_9 cI cL ad σ39 τ) rfl ⟨Nat.le_of_ble_eq_true rfl, Nat.le_of_ble_eq_true rfl⟩ rfl rfl rfl hl.1 rfl (Nat.le_of_ble_eq_true rfl) dX7_number_28 ⟨Nat.zero_le _, Nat.zero_le _⟩ (fun r46 σ45 τ45 H locs h45 hP hS => ?_)
             obtain ⟨⟨rfl, rfl⟩, h45⟩ := h45
             rcases h45 with h47 | h48
             · obtain ⟨q52, k49, k50, k51⟩ := h47
               have q53 : r46 = (σ 10 x38.toNatClampNeg) := q52.trans (by rw [(show σ39 9 1 = x38 from (jsp eσ39)), jnp 10 eσ39 (of_decide_eq_true rfl)])
               have q53e : (σ39 10 (σ39 9 1).toNatClampNeg).toInt = (σ 10 x38.toNatClampNeg).toInt := by rw [← q52, ← q53]
               exact by
                have q53 := q53.symm
                subst q53
                try rw [show (σ39 9 1).toInt = (σ 9 1).toInt + 1 from by omega] at k51
                try rw [show (σ39 9 0).toInt = (σ 9 0).toInt from by omega] at k51
                try rw [show σ39 10 = σ 10 from (jnp 10 eσ39 (of_decide_eq_true rfl))] at k51
                refine jcallS (As := [.int (σ 10 x38.toNatClampNeg)]) (rest := []) ⟨hx, hb, hml, hown, hts⟩ hK hP hA hS hZ (c_X7_isDigit l D cI cL ad zz hJ σ39 τ (σ 10 x38.toNatClampNeg) ((σ 10 x38.toNatClampNeg).toInt) rfl) cw_RX7_39 ⟨Nat.le_of_ble_eq_true rfl, Nat.le_of_ble_eq_true rfl⟩ rfl rfl rfl hl.1 rfl (Nat.le_of_ble_eq_true rfl) dX7_number_31 ⟨Nat.zero_le _, Nat.zero_le _⟩ (fun r55 σ54 τ54 H locs h54 hP hS => ?_)
                obtain ⟨⟨rfl, rfl⟩, h54⟩ := h54
                rcases h54 with h56 | h57
                · obtain ⟨q59, k58⟩ := h56
                  have q59 := q59.symm
                  subst q59
                  refine lv_if_eq (tgt := 68) hx hb dX7_number_34 (of_decide_eq_true rfl) (fun c => absurd c (of_decide_eq_true rfl)) (fun _ => ?_)
                  refine lv_iload_n hx hb dX7_number_37 rfl (lv_at hl 1 rfl) ?_
                  refine lv_bipush (v := 10) hx hb dX7_number_38 (of_decide_eq_true rfl) ?_
                  refine lv_imul hx hb dX7_number_40 ?_
                  refine lv_topi (fun x60 ex60 => ?_)
                  exact by
                   have tx60 : x60.toInt = 10 * (σ 10 (σ 9 1).toNatClampNeg).toInt - 480 := (jmul ex60 tx41 jz_10 (by omega) (by omega)).trans (by omega)
                   refine lv_aload_n hx hb dX7_number_41 rfl (lv_at hl 2 rfl) ?_
                   refine va_get (D := D) hx hb hts inlX7 hown hK hP 9 (jc_9 cI cL ad σ39 τ) rfl 3 (of_decide_eq_true rfl) (hts _ kw_3_20) (fun _ h9 => h9) rfl dX7_number_42 ?_
                   refine lv_aload_n hx hb dX7_number_45 rfl (lv_at hl 2 rfl) ?_
                   refine lv_dup hx hb dX7_number_46 rfl ?_
                   refine va_get (D := D) hx hb hts inlX7 hown hK hP 9 (jc_9 cI cL ad σ39 τ) rfl 1 (of_decide_eq_true rfl) (hts _ kw_13_17) (fun _ h9 => h9) rfl dX7_number_47 ?_
                   have m61 : σ39 9 1 = x38 := (jsp eσ39)
                   refine jtopr m61 ?_
                   refine lv_dup_x1 hx hb dX7_number_50 rfl rfl ?_
                   refine lv_iconst (v := 1) hx hb dX7_number_51 (of_decide_eq_true rfl) ?_
                   refine lv_iadd hx hb dX7_number_52 ?_
                   refine lv_topi (fun x62 ex62 => ?_)
                   exact by
                    have tx62 : x62.toInt = (σ 9 1).toInt + 2 := (jadd ex62 tx38 jz_1 (by omega) (by omega)).trans (by omega)
                    refine jput (ty := .int) hx hb hts inlX7 tyX7 tyX7_ok nmX7 hown hK hP hJ hA hS (jc_9 cI cL ad σ39 τ) rfl (k := 1) (of_decide_eq_true rfl) (Nat.le_of_ble_eq_true rfl) (jp_9_1 cI cL ad σ39 τ x62) (hts _ kw_13_17) (fun _ h9 => h9) rfl (by decide +kernel) rfl rfl dX7_number_53 (fun σ63 H locs eσ63 hP hS => ?_)
                    refine jald hx hb hK hP (jc_10 cI cL ad σ63 τ) (jin tx38 (by omega) (by omega)) dX7_number_56 ?_
                    refine jtopr (y := (σ 10 x38.toNatClampNeg)) (by rw [jnp 10 eσ63 (of_decide_eq_true rfl), jnp 10 eσ39 (of_decide_eq_true rfl)]) ?_
                    have g64 := jrg (rfl : (σ 10 x38.toNatClampNeg).toInt = (σ 10 x38.toNatClampNeg).toInt)
                    refine lv_iadd hx hb dX7_number_57 ?_
                    refine lv_topi (fun x65 ex65 => ?_)
                    have tx65 : x65.toInt = 10 * (σ 10 (σ 9 1).toNatClampNeg).toInt + (σ 10 x38.toNatClampNeg).toInt - 480 := (jadd ex65 tx60 rfl (by omega) (by omega)).trans (by omega)
                    refine lv_bipush (v := 48) hx hb dX7_number_58 (of_decide_eq_true rfl) ?_
                    exact by
                     refine lv_isub hx hb dX7_number_60 ?_
                     refine lv_topi (fun x66 ex66 => ?_)
                     have tx66 : x66.toInt = 10 * (σ 10 (σ 9 1).toNatClampNeg).toInt + (σ 10 x38.toNatClampNeg).toInt - 528 := (jsub ex66 tx65 jz_48 (by omega) (by omega)).trans (by omega)
                     refine lv_istore_n (lv' := [(2, .int x66), (3, .int 1), (0, .ref (ad 9)), (1, .int 2)]) hx hb dX7_number_61 rfl hl (of_decide_eq_true rfl) rfl (fun ls hl => ?_)
                     refine lv_iinc (v := 2) (lv' := [(3, .int 2), (2, .int x66), (0, .ref (ad 9)), (1, .int 2)]) hx hb dX7_number_62 hl (k := 1) rfl (of_decide_eq_true rfl) (of_decide_eq_true rfl) rfl (fun ls hl => ?_)
                     refine lv_goto (tgt := 22) hx hb dX7_number_65 (of_decide_eq_true rfl) ?_
                     refine lv_iload_n hx hb dX7_number_22 rfl (lv_at hl 0 rfl) ?_
                     refine lv_iload_n hx hb dX7_number_23 rfl (lv_at hl 3 rfl) ?_
                     refine lv_icmp_ge (tgt := 68) hx hb dX7_number_24 (of_decide_eq_true rfl) (fun _ => ?_) (fun c => absurd (of_decide_eq_true rfl) c)
                     exact by
                      refine lv_iload_n hx hb dX7_number_68 rfl (lv_at hl 1 rfl) ?_
                      have I67 : jI9 σ63 := jI9_fr (jkp 0 eσ63 (of_decide_eq_true rfl)) (jnp 10 eσ63 (of_decide_eq_true rfl)) (jnp 11 eσ63 (of_decide_eq_true rfl)) I42
                      have z68 : (σ63 9 1).toInt = (σ 9 1).toInt + 2 := ((congrArg Int32.toInt (show σ63 9 1 = x62 from (jsp eσ63))).trans tx62)
                      have z69 : (σ63 9 0).toInt = (σ 9 0).toInt := (congrArg Int32.toInt (show σ63 9 0 = (σ 9 0) from ((jkp 0 eσ63 (of_decide_eq_true rfl)).trans (jkp 0 eσ39 (of_decide_eq_true rfl)))))
                      have I70 : jI91 σ63 := ⟨(by omega), (by omega)⟩
                      have I71 : jI92 σ63 := jI92_fr ((jkp 2 eσ63 (of_decide_eq_true rfl)).trans (jkp 2 eσ39 (of_decide_eq_true rfl))) hI92
                      have z72 : (σ63 9 2).toInt = (σ 9 2).toInt := (congrArg Int32.toInt (show σ63 9 2 = (σ 9 2) from ((jkp 2 eσ63 (of_decide_eq_true rfl)).trans (jkp 2 eσ39 (of_decide_eq_true rfl)))))
                      exact by exact hret x66 σ63 τ _ _ _ _ rfl ⟨rfl, (fun i hi => ((jnp i eσ63 (imp_37 i hi)).trans (jnp i eσ39 (imp_37 i hi)))), (fun i hi => ((jkp i eσ63 (imp_39 i hi)).trans (jkp i eσ39 (imp_39 i hi)))), I67, I70, I71, ⟨trivial, (by have h9 := tx66; omega), ⟨2, (by have i0 := jix (f := σ 10) (show (σ 9 1).toInt = (σ 9 1).toInt by omega); have p1 := tx38; have i1 := jix (f := σ 10) (show x38.toInt = (σ 9 1).toInt + 1 by omega); have h9 := tx66; exact Or.inr (Or.inr (Or.inl ⟨by omega, ⟨by omega, by omega, by omega⟩, ⟨by omega, by omega, by omega⟩, Or.inl rfl, by omega⟩))), (by omega), (by omega)⟩⟩⟩ hP hS dX7_number_69
                · obtain ⟨q74, k73⟩ := h57
                  exact by
                   have q74 := q74.symm
                   subst q74
                   refine lv_if_eq (tgt := 68) hx hb dX7_number_34 (of_decide_eq_true rfl) (fun _ => ?_) (fun c => absurd (of_decide_eq_true rfl) c)
                   refine lv_iload_n hx hb dX7_number_68 rfl (lv_at hl 1 rfl) ?_
                   have I75 : jI91 σ39 := ⟨(by omega), (by omega)⟩
                   have I76 : jI92 σ39 := jI92_fr (jkp 2 eσ39 (of_decide_eq_true rfl)) hI92
                   have z77 : (σ39 9 2).toInt = (σ 9 2).toInt := (congrArg Int32.toInt (show σ39 9 2 = (σ 9 2) from (jkp 2 eσ39 (of_decide_eq_true rfl))))
                   exact by exact hret x41 σ39 τ _ _ _ _ rfl ⟨rfl, (fun i hi => (jnp i eσ39 (imp_37 i hi))), (fun i hi => (jkp i eσ39 (imp_39 i hi))), I42, I75, I76, ⟨trivial, (by have h9 := tx41; omega), ⟨1, (by have i0 := jix (f := σ 10) (show (σ 9 1).toInt = (σ 9 1).toInt by omega); have p1 := tx38; have i1 := jix (f := σ 10) (show x38.toInt = (σ 9 1).toInt + 1 by omega); have h9 := tx41; exact Or.inr (Or.inl ⟨by omega, ⟨by omega, by omega, by omega⟩, (fun d => by unfold jDg at d; omega), by omega⟩)), (by omega), (by omega)⟩⟩⟩ hP hS dX7_number_69
             · obtain ⟨q80, k78, k79⟩ := h48
               exact by
                have q80 := q80.symm
                subst q80
                try rw [show (σ39 9 1).toInt = (σ 9 1).toInt + 1 from by omega] at k79
                try rw [show (σ39 9 0).toInt = (σ 9 0).toInt from by omega] at k79
                try rw [show σ39 10 = σ 10 from (jnp 10 eσ39 (of_decide_eq_true rfl))] at k79
                refine jcallS (As := [.int (-1)]) (rest := []) ⟨hx, hb, hml, hown, hts⟩ hK hP hA hS hZ (c_X7_isDigit l D cI cL ad zz hJ σ39 τ (-1) ((-1)) jz_m1) cw_RX7_39 ⟨Nat.le_of_ble_eq_true rfl, Nat.le_of_ble_eq_true rfl⟩ rfl rfl rfl hl.1 rfl (Nat.le_of_ble_eq_true rfl) dX7_number_31 ⟨Nat.zero_le _, Nat.zero_le _⟩ (fun r82 σ81 τ81 H locs h81 hP hS => ?_)
                obtain ⟨⟨rfl, rfl⟩, h81⟩ := h81
                rcases h81 with h83 | h84
                · obtain ⟨q86, k85⟩ := h83
                  exact absurd (by omega : False) id
                · obtain ⟨q88, k87⟩ := h84
                  have q88 := q88.symm
                  subst q88
                  refine lv_if_eq (tgt := 68) hx hb dX7_number_34 (of_decide_eq_true rfl) (fun _ => ?_) (fun c => absurd (of_decide_eq_true rfl) c)
                  refine lv_iload_n hx hb dX7_number_68 rfl (lv_at hl 1 rfl) ?_
                  exact by
                   have I89 : jI91 σ39 := ⟨(by omega), (by omega)⟩
                   have I90 : jI92 σ39 := jI92_fr (jkp 2 eσ39 (of_decide_eq_true rfl)) hI92
                   have z91 : (σ39 9 2).toInt = (σ 9 2).toInt := (congrArg Int32.toInt (show σ39 9 2 = (σ 9 2) from (jkp 2 eσ39 (of_decide_eq_true rfl))))
                   exact by exact hret x41 σ39 τ _ _ _ _ rfl ⟨rfl, (fun i hi => (jnp i eσ39 (imp_37 i hi))), (fun i hi => (jkp i eσ39 (imp_39 i hi))), I42, I89, I90, ⟨trivial, (by have h9 := tx41; omega), ⟨1, (by have i0 := jix (f := σ 10) (show (σ 9 1).toInt = (σ 9 1).toInt by omega); have h9 := tx41; exact Or.inr (Or.inl ⟨by omega, ⟨by omega, by omega, by omega⟩, (fun d => by unfold jDg at d; omega), by omega⟩)), (by omega), (by omega)⟩⟩⟩ hP hS dX7_number_69
        · obtain ⟨q93, k92⟩ := h34
          exact absurd (by omega : False) id
      · obtain ⟨q96, k94, k95⟩ := h25
        exact absurd (by omega : False) id
    · obtain ⟨q98, k97⟩ := h19
      have q98 := q98.symm
      subst q98
      refine lv_if_ne (tgt := 18) hx hb dX7_number_7 (of_decide_eq_true rfl) (fun c => absurd (of_decide_eq_true rfl) c) (fun _ => ?_)
      refine lv_aload_n hx hb dX7_number_10 rfl (lv_at hl 0 rfl) ?_
      refine lv_aload_n hx hb dX7_number_11 rfl (lv_at hl 0 rfl) ?_
      refine va_get (D := D) hx hb hts inlX7 hown hK hP 9 (jc_9 cI cL ad σ τ) rfl 1 (of_decide_eq_true rfl) (hts _ kw_13_17) (fun _ h9 => h9) rfl dX7_number_12 ?_
      exact by
       refine jcallVv (As := [.int (σ 9 1)]) (rest := []) ⟨hx, hb, hml, hown, hts⟩ hK hP hA hS hZ (c_X7_fail_9 l D cI cL ad zz hJ σ τ (σ 9 1) ((σ 9 1).toInt) rfl hI92 (by omega)) cw_RX7_43 (jc_9 cI cL ad σ τ) rfl ⟨Nat.le_of_ble_eq_true rfl, Nat.le_of_ble_eq_true rfl⟩ rfl rfl rfl hl.1 rfl (Nat.le_of_ble_eq_true rfl) dX7_number_15 ⟨Nat.zero_le _, Nat.zero_le _⟩ (fun σ99 τ99 H locs h99 hP hS => ?_)
       obtain ⟨rfl, f101, f102, h99⟩ := h99
       obtain ⟨k104, k105, h99⟩ := h99
       refine lv_iconst (v := 0) hx hb dX7_number_18 (of_decide_eq_true rfl) ?_
       refine lv_istore_n (lv' := [(2, .int 0), (0, .ref (ad 9)), (1, .int 2)]) hx hb dX7_number_19 rfl hl (of_decide_eq_true rfl) rfl (fun ls hl => ?_)
       refine lv_iconst (v := 0) hx hb dX7_number_20 (of_decide_eq_true rfl) ?_
       refine lv_istore_n (lv' := [(3, .int 0), (2, .int 0), (0, .ref (ad 9)), (1, .int 2)]) hx hb dX7_number_21 rfl hl (of_decide_eq_true rfl) rfl (fun ls hl => ?_)
       refine lv_iload_n hx hb dX7_number_22 rfl (lv_at hl 0 rfl) ?_
       refine lv_iload_n hx hb dX7_number_23 rfl (lv_at hl 3 rfl) ?_
       refine lv_icmp_ge (tgt := 68) hx hb dX7_number_24 (of_decide_eq_true rfl) (fun c => absurd c (of_decide_eq_true rfl)) (fun _ => ?_)
       refine lv_aload_n hx hb dX7_number_27 rfl (lv_at hl 2 rfl) ?_
       have I106 : jI9 σ99 := jI9_fr (f102 0 (of_decide_eq_true rfl)) (f101 10 (of_decide_eq_true rfl)) (f101 11 (of_decide_eq_true rfl)) hI9
       have z107 : (σ99 9 1).toInt = (σ 9 1).toInt := (congrArg Int32.toInt (show σ99 9 1 = (σ 9 1) from (f102 1 (of_decide_eq_true rfl))))
       have z108 : (σ99 9 0).toInt = (σ 9 0).toInt := (congrArg Int32.toInt (show σ99 9 0 = (σ 9 0) from (f102 0 (of_decide_eq_true rfl))))
       refine jcallV (As := []) (rest := []) ⟨hx, hb, hml, hown, hts⟩ hK hP hA hS hZ (c_X7_sign_9 l D cI cL ad zz hJ σ99 τ I106) cw_RX7_35 (jc_9 cI cL ad σ99 τ) rfl ⟨Nat.le_of_ble_eq_true rfl, Nat.le_of_ble_eq_true rfl⟩ rfl rfl rfl hl.1 rfl (Nat.le_of_ble_eq_true rfl) dX7_number_28 ⟨Nat.zero_le _, Nat.zero_le _⟩ (fun r110 σ109 τ109 H locs h109 hP hS => ?_)
       obtain ⟨⟨rfl, rfl⟩, h109⟩ := h109
       rcases h109 with h111 | h112
       · obtain ⟨q116, k113, k114, k115⟩ := h111
         exact by
          have q117 : r110 = (σ 10 (σ 9 1).toNatClampNeg) := q116.trans (by rw [(show σ99 9 1 = (σ 9 1) from (f102 1 (of_decide_eq_true rfl))), f101 10 (of_decide_eq_true rfl)])
          have q117e : (σ99 10 (σ99 9 1).toNatClampNeg).toInt = (σ 10 (σ 9 1).toNatClampNeg).toInt := by rw [← q116, ← q117]
          have q117 := q117.symm
          subst q117
          try rw [show (σ99 9 1).toInt = (σ 9 1).toInt from by omega] at k115
          try rw [show (σ99 9 0).toInt = (σ 9 0).toInt from by omega] at k115
          try rw [show σ99 10 = σ 10 from (f101 10 (of_decide_eq_true rfl))] at k115
          refine jcallS (As := [.int (σ 10 (σ 9 1).toNatClampNeg)]) (rest := []) ⟨hx, hb, hml, hown, hts⟩ hK hP hA hS hZ (c_X7_isDigit l D cI cL ad zz hJ σ99 τ (σ 10 (σ 9 1).toNatClampNeg) ((σ 10 (σ 9 1).toNatClampNeg).toInt) rfl) cw_RX7_39 ⟨Nat.le_of_ble_eq_true rfl, Nat.le_of_ble_eq_true rfl⟩ rfl rfl rfl hl.1 rfl (Nat.le_of_ble_eq_true rfl) dX7_number_31 ⟨Nat.zero_le _, Nat.zero_le _⟩ (fun r119 σ118 τ118 H locs h118 hP hS => ?_)
          obtain ⟨⟨rfl, rfl⟩, h118⟩ := h118
          rcases h118 with h120 | h121
          · obtain ⟨q123, k122⟩ := h120
            exact absurd (by omega : False) id
          · obtain ⟨q125, k124⟩ := h121
            have q125 := q125.symm
            subst q125
            refine lv_if_eq (tgt := 68) hx hb dX7_number_34 (of_decide_eq_true rfl) (fun _ => ?_) (fun c => absurd (of_decide_eq_true rfl) c)
            refine lv_iload_n hx hb dX7_number_68 rfl (lv_at hl 1 rfl) ?_
            have I126 : jI91 σ99 := jI91_fr (f102 0 (of_decide_eq_true rfl)) (f102 1 (of_decide_eq_true rfl)) hI91
            have I127 : jI92 σ99 := (show (-1) ≤ (σ99 9 2).toInt ∧ (σ99 9 2).toInt ≤ 80 by omega)
            exact by exact hret 0 σ99 τ _ _ _ _ rfl ⟨rfl, (fun i hi => (f101 i hi)), (fun i hi => (f102 i (imp_43 i hi))), I106, I126, I127, ⟨trivial, (by have h9 := jz_0; omega), ⟨0, (by have i0 := jix (f := σ 10) (show (σ 9 1).toInt = (σ 9 1).toInt by omega); have h9 := jz_0; exact Or.inl ⟨by omega, by omega, (fun d => by unfold jDg at d; omega)⟩), (by omega), (by omega)⟩⟩⟩ hP hS dX7_number_69
       · obtain ⟨q130, k128, k129⟩ := h112
         have q130 := q130.symm
         subst q130
         try rw [show (σ99 9 1).toInt = (σ 9 1).toInt from by omega] at k129
         try rw [show (σ99 9 0).toInt = (σ 9 0).toInt from by omega] at k129
         try rw [show σ99 10 = σ 10 from (f101 10 (of_decide_eq_true rfl))] at k129
         exact absurd (by omega : False) id
  · obtain ⟨q133, k131, k132⟩ := h10
    have q133 := q133.symm
    subst q133
    refine jcallS (As := [.int (-1)]) (rest := []) ⟨hx, hb, hml, hown, hts⟩ hK hP hA hS hZ (c_X7_isDigit l D cI cL ad zz hJ σ τ (-1) ((-1)) jz_m1) cw_RX7_39 ⟨Nat.le_of_ble_eq_true rfl, Nat.le_of_ble_eq_true rfl⟩ rfl rfl rfl hl.1 rfl (Nat.le_of_ble_eq_true rfl) dX7_number_4 ⟨Nat.zero_le _, Nat.zero_le _⟩ (fun r135 σ134 τ134 H locs h134 hP hS => ?_)
    obtain ⟨⟨rfl, rfl⟩, h134⟩ := h134
    rcases h134 with h136 | h137
    · obtain ⟨q139, k138⟩ := h136
      exact absurd (by omega : False) id
    · obtain ⟨q141, k140⟩ := h137
      have q141 := q141.symm
      subst q141
      refine lv_if_ne (tgt := 18) hx hb dX7_number_7 (of_decide_eq_true rfl) (fun c => absurd (of_decide_eq_true rfl) c) (fun _ => ?_)
      refine lv_aload_n hx hb dX7_number_10 rfl (lv_at hl 0 rfl) ?_
      refine lv_aload_n hx hb dX7_number_11 rfl (lv_at hl 0 rfl) ?_
      refine va_get (D := D) hx hb hts inlX7 hown hK hP 9 (jc_9 cI cL ad σ τ) rfl 1 (of_decide_eq_true rfl) (hts _ kw_13_17) (fun _ h9 => h9) rfl dX7_number_12 ?_
      exact by
       refine jcallVv (As := [.int (σ 9 1)]) (rest := []) ⟨hx, hb, hml, hown, hts⟩ hK hP hA hS hZ (c_X7_fail_9 l D cI cL ad zz hJ σ τ (σ 9 1) ((σ 9 1).toInt) rfl hI92 (by omega)) cw_RX7_43 (jc_9 cI cL ad σ τ) rfl ⟨Nat.le_of_ble_eq_true rfl, Nat.le_of_ble_eq_true rfl⟩ rfl rfl rfl hl.1 rfl (Nat.le_of_ble_eq_true rfl) dX7_number_15 ⟨Nat.zero_le _, Nat.zero_le _⟩ (fun σ142 τ142 H locs h142 hP hS => ?_)
       obtain ⟨rfl, f144, f145, h142⟩ := h142
       obtain ⟨k147, k148, h142⟩ := h142
       refine lv_iconst (v := 0) hx hb dX7_number_18 (of_decide_eq_true rfl) ?_
       refine lv_istore_n (lv' := [(2, .int 0), (0, .ref (ad 9)), (1, .int 2)]) hx hb dX7_number_19 rfl hl (of_decide_eq_true rfl) rfl (fun ls hl => ?_)
       refine lv_iconst (v := 0) hx hb dX7_number_20 (of_decide_eq_true rfl) ?_
       refine lv_istore_n (lv' := [(3, .int 0), (2, .int 0), (0, .ref (ad 9)), (1, .int 2)]) hx hb dX7_number_21 rfl hl (of_decide_eq_true rfl) rfl (fun ls hl => ?_)
       refine lv_iload_n hx hb dX7_number_22 rfl (lv_at hl 0 rfl) ?_
       refine lv_iload_n hx hb dX7_number_23 rfl (lv_at hl 3 rfl) ?_
       refine lv_icmp_ge (tgt := 68) hx hb dX7_number_24 (of_decide_eq_true rfl) (fun c => absurd c (of_decide_eq_true rfl)) (fun _ => ?_)
       refine lv_aload_n hx hb dX7_number_27 rfl (lv_at hl 2 rfl) ?_
       have I149 : jI9 σ142 := jI9_fr (f145 0 (of_decide_eq_true rfl)) (f144 10 (of_decide_eq_true rfl)) (f144 11 (of_decide_eq_true rfl)) hI9
       have z150 : (σ142 9 1).toInt = (σ 9 1).toInt := (congrArg Int32.toInt (show σ142 9 1 = (σ 9 1) from (f145 1 (of_decide_eq_true rfl))))
       have z151 : (σ142 9 0).toInt = (σ 9 0).toInt := (congrArg Int32.toInt (show σ142 9 0 = (σ 9 0) from (f145 0 (of_decide_eq_true rfl))))
       refine jcallV (As := []) (rest := []) ⟨hx, hb, hml, hown, hts⟩ hK hP hA hS hZ (c_X7_sign_9 l D cI cL ad zz hJ σ142 τ I149) cw_RX7_35 (jc_9 cI cL ad σ142 τ) rfl ⟨Nat.le_of_ble_eq_true rfl, Nat.le_of_ble_eq_true rfl⟩ rfl rfl rfl hl.1 rfl (Nat.le_of_ble_eq_true rfl) dX7_number_28 ⟨Nat.zero_le _, Nat.zero_le _⟩ (fun r153 σ152 τ152 H locs h152 hP hS => ?_)
       obtain ⟨⟨rfl, rfl⟩, h152⟩ := h152
       rcases h152 with h154 | h155
       · obtain ⟨q159, k156, k157, k158⟩ := h154
         exact by
          have q160 : r153 = (σ 10 (σ 9 1).toNatClampNeg) := q159.trans (by rw [(show σ142 9 1 = (σ 9 1) from (f145 1 (of_decide_eq_true rfl))), f144 10 (of_decide_eq_true rfl)])
          have q160e : (σ142 10 (σ142 9 1).toNatClampNeg).toInt = (σ 10 (σ 9 1).toNatClampNeg).toInt := by rw [← q159, ← q160]
          have q160 := q160.symm
          subst q160
          try rw [show (σ142 9 1).toInt = (σ 9 1).toInt from by omega] at k158
          try rw [show (σ142 9 0).toInt = (σ 9 0).toInt from by omega] at k158
          try rw [show σ142 10 = σ 10 from (f144 10 (of_decide_eq_true rfl))] at k158
          exact absurd (by omega : False) id
       · obtain ⟨q163, k161, k162⟩ := h155
         have q163 := q163.symm
         subst q163
         try rw [show (σ142 9 1).toInt = (σ 9 1).toInt from by omega] at k162
         try rw [show (σ142 9 0).toInt = (σ 9 0).toInt from by omega] at k162
         try rw [show σ142 10 = σ 10 from (f144 10 (of_decide_eq_true rfl))] at k162
         refine jcallS (As := [.int (-1)]) (rest := []) ⟨hx, hb, hml, hown, hts⟩ hK hP hA hS hZ (c_X7_isDigit l D cI cL ad zz hJ σ142 τ (-1) ((-1)) jz_m1) cw_RX7_39 ⟨Nat.le_of_ble_eq_true rfl, Nat.le_of_ble_eq_true rfl⟩ rfl rfl rfl hl.1 rfl (Nat.le_of_ble_eq_true rfl) dX7_number_31 ⟨Nat.zero_le _, Nat.zero_le _⟩ (fun r165 σ164 τ164 H locs h164 hP hS => ?_)
         obtain ⟨⟨rfl, rfl⟩, h164⟩ := h164
         rcases h164 with h166 | h167
         · obtain ⟨q169, k168⟩ := h166
           exact absurd (by omega : False) id
         · obtain ⟨q171, k170⟩ := h167
           have q171 := q171.symm
           subst q171
           refine lv_if_eq (tgt := 68) hx hb dX7_number_34 (of_decide_eq_true rfl) (fun _ => ?_) (fun c => absurd (of_decide_eq_true rfl) c)
           refine lv_iload_n hx hb dX7_number_68 rfl (lv_at hl 1 rfl) ?_
           have I172 : jI91 σ142 := jI91_fr (f145 0 (of_decide_eq_true rfl)) (f145 1 (of_decide_eq_true rfl)) hI91
           have I173 : jI92 σ142 := (show (-1) ≤ (σ142 9 2).toInt ∧ (σ142 9 2).toInt ≤ 80 by omega)
           exact by exact hret 0 σ142 τ _ _ _ _ rfl ⟨rfl, (fun i hi => (f144 i hi)), (fun i hi => (f145 i (imp_43 i hi))), I149, I172, I173, ⟨trivial, (by have h9 := jz_0; omega), ⟨0, (by have h9 := jz_0; exact Or.inl ⟨by omega, by omega, (fun d => by unfold jDg at d; omega)⟩), (by omega), (by omega)⟩⟩⟩ hP hS dX7_number_69
set_option maxHeartbeats 4000000 in
set_option maxRecDepth 100000 in
theorem c_X7_number_3 (l : Launch) (D : va_G) (cI cL : ClassId) (ad zz : Nat → Nat) (hJ : jD ad) (σ : Nat → Nat → Int32) (τ : Nat → Nat → Int64) (hI9 : jI9 σ) (hI91 : jI91 σ) (hI92 : jI92 σ) (hp0 : (σ 9 2).toInt = (-1)) : jM l yX7_number cX7_number 4 (some .int) ({ frames := 1, cells := 0, slots := 0, locals := 21 }) D cI cL ad zz [.ref (ad 9), .int 3] σ τ (fun r σ' τ' => τ = τ' ∧ (∀ i : Nat, (i < 9 ∨ 9 < i) → σ' i = σ i) ∧ (∀ k : Nat, (k < 1 ∨ 1 < k) ∧ (k < 2 ∨ 2 < k) → σ' 9 k = σ 9 k) ∧ (jI9 σ') ∧ (jI91 σ') ∧ (jI92 σ') ∧ ((True ∧ (0 ≤ r.toInt ∧ r.toInt ≤ 999) ∧ (∃ q : Int, jNb (σ 10) ((σ 9 0).toInt) ((σ 9 1).toInt) 3 q (r.toInt) ∧ ((σ' 9 1).toInt = (σ 9 1).toInt + q ∧ ((q = 0 ∧ (σ' 9 2).toInt = (σ 9 1).toInt) ∨ (1 ≤ q ∧ (σ' 9 2).toInt = -1))))))) := by
  refine jM.of hJ (by decide +kernel) (nt := .int) rfl (Nat.le_of_ble_eq_true rfl) ?_
  intro p e s m args below meth c Q ls hC hret hl hP
  obtain ⟨hx, hb, hr, hml, hown, hts, hK, -, hlocks, hZ⟩ := hC
  have hown : s.vm.findClass RX7 = some m.cls := hown
  have hS : va_S (jA ad) s.heap s.heap [] := va_S.rf
  have hA : ∀ q, jA ad q → jA ad q := fun _ h => h
  have hl : lv_has ls 4 [(0, .ref (ad 9)), (1, .int 3)] := hl
  obtain ⟨i1, w2, w3⟩ : (0 ≤ (σ 9 0).toInt ∧ (σ 9 0).toInt ≤ 80) ∧ (∀ k : Nat, k < 80 → 0 ≤ (σ 10 k).toInt ∧ (σ 10 k).toInt ≤ 255) ∧ (∀ k : Nat, k < 8 → 0 ≤ (σ 11 k).toInt ∧ (σ 11 k).toInt ≤ 3) := id hI9
  obtain ⟨i4, i5⟩ : (0 ≤ (σ 9 1).toInt) ∧ ((σ 9 1).toInt ≤ (σ 9 0).toInt) := id hI91
  have i6 : (-1) ≤ (σ 9 2).toInt ∧ (σ 9 2).toInt ≤ 80 := hI92
  refine lv_aload_n hx hb dX7_number_0 rfl (lv_at hl 0 rfl) ?_
  refine jcallV (As := []) (rest := []) ⟨hx, hb, hml, hown, hts⟩ hK hP hA hS hZ (c_X7_sign_9 l D cI cL ad zz hJ σ τ hI9) cw_RX7_35 (jc_9 cI cL ad σ τ) rfl ⟨Nat.le_of_ble_eq_true rfl, Nat.le_of_ble_eq_true rfl⟩ rfl rfl rfl hl.1 rfl (Nat.le_of_ble_eq_true rfl) dX7_number_1 ⟨Nat.zero_le _, Nat.zero_le _⟩ (fun r8 σ7 τ7 H locs h7 hP hS => ?_)
  obtain ⟨⟨rfl, rfl⟩, h7⟩ := h7
  rcases h7 with h9 | h10
  · obtain ⟨q14, k11, k12, k13⟩ := h9
    have q15 : r8 = (σ 10 (σ 9 1).toNatClampNeg) := q14.trans rfl
    have q15 := q15.symm
    subst q15
    refine jcallS (As := [.int (σ 10 (σ 9 1).toNatClampNeg)]) (rest := []) ⟨hx, hb, hml, hown, hts⟩ hK hP hA hS hZ (c_X7_isDigit l D cI cL ad zz hJ σ τ (σ 10 (σ 9 1).toNatClampNeg) ((σ 10 (σ 9 1).toNatClampNeg).toInt) rfl) cw_RX7_39 ⟨Nat.le_of_ble_eq_true rfl, Nat.le_of_ble_eq_true rfl⟩ rfl rfl rfl hl.1 rfl (Nat.le_of_ble_eq_true rfl) dX7_number_4 ⟨Nat.zero_le _, Nat.zero_le _⟩ (fun r17 σ16 τ16 H locs h16 hP hS => ?_)
    obtain ⟨⟨rfl, rfl⟩, h16⟩ := h16
    rcases h16 with h18 | h19
    · obtain ⟨q21, k20⟩ := h18
      have q21 := q21.symm
      subst q21
      refine lv_if_ne (tgt := 18) hx hb dX7_number_7 (of_decide_eq_true rfl) (fun _ => ?_) (fun c => absurd c (of_decide_eq_true rfl))
      refine lv_iconst (v := 0) hx hb dX7_number_18 (of_decide_eq_true rfl) ?_
      refine lv_istore_n (lv' := [(2, .int 0), (0, .ref (ad 9)), (1, .int 3)]) hx hb dX7_number_19 rfl hl (of_decide_eq_true rfl) rfl (fun ls hl => ?_)
      refine lv_iconst (v := 0) hx hb dX7_number_20 (of_decide_eq_true rfl) ?_
      refine lv_istore_n (lv' := [(3, .int 0), (2, .int 0), (0, .ref (ad 9)), (1, .int 3)]) hx hb dX7_number_21 rfl hl (of_decide_eq_true rfl) rfl (fun ls hl => ?_)
      refine lv_iload_n hx hb dX7_number_22 rfl (lv_at hl 0 rfl) ?_
      refine lv_iload_n hx hb dX7_number_23 rfl (lv_at hl 3 rfl) ?_
      refine lv_icmp_ge (tgt := 68) hx hb dX7_number_24 (of_decide_eq_true rfl) (fun c => absurd c (of_decide_eq_true rfl)) (fun _ => ?_)
      refine lv_aload_n hx hb dX7_number_27 rfl (lv_at hl 2 rfl) ?_
      refine jcallV (As := []) (rest := []) ⟨hx, hb, hml, hown, hts⟩ hK hP hA hS hZ (c_X7_sign_9 l D cI cL ad zz hJ σ τ hI9) cw_RX7_35 (jc_9 cI cL ad σ τ) rfl ⟨Nat.le_of_ble_eq_true rfl, Nat.le_of_ble_eq_true rfl⟩ rfl rfl rfl hl.1 rfl (Nat.le_of_ble_eq_true rfl) dX7_number_28 ⟨Nat.zero_le _, Nat.zero_le _⟩ (fun r23 σ22 τ22 H locs h22 hP hS => ?_)
      obtain ⟨⟨rfl, rfl⟩, h22⟩ := h22
      rcases h22 with h24 | h25
      · obtain ⟨q29, k26, k27, k28⟩ := h24
        have q30 : r23 = (σ 10 (σ 9 1).toNatClampNeg) := q29.trans rfl
        have q30 := q30.symm
        subst q30
        refine jcallS (As := [.int (σ 10 (σ 9 1).toNatClampNeg)]) (rest := []) ⟨hx, hb, hml, hown, hts⟩ hK hP hA hS hZ (c_X7_isDigit l D cI cL ad zz hJ σ τ (σ 10 (σ 9 1).toNatClampNeg) ((σ 10 (σ 9 1).toNatClampNeg).toInt) rfl) cw_RX7_39 ⟨Nat.le_of_ble_eq_true rfl, Nat.le_of_ble_eq_true rfl⟩ rfl rfl rfl hl.1 rfl (Nat.le_of_ble_eq_true rfl) dX7_number_31 ⟨Nat.zero_le _, Nat.zero_le _⟩ (fun r32 σ31 τ31 H locs h31 hP hS => ?_)
        obtain ⟨⟨rfl, rfl⟩, h31⟩ := h31
        rcases h31 with h33 | h34
        · obtain ⟨q36, k35⟩ := h33
          have q36 := q36.symm
          subst q36
          refine lv_if_eq (tgt := 68) hx hb dX7_number_34 (of_decide_eq_true rfl) (fun c => absurd c (of_decide_eq_true rfl)) (fun _ => ?_)
          refine lv_iload_n hx hb dX7_number_37 rfl (lv_at hl 1 rfl) ?_
          refine lv_bipush (v := 10) hx hb dX7_number_38 (of_decide_eq_true rfl) ?_
          refine lv_imul hx hb dX7_number_40 ?_
          refine jtopr (y := 0) (of_decide_eq_true rfl) ?_
          refine lv_aload_n hx hb dX7_number_41 rfl (lv_at hl 2 rfl) ?_
          refine va_get (D := D) hx hb hts inlX7 hown hK hP 9 (jc_9 cI cL ad σ τ) rfl 3 (of_decide_eq_true rfl) (hts _ kw_3_20) (fun _ h9 => h9) rfl dX7_number_42 ?_
          refine lv_aload_n hx hb dX7_number_45 rfl (lv_at hl 2 rfl) ?_
          refine lv_dup hx hb dX7_number_46 rfl ?_
          refine va_get (D := D) hx hb hts inlX7 hown hK hP 9 (jc_9 cI cL ad σ τ) rfl 1 (of_decide_eq_true rfl) (hts _ kw_13_17) (fun _ h9 => h9) rfl dX7_number_47 ?_
          refine lv_dup_x1 hx hb dX7_number_50 rfl rfl ?_
          refine lv_iconst (v := 1) hx hb dX7_number_51 (of_decide_eq_true rfl) ?_
          have g37 := jrg (rfl : (σ 9 1).toInt = (σ 9 1).toInt)
          refine lv_iadd hx hb dX7_number_52 ?_
          refine lv_topi (fun x38 ex38 => ?_)
          exact by
           have tx38 : x38.toInt = (σ 9 1).toInt + 1 := (jadd ex38 rfl jz_1 (by omega) (by omega)).trans (by omega)
           refine jput (ty := .int) hx hb hts inlX7 tyX7 tyX7_ok nmX7 hown hK hP hJ hA hS (jc_9 cI cL ad σ τ) rfl (k := 1) (of_decide_eq_true rfl) (Nat.le_of_ble_eq_true rfl) (jp_9_1 cI cL ad σ τ x38) (hts _ kw_13_17) (fun _ h9 => h9) rfl (by decide +kernel) rfl rfl dX7_number_53 (fun σ39 H locs eσ39 hP hS => ?_)
           refine jald hx hb hK hP (jc_10 cI cL ad σ39 τ) (jin rfl (by omega) (by omega)) dX7_number_56 ?_
           refine jtopr (y := (σ 10 (σ 9 1).toNatClampNeg)) (by rw [jnp 10 eσ39 (of_decide_eq_true rfl)]) ?_
           refine lv_iadd hx hb dX7_number_57 ?_
           refine jtopr (y := (σ 10 (σ 9 1).toNatClampNeg)) (by rw [Int32.zero_add]) ?_
           refine lv_bipush (v := 48) hx hb dX7_number_58 (of_decide_eq_true rfl) ?_
           have g40 := jrg (rfl : (σ 10 (σ 9 1).toNatClampNeg).toInt = (σ 10 (σ 9 1).toNatClampNeg).toInt)
           refine lv_isub hx hb dX7_number_60 ?_
           exact by
            refine lv_topi (fun x41 ex41 => ?_)
            have tx41 : x41.toInt = (σ 10 (σ 9 1).toNatClampNeg).toInt - 48 := (jsub ex41 rfl jz_48 (by omega) (by omega)).trans (by omega)
            refine lv_istore_n (lv' := [(2, .int x41), (3, .int 0), (0, .ref (ad 9)), (1, .int 3)]) hx hb dX7_number_61 rfl hl (of_decide_eq_true rfl) rfl (fun ls hl => ?_)
            refine lv_iinc (v := 1) (lv' := [(3, .int 1), (2, .int x41), (0, .ref (ad 9)), (1, .int 3)]) hx hb dX7_number_62 hl (k := 1) rfl (of_decide_eq_true rfl) (of_decide_eq_true rfl) rfl (fun ls hl => ?_)
            refine lv_goto (tgt := 22) hx hb dX7_number_65 (of_decide_eq_true rfl) ?_
            refine lv_iload_n hx hb dX7_number_22 rfl (lv_at hl 0 rfl) ?_
            refine lv_iload_n hx hb dX7_number_23 rfl (lv_at hl 3 rfl) ?_
            refine lv_icmp_ge (tgt := 68) hx hb dX7_number_24 (of_decide_eq_true rfl) (fun c => absurd c (of_decide_eq_true rfl)) (fun _ => ?_)
            refine lv_aload_n hx hb dX7_number_27 rfl (lv_at hl 2 rfl) ?_
            exact by
             have I42 : jI9 σ39 := jI9_fr (jkp 0 eσ39 (of_decide_eq_true rfl)) (jnp 10 eσ39 (of_decide_eq_true rfl)) (jnp 11 eσ39 (of_decide_eq_true rfl)) hI9
             have z43 : (σ39 9 1).toInt = (σ 9 1).toInt + 1 := ((congrArg Int32.toInt (show σ39 9 1 = x38 from (jsp eσ39))).trans tx38)
             have z44 : (σ39 9 0).toInt = (σ 9 0).toInt := (congrArg Int32.toInt (show σ39 9 0 = (σ 9 0) from (jkp 0 eσ39 (of_decide_eq_true rfl))))
             refine jcallV (As := []) (rest := []) ⟨hx, hb, hml, hown, hts⟩ hK hP hA hS hZ (c_X7_sign_9 l D cI cL ad zz hJ σ39 τ I42) cw_RX7_35 (jc_9 cI cL ad σ39 τ) rfl ⟨Nat.le_of_ble_eq_true rfl, Nat.le_of_ble_eq_true rfl⟩ rfl rfl rfl hl.1 rfl (Nat.le_of_ble_eq_true rfl) dX7_number_28 ⟨Nat.zero_le _, Nat.zero_le _⟩ (fun r46 σ45 τ45 H locs h45 hP hS => ?_)
             obtain ⟨⟨rfl, rfl⟩, h45⟩ := h45
             rcases h45 with h47 | h48
             · obtain ⟨q52, k49, k50, k51⟩ := h47
               have q53 : r46 = (σ 10 x38.toNatClampNeg) := q52.trans (by rw [(show σ39 9 1 = x38 from (jsp eσ39)), jnp 10 eσ39 (of_decide_eq_true rfl)])
               have q53e : (σ39 10 (σ39 9 1).toNatClampNeg).toInt = (σ 10 x38.toNatClampNeg).toInt := by rw [← q52, ← q53]
               exact by
                have q53 := q53.symm
                subst q53
                try rw [show (σ39 9 1).toInt = (σ 9 1).toInt + 1 from by omega] at k51
                try rw [show (σ39 9 0).toInt = (σ 9 0).toInt from by omega] at k51
                try rw [show σ39 10 = σ 10 from (jnp 10 eσ39 (of_decide_eq_true rfl))] at k51
                refine jcallS (As := [.int (σ 10 x38.toNatClampNeg)]) (rest := []) ⟨hx, hb, hml, hown, hts⟩ hK hP hA hS hZ (c_X7_isDigit l D cI cL ad zz hJ σ39 τ (σ 10 x38.toNatClampNeg) ((σ 10 x38.toNatClampNeg).toInt) rfl) cw_RX7_39 ⟨Nat.le_of_ble_eq_true rfl, Nat.le_of_ble_eq_true rfl⟩ rfl rfl rfl hl.1 rfl (Nat.le_of_ble_eq_true rfl) dX7_number_31 ⟨Nat.zero_le _, Nat.zero_le _⟩ (fun r55 σ54 τ54 H locs h54 hP hS => ?_)
                obtain ⟨⟨rfl, rfl⟩, h54⟩ := h54
                rcases h54 with h56 | h57
                · obtain ⟨q59, k58⟩ := h56
                  have q59 := q59.symm
                  subst q59
                  refine lv_if_eq (tgt := 68) hx hb dX7_number_34 (of_decide_eq_true rfl) (fun c => absurd c (of_decide_eq_true rfl)) (fun _ => ?_)
                  refine lv_iload_n hx hb dX7_number_37 rfl (lv_at hl 1 rfl) ?_
                  refine lv_bipush (v := 10) hx hb dX7_number_38 (of_decide_eq_true rfl) ?_
                  refine lv_imul hx hb dX7_number_40 ?_
                  refine lv_topi (fun x60 ex60 => ?_)
                  exact by
                   have tx60 : x60.toInt = 10 * (σ 10 (σ 9 1).toNatClampNeg).toInt - 480 := (jmul ex60 tx41 jz_10 (by omega) (by omega)).trans (by omega)
                   refine lv_aload_n hx hb dX7_number_41 rfl (lv_at hl 2 rfl) ?_
                   refine va_get (D := D) hx hb hts inlX7 hown hK hP 9 (jc_9 cI cL ad σ39 τ) rfl 3 (of_decide_eq_true rfl) (hts _ kw_3_20) (fun _ h9 => h9) rfl dX7_number_42 ?_
                   refine lv_aload_n hx hb dX7_number_45 rfl (lv_at hl 2 rfl) ?_
                   refine lv_dup hx hb dX7_number_46 rfl ?_
                   refine va_get (D := D) hx hb hts inlX7 hown hK hP 9 (jc_9 cI cL ad σ39 τ) rfl 1 (of_decide_eq_true rfl) (hts _ kw_13_17) (fun _ h9 => h9) rfl dX7_number_47 ?_
                   have m61 : σ39 9 1 = x38 := (jsp eσ39)
                   refine jtopr m61 ?_
                   refine lv_dup_x1 hx hb dX7_number_50 rfl rfl ?_
                   refine lv_iconst (v := 1) hx hb dX7_number_51 (of_decide_eq_true rfl) ?_
                   refine lv_iadd hx hb dX7_number_52 ?_
                   refine lv_topi (fun x62 ex62 => ?_)
                   exact by
                    have tx62 : x62.toInt = (σ 9 1).toInt + 2 := (jadd ex62 tx38 jz_1 (by omega) (by omega)).trans (by omega)
                    refine jput (ty := .int) hx hb hts inlX7 tyX7 tyX7_ok nmX7 hown hK hP hJ hA hS (jc_9 cI cL ad σ39 τ) rfl (k := 1) (of_decide_eq_true rfl) (Nat.le_of_ble_eq_true rfl) (jp_9_1 cI cL ad σ39 τ x62) (hts _ kw_13_17) (fun _ h9 => h9) rfl (by decide +kernel) rfl rfl dX7_number_53 (fun σ63 H locs eσ63 hP hS => ?_)
                    refine jald hx hb hK hP (jc_10 cI cL ad σ63 τ) (jin tx38 (by omega) (by omega)) dX7_number_56 ?_
                    refine jtopr (y := (σ 10 x38.toNatClampNeg)) (by rw [jnp 10 eσ63 (of_decide_eq_true rfl), jnp 10 eσ39 (of_decide_eq_true rfl)]) ?_
                    have g64 := jrg (rfl : (σ 10 x38.toNatClampNeg).toInt = (σ 10 x38.toNatClampNeg).toInt)
                    refine lv_iadd hx hb dX7_number_57 ?_
                    refine lv_topi (fun x65 ex65 => ?_)
                    have tx65 : x65.toInt = 10 * (σ 10 (σ 9 1).toNatClampNeg).toInt + (σ 10 x38.toNatClampNeg).toInt - 480 := (jadd ex65 tx60 rfl (by omega) (by omega)).trans (by omega)
                    refine lv_bipush (v := 48) hx hb dX7_number_58 (of_decide_eq_true rfl) ?_
                    exact by
                     refine lv_isub hx hb dX7_number_60 ?_
                     refine lv_topi (fun x66 ex66 => ?_)
                     have tx66 : x66.toInt = 10 * (σ 10 (σ 9 1).toNatClampNeg).toInt + (σ 10 x38.toNatClampNeg).toInt - 528 := (jsub ex66 tx65 jz_48 (by omega) (by omega)).trans (by omega)
                     refine lv_istore_n (lv' := [(2, .int x66), (3, .int 1), (0, .ref (ad 9)), (1, .int 3)]) hx hb dX7_number_61 rfl hl (of_decide_eq_true rfl) rfl (fun ls hl => ?_)
                     refine lv_iinc (v := 2) (lv' := [(3, .int 2), (2, .int x66), (0, .ref (ad 9)), (1, .int 3)]) hx hb dX7_number_62 hl (k := 1) rfl (of_decide_eq_true rfl) (of_decide_eq_true rfl) rfl (fun ls hl => ?_)
                     refine lv_goto (tgt := 22) hx hb dX7_number_65 (of_decide_eq_true rfl) ?_
                     refine lv_iload_n hx hb dX7_number_22 rfl (lv_at hl 0 rfl) ?_
                     refine lv_iload_n hx hb dX7_number_23 rfl (lv_at hl 3 rfl) ?_
                     refine lv_icmp_ge (tgt := 68) hx hb dX7_number_24 (of_decide_eq_true rfl) (fun c => absurd c (of_decide_eq_true rfl)) (fun _ => ?_)
                     exact by
                      refine lv_aload_n hx hb dX7_number_27 rfl (lv_at hl 2 rfl) ?_
                      have I67 : jI9 σ63 := jI9_fr (jkp 0 eσ63 (of_decide_eq_true rfl)) (jnp 10 eσ63 (of_decide_eq_true rfl)) (jnp 11 eσ63 (of_decide_eq_true rfl)) I42
                      have z68 : (σ63 9 1).toInt = (σ 9 1).toInt + 2 := ((congrArg Int32.toInt (show σ63 9 1 = x62 from (jsp eσ63))).trans tx62)
                      have z69 : (σ63 9 0).toInt = (σ 9 0).toInt := (congrArg Int32.toInt (show σ63 9 0 = (σ 9 0) from ((jkp 0 eσ63 (of_decide_eq_true rfl)).trans (jkp 0 eσ39 (of_decide_eq_true rfl)))))
                      refine jcallV (As := []) (rest := []) ⟨hx, hb, hml, hown, hts⟩ hK hP hA hS hZ (c_X7_sign_9 l D cI cL ad zz hJ σ63 τ I67) cw_RX7_35 (jc_9 cI cL ad σ63 τ) rfl ⟨Nat.le_of_ble_eq_true rfl, Nat.le_of_ble_eq_true rfl⟩ rfl rfl rfl hl.1 rfl (Nat.le_of_ble_eq_true rfl) dX7_number_28 ⟨Nat.zero_le _, Nat.zero_le _⟩ (fun r71 σ70 τ70 H locs h70 hP hS => ?_)
                      obtain ⟨⟨rfl, rfl⟩, h70⟩ := h70
                      rcases h70 with h72 | h73
                      · obtain ⟨q77, k74, k75, k76⟩ := h72
                        have q78 : r71 = (σ 10 x62.toNatClampNeg) := q77.trans (by rw [(show σ63 9 1 = x62 from (jsp eσ63)), jnp 10 eσ63 (of_decide_eq_true rfl), jnp 10 eσ39 (of_decide_eq_true rfl)])
                        exact by
                         have q78e : (σ63 10 (σ63 9 1).toNatClampNeg).toInt = (σ 10 x62.toNatClampNeg).toInt := by rw [← q77, ← q78]
                         have q78 := q78.symm
                         subst q78
                         try rw [show (σ63 9 1).toInt = (σ 9 1).toInt + 2 from by omega] at k76
                         try rw [show (σ63 9 0).toInt = (σ 9 0).toInt from by omega] at k76
                         try rw [show σ63 10 = σ 10 from ((jnp 10 eσ63 (of_decide_eq_true rfl)).trans (jnp 10 eσ39 (of_decide_eq_true rfl)))] at k76
                         refine jcallS (As := [.int (σ 10 x62.toNatClampNeg)]) (rest := []) ⟨hx, hb, hml, hown, hts⟩ hK hP hA hS hZ (c_X7_isDigit l D cI cL ad zz hJ σ63 τ (σ 10 x62.toNatClampNeg) ((σ 10 x62.toNatClampNeg).toInt) rfl) cw_RX7_39 ⟨Nat.le_of_ble_eq_true rfl, Nat.le_of_ble_eq_true rfl⟩ rfl rfl rfl hl.1 rfl (Nat.le_of_ble_eq_true rfl) dX7_number_31 ⟨Nat.zero_le _, Nat.zero_le _⟩ (fun r80 σ79 τ79 H locs h79 hP hS => ?_)
                         obtain ⟨⟨rfl, rfl⟩, h79⟩ := h79
                         rcases h79 with h81 | h82
                         · obtain ⟨q84, k83⟩ := h81
                           have q84 := q84.symm
                           subst q84
                           refine lv_if_eq (tgt := 68) hx hb dX7_number_34 (of_decide_eq_true rfl) (fun c => absurd c (of_decide_eq_true rfl)) (fun _ => ?_)
                           refine lv_iload_n hx hb dX7_number_37 rfl (lv_at hl 1 rfl) ?_
                           refine lv_bipush (v := 10) hx hb dX7_number_38 (of_decide_eq_true rfl) ?_
                           refine lv_imul hx hb dX7_number_40 ?_
                           refine lv_topi (fun x85 ex85 => ?_)
                           exact by
                            have tx85 : x85.toInt = 100 * (σ 10 (σ 9 1).toNatClampNeg).toInt + 10 * (σ 10 x38.toNatClampNeg).toInt - 5280 := (jmul ex85 tx66 jz_10 (by omega) (by omega)).trans (by omega)
                            refine lv_aload_n hx hb dX7_number_41 rfl (lv_at hl 2 rfl) ?_
                            refine va_get (D := D) hx hb hts inlX7 hown hK hP 9 (jc_9 cI cL ad σ63 τ) rfl 3 (of_decide_eq_true rfl) (hts _ kw_3_20) (fun _ h9 => h9) rfl dX7_number_42 ?_
                            refine lv_aload_n hx hb dX7_number_45 rfl (lv_at hl 2 rfl) ?_
                            refine lv_dup hx hb dX7_number_46 rfl ?_
                            refine va_get (D := D) hx hb hts inlX7 hown hK hP 9 (jc_9 cI cL ad σ63 τ) rfl 1 (of_decide_eq_true rfl) (hts _ kw_13_17) (fun _ h9 => h9) rfl dX7_number_47 ?_
                            have m86 : σ63 9 1 = x62 := (jsp eσ63)
                            refine jtopr m86 ?_
                            refine lv_dup_x1 hx hb dX7_number_50 rfl rfl ?_
                            refine lv_iconst (v := 1) hx hb dX7_number_51 (of_decide_eq_true rfl) ?_
                            refine lv_iadd hx hb dX7_number_52 ?_
                            refine lv_topi (fun x87 ex87 => ?_)
                            exact by
                             have tx87 : x87.toInt = (σ 9 1).toInt + 3 := (jadd ex87 tx62 jz_1 (by omega) (by omega)).trans (by omega)
                             refine jput (ty := .int) hx hb hts inlX7 tyX7 tyX7_ok nmX7 hown hK hP hJ hA hS (jc_9 cI cL ad σ63 τ) rfl (k := 1) (of_decide_eq_true rfl) (Nat.le_of_ble_eq_true rfl) (jp_9_1 cI cL ad σ63 τ x87) (hts _ kw_13_17) (fun _ h9 => h9) rfl (by decide +kernel) rfl rfl dX7_number_53 (fun σ88 H locs eσ88 hP hS => ?_)
                             refine jald hx hb hK hP (jc_10 cI cL ad σ88 τ) (jin tx62 (by omega) (by omega)) dX7_number_56 ?_
                             refine jtopr (y := (σ 10 x62.toNatClampNeg)) (by rw [jnp 10 eσ88 (of_decide_eq_true rfl), jnp 10 eσ63 (of_decide_eq_true rfl), jnp 10 eσ39 (of_decide_eq_true rfl)]) ?_
                             have g89 := jrg (rfl : (σ 10 x62.toNatClampNeg).toInt = (σ 10 x62.toNatClampNeg).toInt)
                             refine lv_iadd hx hb dX7_number_57 ?_
                             refine lv_topi (fun x90 ex90 => ?_)
                             have tx90 : x90.toInt = 100 * (σ 10 (σ 9 1).toNatClampNeg).toInt + 10 * (σ 10 x38.toNatClampNeg).toInt + (σ 10 x62.toNatClampNeg).toInt - 5280 := (jadd ex90 tx85 rfl (by omega) (by omega)).trans (by omega)
                             refine lv_bipush (v := 48) hx hb dX7_number_58 (of_decide_eq_true rfl) ?_
                             exact by
                              refine lv_isub hx hb dX7_number_60 ?_
                              refine lv_topi (fun x91 ex91 => ?_)
                              have tx91 : x91.toInt = 100 * (σ 10 (σ 9 1).toNatClampNeg).toInt + 10 * (σ 10 x38.toNatClampNeg).toInt + (σ 10 x62.toNatClampNeg).toInt - 5328 := (jsub ex91 tx90 jz_48 (by omega) (by omega)).trans (by omega)
                              refine lv_istore_n (lv' := [(2, .int x91), (3, .int 2), (0, .ref (ad 9)), (1, .int 3)]) hx hb dX7_number_61 rfl hl (of_decide_eq_true rfl) rfl (fun ls hl => ?_)
                              refine lv_iinc (v := 3) (lv' := [(3, .int 3), (2, .int x91), (0, .ref (ad 9)), (1, .int 3)]) hx hb dX7_number_62 hl (k := 1) rfl (of_decide_eq_true rfl) (of_decide_eq_true rfl) rfl (fun ls hl => ?_)
                              refine lv_goto (tgt := 22) hx hb dX7_number_65 (of_decide_eq_true rfl) ?_
                              refine lv_iload_n hx hb dX7_number_22 rfl (lv_at hl 0 rfl) ?_
                              refine lv_iload_n hx hb dX7_number_23 rfl (lv_at hl 3 rfl) ?_
                              refine lv_icmp_ge (tgt := 68) hx hb dX7_number_24 (of_decide_eq_true rfl) (fun _ => ?_) (fun c => absurd (of_decide_eq_true rfl) c)
                              exact by
                               refine lv_iload_n hx hb dX7_number_68 rfl (lv_at hl 1 rfl) ?_
                               have I92 : jI9 σ88 := jI9_fr (jkp 0 eσ88 (of_decide_eq_true rfl)) (jnp 10 eσ88 (of_decide_eq_true rfl)) (jnp 11 eσ88 (of_decide_eq_true rfl)) I67
                               have z93 : (σ88 9 1).toInt = (σ 9 1).toInt + 3 := ((congrArg Int32.toInt (show σ88 9 1 = x87 from (jsp eσ88))).trans tx87)
                               have z94 : (σ88 9 0).toInt = (σ 9 0).toInt := (congrArg Int32.toInt (show σ88 9 0 = (σ 9 0) from ((jkp 0 eσ88 (of_decide_eq_true rfl)).trans ((jkp 0 eσ63 (of_decide_eq_true rfl)).trans (jkp 0 eσ39 (of_decide_eq_true rfl))))))
                               have I95 : jI91 σ88 := ⟨(by omega), (by omega)⟩
                               have I96 : jI92 σ88 := jI92_fr ((jkp 2 eσ88 (of_decide_eq_true rfl)).trans ((jkp 2 eσ63 (of_decide_eq_true rfl)).trans (jkp 2 eσ39 (of_decide_eq_true rfl)))) hI92
                               have z97 : (σ88 9 2).toInt = (σ 9 2).toInt := (congrArg Int32.toInt (show σ88 9 2 = (σ 9 2) from ((jkp 2 eσ88 (of_decide_eq_true rfl)).trans ((jkp 2 eσ63 (of_decide_eq_true rfl)).trans (jkp 2 eσ39 (of_decide_eq_true rfl))))))
                               exact by exact hret x91 σ88 τ _ _ _ _ rfl ⟨rfl, (fun i hi => ((jnp i eσ88 (imp_37 i hi)).trans ((jnp i eσ63 (imp_37 i hi)).trans (jnp i eσ39 (imp_37 i hi))))), (fun i hi => ((jkp i eσ88 (imp_39 i hi)).trans ((jkp i eσ63 (imp_39 i hi)).trans (jkp i eσ39 (imp_39 i hi))))), I92, I95, I96, ⟨trivial, (by have h9 := tx91; omega), ⟨3, (by have i0 := jix (f := σ 10) (show (σ 9 1).toInt = (σ 9 1).toInt by omega); have p1 := tx38; have i1 := jix (f := σ 10) (show x38.toInt = (σ 9 1).toInt + 1 by omega); have p2 := tx62; have i2 := jix (f := σ 10) (show x62.toInt = (σ 9 1).toInt + 2 by omega); have h9 := tx91; exact Or.inr (Or.inr (Or.inr ⟨by omega, rfl, ⟨by omega, by omega, by omega⟩, ⟨by omega, by omega, by omega⟩, ⟨by omega, by omega, by omega⟩, by omega⟩))), (by omega), (by omega)⟩⟩⟩ hP hS dX7_number_69
                         · obtain ⟨q99, k98⟩ := h82
                           exact by
                            have q99 := q99.symm
                            subst q99
                            refine lv_if_eq (tgt := 68) hx hb dX7_number_34 (of_decide_eq_true rfl) (fun _ => ?_) (fun c => absurd (of_decide_eq_true rfl) c)
                            refine lv_iload_n hx hb dX7_number_68 rfl (lv_at hl 1 rfl) ?_
                            have I100 : jI91 σ63 := ⟨(by omega), (by omega)⟩
                            have I101 : jI92 σ63 := jI92_fr ((jkp 2 eσ63 (of_decide_eq_true rfl)).trans (jkp 2 eσ39 (of_decide_eq_true rfl))) hI92
                            have z102 : (σ63 9 2).toInt = (σ 9 2).toInt := (congrArg Int32.toInt (show σ63 9 2 = (σ 9 2) from ((jkp 2 eσ63 (of_decide_eq_true rfl)).trans (jkp 2 eσ39 (of_decide_eq_true rfl)))))
                            exact by exact hret x66 σ63 τ _ _ _ _ rfl ⟨rfl, (fun i hi => ((jnp i eσ63 (imp_37 i hi)).trans (jnp i eσ39 (imp_37 i hi)))), (fun i hi => ((jkp i eσ63 (imp_39 i hi)).trans (jkp i eσ39 (imp_39 i hi)))), I67, I100, I101, ⟨trivial, (by have h9 := tx66; omega), ⟨2, (by have i0 := jix (f := σ 10) (show (σ 9 1).toInt = (σ 9 1).toInt by omega); have p1 := tx38; have i1 := jix (f := σ 10) (show x38.toInt = (σ 9 1).toInt + 1 by omega); have p2 := tx62; have i2 := jix (f := σ 10) (show x62.toInt = (σ 9 1).toInt + 2 by omega); have h9 := tx66; exact Or.inr (Or.inr (Or.inl ⟨by omega, ⟨by omega, by omega, by omega⟩, ⟨by omega, by omega, by omega⟩, Or.inr (fun d => by unfold jDg at d; omega), by omega⟩))), (by omega), (by omega)⟩⟩⟩ hP hS dX7_number_69
                      · obtain ⟨q105, k103, k104⟩ := h73
                        exact by
                         have q105 := q105.symm
                         subst q105
                         try rw [show (σ63 9 1).toInt = (σ 9 1).toInt + 2 from by omega] at k104
                         try rw [show (σ63 9 0).toInt = (σ 9 0).toInt from by omega] at k104
                         try rw [show σ63 10 = σ 10 from ((jnp 10 eσ63 (of_decide_eq_true rfl)).trans (jnp 10 eσ39 (of_decide_eq_true rfl)))] at k104
                         refine jcallS (As := [.int (-1)]) (rest := []) ⟨hx, hb, hml, hown, hts⟩ hK hP hA hS hZ (c_X7_isDigit l D cI cL ad zz hJ σ63 τ (-1) ((-1)) jz_m1) cw_RX7_39 ⟨Nat.le_of_ble_eq_true rfl, Nat.le_of_ble_eq_true rfl⟩ rfl rfl rfl hl.1 rfl (Nat.le_of_ble_eq_true rfl) dX7_number_31 ⟨Nat.zero_le _, Nat.zero_le _⟩ (fun r107 σ106 τ106 H locs h106 hP hS => ?_)
                         obtain ⟨⟨rfl, rfl⟩, h106⟩ := h106
                         rcases h106 with h108 | h109
                         · obtain ⟨q111, k110⟩ := h108
                           exact absurd (by omega : False) id
                         · obtain ⟨q113, k112⟩ := h109
                           have q113 := q113.symm
                           subst q113
                           refine lv_if_eq (tgt := 68) hx hb dX7_number_34 (of_decide_eq_true rfl) (fun _ => ?_) (fun c => absurd (of_decide_eq_true rfl) c)
                           refine lv_iload_n hx hb dX7_number_68 rfl (lv_at hl 1 rfl) ?_
                           exact by
                            have I114 : jI91 σ63 := ⟨(by omega), (by omega)⟩
                            have I115 : jI92 σ63 := jI92_fr ((jkp 2 eσ63 (of_decide_eq_true rfl)).trans (jkp 2 eσ39 (of_decide_eq_true rfl))) hI92
                            have z116 : (σ63 9 2).toInt = (σ 9 2).toInt := (congrArg Int32.toInt (show σ63 9 2 = (σ 9 2) from ((jkp 2 eσ63 (of_decide_eq_true rfl)).trans (jkp 2 eσ39 (of_decide_eq_true rfl)))))
                            exact by exact hret x66 σ63 τ _ _ _ _ rfl ⟨rfl, (fun i hi => ((jnp i eσ63 (imp_37 i hi)).trans (jnp i eσ39 (imp_37 i hi)))), (fun i hi => ((jkp i eσ63 (imp_39 i hi)).trans (jkp i eσ39 (imp_39 i hi)))), I67, I114, I115, ⟨trivial, (by have h9 := tx66; omega), ⟨2, (by have i0 := jix (f := σ 10) (show (σ 9 1).toInt = (σ 9 1).toInt by omega); have p1 := tx38; have i1 := jix (f := σ 10) (show x38.toInt = (σ 9 1).toInt + 1 by omega); have h9 := tx66; exact Or.inr (Or.inr (Or.inl ⟨by omega, ⟨by omega, by omega, by omega⟩, ⟨by omega, by omega, by omega⟩, Or.inr (fun d => by unfold jDg at d; omega), by omega⟩))), (by omega), (by omega)⟩⟩⟩ hP hS dX7_number_69
                · obtain ⟨q118, k117⟩ := h57
                  have q118 := q118.symm
                  subst q118
                  refine lv_if_eq (tgt := 68) hx hb dX7_number_34 (of_decide_eq_true rfl) (fun _ => ?_) (fun c => absurd (of_decide_eq_true rfl) c)
                  refine lv_iload_n hx hb dX7_number_68 rfl (lv_at hl 1 rfl) ?_
                  exact by
                   have I119 : jI91 σ39 := ⟨(by omega), (by omega)⟩
                   have I120 : jI92 σ39 := jI92_fr (jkp 2 eσ39 (of_decide_eq_true rfl)) hI92
                   have z121 : (σ39 9 2).toInt = (σ 9 2).toInt := (congrArg Int32.toInt (show σ39 9 2 = (σ 9 2) from (jkp 2 eσ39 (of_decide_eq_true rfl))))
                   exact by exact hret x41 σ39 τ _ _ _ _ rfl ⟨rfl, (fun i hi => (jnp i eσ39 (imp_37 i hi))), (fun i hi => (jkp i eσ39 (imp_39 i hi))), I42, I119, I120, ⟨trivial, (by have h9 := tx41; omega), ⟨1, (by have i0 := jix (f := σ 10) (show (σ 9 1).toInt = (σ 9 1).toInt by omega); have p1 := tx38; have i1 := jix (f := σ 10) (show x38.toInt = (σ 9 1).toInt + 1 by omega); have h9 := tx41; exact Or.inr (Or.inl ⟨by omega, ⟨by omega, by omega, by omega⟩, (fun d => by unfold jDg at d; omega), by omega⟩)), (by omega), (by omega)⟩⟩⟩ hP hS dX7_number_69
             · obtain ⟨q124, k122, k123⟩ := h48
               have q124 := q124.symm
               subst q124
               try rw [show (σ39 9 1).toInt = (σ 9 1).toInt + 1 from by omega] at k123
               try rw [show (σ39 9 0).toInt = (σ 9 0).toInt from by omega] at k123
               try rw [show σ39 10 = σ 10 from (jnp 10 eσ39 (of_decide_eq_true rfl))] at k123
               refine jcallS (As := [.int (-1)]) (rest := []) ⟨hx, hb, hml, hown, hts⟩ hK hP hA hS hZ (c_X7_isDigit l D cI cL ad zz hJ σ39 τ (-1) ((-1)) jz_m1) cw_RX7_39 ⟨Nat.le_of_ble_eq_true rfl, Nat.le_of_ble_eq_true rfl⟩ rfl rfl rfl hl.1 rfl (Nat.le_of_ble_eq_true rfl) dX7_number_31 ⟨Nat.zero_le _, Nat.zero_le _⟩ (fun r126 σ125 τ125 H locs h125 hP hS => ?_)
               obtain ⟨⟨rfl, rfl⟩, h125⟩ := h125
               rcases h125 with h127 | h128
               · obtain ⟨q130, k129⟩ := h127
                 exact absurd (by omega : False) id
               · obtain ⟨q132, k131⟩ := h128
                 have q132 := q132.symm
                 subst q132
                 refine lv_if_eq (tgt := 68) hx hb dX7_number_34 (of_decide_eq_true rfl) (fun _ => ?_) (fun c => absurd (of_decide_eq_true rfl) c)
                 refine lv_iload_n hx hb dX7_number_68 rfl (lv_at hl 1 rfl) ?_
                 exact by
                  have I133 : jI91 σ39 := ⟨(by omega), (by omega)⟩
                  have I134 : jI92 σ39 := jI92_fr (jkp 2 eσ39 (of_decide_eq_true rfl)) hI92
                  have z135 : (σ39 9 2).toInt = (σ 9 2).toInt := (congrArg Int32.toInt (show σ39 9 2 = (σ 9 2) from (jkp 2 eσ39 (of_decide_eq_true rfl))))
                  exact by exact hret x41 σ39 τ _ _ _ _ rfl ⟨rfl, (fun i hi => (jnp i eσ39 (imp_37 i hi))), (fun i hi => (jkp i eσ39 (imp_39 i hi))), I42, I133, I134, ⟨trivial, (by have h9 := tx41; omega), ⟨1, (by have i0 := jix (f := σ 10) (show (σ 9 1).toInt = (σ 9 1).toInt by omega); have h9 := tx41; exact Or.inr (Or.inl ⟨by omega, ⟨by omega, by omega, by omega⟩, (fun d => by unfold jDg at d; omega), by omega⟩)), (by omega), (by omega)⟩⟩⟩ hP hS dX7_number_69
        · obtain ⟨q137, k136⟩ := h34
          exact absurd (by omega : False) id
      · obtain ⟨q140, k138, k139⟩ := h25
        exact absurd (by omega : False) id
    · obtain ⟨q142, k141⟩ := h19
      have q142 := q142.symm
      subst q142
      refine lv_if_ne (tgt := 18) hx hb dX7_number_7 (of_decide_eq_true rfl) (fun c => absurd (of_decide_eq_true rfl) c) (fun _ => ?_)
      refine lv_aload_n hx hb dX7_number_10 rfl (lv_at hl 0 rfl) ?_
      refine lv_aload_n hx hb dX7_number_11 rfl (lv_at hl 0 rfl) ?_
      refine va_get (D := D) hx hb hts inlX7 hown hK hP 9 (jc_9 cI cL ad σ τ) rfl 1 (of_decide_eq_true rfl) (hts _ kw_13_17) (fun _ h9 => h9) rfl dX7_number_12 ?_
      exact by
       refine jcallVv (As := [.int (σ 9 1)]) (rest := []) ⟨hx, hb, hml, hown, hts⟩ hK hP hA hS hZ (c_X7_fail_9 l D cI cL ad zz hJ σ τ (σ 9 1) ((σ 9 1).toInt) rfl hI92 (by omega)) cw_RX7_43 (jc_9 cI cL ad σ τ) rfl ⟨Nat.le_of_ble_eq_true rfl, Nat.le_of_ble_eq_true rfl⟩ rfl rfl rfl hl.1 rfl (Nat.le_of_ble_eq_true rfl) dX7_number_15 ⟨Nat.zero_le _, Nat.zero_le _⟩ (fun σ143 τ143 H locs h143 hP hS => ?_)
       obtain ⟨rfl, f145, f146, h143⟩ := h143
       obtain ⟨k148, k149, h143⟩ := h143
       refine lv_iconst (v := 0) hx hb dX7_number_18 (of_decide_eq_true rfl) ?_
       refine lv_istore_n (lv' := [(2, .int 0), (0, .ref (ad 9)), (1, .int 3)]) hx hb dX7_number_19 rfl hl (of_decide_eq_true rfl) rfl (fun ls hl => ?_)
       refine lv_iconst (v := 0) hx hb dX7_number_20 (of_decide_eq_true rfl) ?_
       refine lv_istore_n (lv' := [(3, .int 0), (2, .int 0), (0, .ref (ad 9)), (1, .int 3)]) hx hb dX7_number_21 rfl hl (of_decide_eq_true rfl) rfl (fun ls hl => ?_)
       refine lv_iload_n hx hb dX7_number_22 rfl (lv_at hl 0 rfl) ?_
       refine lv_iload_n hx hb dX7_number_23 rfl (lv_at hl 3 rfl) ?_
       refine lv_icmp_ge (tgt := 68) hx hb dX7_number_24 (of_decide_eq_true rfl) (fun c => absurd c (of_decide_eq_true rfl)) (fun _ => ?_)
       refine lv_aload_n hx hb dX7_number_27 rfl (lv_at hl 2 rfl) ?_
       have I150 : jI9 σ143 := jI9_fr (f146 0 (of_decide_eq_true rfl)) (f145 10 (of_decide_eq_true rfl)) (f145 11 (of_decide_eq_true rfl)) hI9
       have z151 : (σ143 9 1).toInt = (σ 9 1).toInt := (congrArg Int32.toInt (show σ143 9 1 = (σ 9 1) from (f146 1 (of_decide_eq_true rfl))))
       have z152 : (σ143 9 0).toInt = (σ 9 0).toInt := (congrArg Int32.toInt (show σ143 9 0 = (σ 9 0) from (f146 0 (of_decide_eq_true rfl))))
       refine jcallV (As := []) (rest := []) ⟨hx, hb, hml, hown, hts⟩ hK hP hA hS hZ (c_X7_sign_9 l D cI cL ad zz hJ σ143 τ I150) cw_RX7_35 (jc_9 cI cL ad σ143 τ) rfl ⟨Nat.le_of_ble_eq_true rfl, Nat.le_of_ble_eq_true rfl⟩ rfl rfl rfl hl.1 rfl (Nat.le_of_ble_eq_true rfl) dX7_number_28 ⟨Nat.zero_le _, Nat.zero_le _⟩ (fun r154 σ153 τ153 H locs h153 hP hS => ?_)
       obtain ⟨⟨rfl, rfl⟩, h153⟩ := h153
       rcases h153 with h155 | h156
       · obtain ⟨q160, k157, k158, k159⟩ := h155
         exact by
          have q161 : r154 = (σ 10 (σ 9 1).toNatClampNeg) := q160.trans (by rw [(show σ143 9 1 = (σ 9 1) from (f146 1 (of_decide_eq_true rfl))), f145 10 (of_decide_eq_true rfl)])
          have q161e : (σ143 10 (σ143 9 1).toNatClampNeg).toInt = (σ 10 (σ 9 1).toNatClampNeg).toInt := by rw [← q160, ← q161]
          have q161 := q161.symm
          subst q161
          try rw [show (σ143 9 1).toInt = (σ 9 1).toInt from by omega] at k159
          try rw [show (σ143 9 0).toInt = (σ 9 0).toInt from by omega] at k159
          try rw [show σ143 10 = σ 10 from (f145 10 (of_decide_eq_true rfl))] at k159
          refine jcallS (As := [.int (σ 10 (σ 9 1).toNatClampNeg)]) (rest := []) ⟨hx, hb, hml, hown, hts⟩ hK hP hA hS hZ (c_X7_isDigit l D cI cL ad zz hJ σ143 τ (σ 10 (σ 9 1).toNatClampNeg) ((σ 10 (σ 9 1).toNatClampNeg).toInt) rfl) cw_RX7_39 ⟨Nat.le_of_ble_eq_true rfl, Nat.le_of_ble_eq_true rfl⟩ rfl rfl rfl hl.1 rfl (Nat.le_of_ble_eq_true rfl) dX7_number_31 ⟨Nat.zero_le _, Nat.zero_le _⟩ (fun r163 σ162 τ162 H locs h162 hP hS => ?_)
          obtain ⟨⟨rfl, rfl⟩, h162⟩ := h162
          rcases h162 with h164 | h165
          · obtain ⟨q167, k166⟩ := h164
            exact absurd (by omega : False) id
          · obtain ⟨q169, k168⟩ := h165
            have q169 := q169.symm
            subst q169
            refine lv_if_eq (tgt := 68) hx hb dX7_number_34 (of_decide_eq_true rfl) (fun _ => ?_) (fun c => absurd (of_decide_eq_true rfl) c)
            refine lv_iload_n hx hb dX7_number_68 rfl (lv_at hl 1 rfl) ?_
            have I170 : jI91 σ143 := jI91_fr (f146 0 (of_decide_eq_true rfl)) (f146 1 (of_decide_eq_true rfl)) hI91
            have I171 : jI92 σ143 := (show (-1) ≤ (σ143 9 2).toInt ∧ (σ143 9 2).toInt ≤ 80 by omega)
            exact by exact hret 0 σ143 τ _ _ _ _ rfl ⟨rfl, (fun i hi => (f145 i hi)), (fun i hi => (f146 i (imp_43 i hi))), I150, I170, I171, ⟨trivial, (by have h9 := jz_0; omega), ⟨0, (by have i0 := jix (f := σ 10) (show (σ 9 1).toInt = (σ 9 1).toInt by omega); have h9 := jz_0; exact Or.inl ⟨by omega, by omega, (fun d => by unfold jDg at d; omega)⟩), (by omega), (by omega)⟩⟩⟩ hP hS dX7_number_69
       · obtain ⟨q174, k172, k173⟩ := h156
         have q174 := q174.symm
         subst q174
         try rw [show (σ143 9 1).toInt = (σ 9 1).toInt from by omega] at k173
         try rw [show (σ143 9 0).toInt = (σ 9 0).toInt from by omega] at k173
         try rw [show σ143 10 = σ 10 from (f145 10 (of_decide_eq_true rfl))] at k173
         exact absurd (by omega : False) id
  · obtain ⟨q177, k175, k176⟩ := h10
    have q177 := q177.symm
    subst q177
    refine jcallS (As := [.int (-1)]) (rest := []) ⟨hx, hb, hml, hown, hts⟩ hK hP hA hS hZ (c_X7_isDigit l D cI cL ad zz hJ σ τ (-1) ((-1)) jz_m1) cw_RX7_39 ⟨Nat.le_of_ble_eq_true rfl, Nat.le_of_ble_eq_true rfl⟩ rfl rfl rfl hl.1 rfl (Nat.le_of_ble_eq_true rfl) dX7_number_4 ⟨Nat.zero_le _, Nat.zero_le _⟩ (fun r179 σ178 τ178 H locs h178 hP hS => ?_)
    obtain ⟨⟨rfl, rfl⟩, h178⟩ := h178
    rcases h178 with h180 | h181
    · obtain ⟨q183, k182⟩ := h180
      exact absurd (by omega : False) id
    · obtain ⟨q185, k184⟩ := h181
      have q185 := q185.symm
      subst q185
      refine lv_if_ne (tgt := 18) hx hb dX7_number_7 (of_decide_eq_true rfl) (fun c => absurd (of_decide_eq_true rfl) c) (fun _ => ?_)
      refine lv_aload_n hx hb dX7_number_10 rfl (lv_at hl 0 rfl) ?_
      refine lv_aload_n hx hb dX7_number_11 rfl (lv_at hl 0 rfl) ?_
      refine va_get (D := D) hx hb hts inlX7 hown hK hP 9 (jc_9 cI cL ad σ τ) rfl 1 (of_decide_eq_true rfl) (hts _ kw_13_17) (fun _ h9 => h9) rfl dX7_number_12 ?_
      exact by
       refine jcallVv (As := [.int (σ 9 1)]) (rest := []) ⟨hx, hb, hml, hown, hts⟩ hK hP hA hS hZ (c_X7_fail_9 l D cI cL ad zz hJ σ τ (σ 9 1) ((σ 9 1).toInt) rfl hI92 (by omega)) cw_RX7_43 (jc_9 cI cL ad σ τ) rfl ⟨Nat.le_of_ble_eq_true rfl, Nat.le_of_ble_eq_true rfl⟩ rfl rfl rfl hl.1 rfl (Nat.le_of_ble_eq_true rfl) dX7_number_15 ⟨Nat.zero_le _, Nat.zero_le _⟩ (fun σ186 τ186 H locs h186 hP hS => ?_)
       obtain ⟨rfl, f188, f189, h186⟩ := h186
       obtain ⟨k191, k192, h186⟩ := h186
       refine lv_iconst (v := 0) hx hb dX7_number_18 (of_decide_eq_true rfl) ?_
       refine lv_istore_n (lv' := [(2, .int 0), (0, .ref (ad 9)), (1, .int 3)]) hx hb dX7_number_19 rfl hl (of_decide_eq_true rfl) rfl (fun ls hl => ?_)
       refine lv_iconst (v := 0) hx hb dX7_number_20 (of_decide_eq_true rfl) ?_
       refine lv_istore_n (lv' := [(3, .int 0), (2, .int 0), (0, .ref (ad 9)), (1, .int 3)]) hx hb dX7_number_21 rfl hl (of_decide_eq_true rfl) rfl (fun ls hl => ?_)
       refine lv_iload_n hx hb dX7_number_22 rfl (lv_at hl 0 rfl) ?_
       refine lv_iload_n hx hb dX7_number_23 rfl (lv_at hl 3 rfl) ?_
       refine lv_icmp_ge (tgt := 68) hx hb dX7_number_24 (of_decide_eq_true rfl) (fun c => absurd c (of_decide_eq_true rfl)) (fun _ => ?_)
       refine lv_aload_n hx hb dX7_number_27 rfl (lv_at hl 2 rfl) ?_
       have I193 : jI9 σ186 := jI9_fr (f189 0 (of_decide_eq_true rfl)) (f188 10 (of_decide_eq_true rfl)) (f188 11 (of_decide_eq_true rfl)) hI9
       have z194 : (σ186 9 1).toInt = (σ 9 1).toInt := (congrArg Int32.toInt (show σ186 9 1 = (σ 9 1) from (f189 1 (of_decide_eq_true rfl))))
       have z195 : (σ186 9 0).toInt = (σ 9 0).toInt := (congrArg Int32.toInt (show σ186 9 0 = (σ 9 0) from (f189 0 (of_decide_eq_true rfl))))
       refine jcallV (As := []) (rest := []) ⟨hx, hb, hml, hown, hts⟩ hK hP hA hS hZ (c_X7_sign_9 l D cI cL ad zz hJ σ186 τ I193) cw_RX7_35 (jc_9 cI cL ad σ186 τ) rfl ⟨Nat.le_of_ble_eq_true rfl, Nat.le_of_ble_eq_true rfl⟩ rfl rfl rfl hl.1 rfl (Nat.le_of_ble_eq_true rfl) dX7_number_28 ⟨Nat.zero_le _, Nat.zero_le _⟩ (fun r197 σ196 τ196 H locs h196 hP hS => ?_)
       obtain ⟨⟨rfl, rfl⟩, h196⟩ := h196
       rcases h196 with h198 | h199
       · obtain ⟨q203, k200, k201, k202⟩ := h198
         exact by
          have q204 : r197 = (σ 10 (σ 9 1).toNatClampNeg) := q203.trans (by rw [(show σ186 9 1 = (σ 9 1) from (f189 1 (of_decide_eq_true rfl))), f188 10 (of_decide_eq_true rfl)])
          have q204e : (σ186 10 (σ186 9 1).toNatClampNeg).toInt = (σ 10 (σ 9 1).toNatClampNeg).toInt := by rw [← q203, ← q204]
          have q204 := q204.symm
          subst q204
          try rw [show (σ186 9 1).toInt = (σ 9 1).toInt from by omega] at k202
          try rw [show (σ186 9 0).toInt = (σ 9 0).toInt from by omega] at k202
          try rw [show σ186 10 = σ 10 from (f188 10 (of_decide_eq_true rfl))] at k202
          exact absurd (by omega : False) id
       · obtain ⟨q207, k205, k206⟩ := h199
         have q207 := q207.symm
         subst q207
         try rw [show (σ186 9 1).toInt = (σ 9 1).toInt from by omega] at k206
         try rw [show (σ186 9 0).toInt = (σ 9 0).toInt from by omega] at k206
         try rw [show σ186 10 = σ 10 from (f188 10 (of_decide_eq_true rfl))] at k206
         refine jcallS (As := [.int (-1)]) (rest := []) ⟨hx, hb, hml, hown, hts⟩ hK hP hA hS hZ (c_X7_isDigit l D cI cL ad zz hJ σ186 τ (-1) ((-1)) jz_m1) cw_RX7_39 ⟨Nat.le_of_ble_eq_true rfl, Nat.le_of_ble_eq_true rfl⟩ rfl rfl rfl hl.1 rfl (Nat.le_of_ble_eq_true rfl) dX7_number_31 ⟨Nat.zero_le _, Nat.zero_le _⟩ (fun r209 σ208 τ208 H locs h208 hP hS => ?_)
         obtain ⟨⟨rfl, rfl⟩, h208⟩ := h208
         rcases h208 with h210 | h211
         · obtain ⟨q213, k212⟩ := h210
           exact absurd (by omega : False) id
         · obtain ⟨q215, k214⟩ := h211
           have q215 := q215.symm
           subst q215
           refine lv_if_eq (tgt := 68) hx hb dX7_number_34 (of_decide_eq_true rfl) (fun _ => ?_) (fun c => absurd (of_decide_eq_true rfl) c)
           refine lv_iload_n hx hb dX7_number_68 rfl (lv_at hl 1 rfl) ?_
           have I216 : jI91 σ186 := jI91_fr (f189 0 (of_decide_eq_true rfl)) (f189 1 (of_decide_eq_true rfl)) hI91
           have I217 : jI92 σ186 := (show (-1) ≤ (σ186 9 2).toInt ∧ (σ186 9 2).toInt ≤ 80 by omega)
           exact by exact hret 0 σ186 τ _ _ _ _ rfl ⟨rfl, (fun i hi => (f188 i hi)), (fun i hi => (f189 i (imp_43 i hi))), I193, I216, I217, ⟨trivial, (by have h9 := jz_0; omega), ⟨0, (by have h9 := jz_0; exact Or.inl ⟨by omega, by omega, (fun d => by unfold jDg at d; omega)⟩), (by omega), (by omega)⟩⟩⟩ hP hS dX7_number_69
set_option maxHeartbeats 4000000 in
set_option maxRecDepth 100000 in
theorem c_X7_levelOf (l : Launch) (D : va_G) (cI cL : ClassId) (ad zz : Nat → Nat) (hJ : jD ad) (σ : Nat → Nat → Int32) (τ : Nat → Nat → Int64) (a1 : Int32) (A1 : Int) (t1 : a1.toInt = A1) : jM l yX7_levelOf cX7_levelOf 1 (some .int) ({ frames := 0, cells := 0, slots := 0, locals := 0 }) D cI cL ad zz [.int a1] σ τ (fun r σ' τ' => (σ = σ' ∧ τ = τ') ∧ ((True ∧ (0 ≤ r.toInt ∧ r.toInt ≤ 4) ∧ (1 ≤ A1) ∧ (r.toInt = jLv (A1))) ∨ (r = 5 ∧ (r.toInt = jLv (A1))))) := by
  refine jM.of hJ (by decide +kernel) (nt := .int) rfl (Nat.le_of_ble_eq_true rfl) ?_
  intro p e s m args below meth c Q ls hC hret hl hP
  obtain ⟨hx, hb, hr, hml, hown, hts, hK, -, hlocks, hZ⟩ := hC
  have hown : s.vm.findClass RX7 = some m.cls := hown
  have hS : va_S (jA ad) s.heap s.heap [] := va_S.rf
  have hA : ∀ q, jA ad q → jA ad q := fun _ h => h
  have hl : lv_has ls 1 [(0, .int a1)] := hl
  have g1 := jrg t1
  refine lv_iload_n hx hb dX7_levelOf_0 rfl (lv_at hl 0 rfl) ?_
  by_cases c1 : a1 = 37
  · have kc1 := jeq c1 t1 jz_37
    refine jtopr c1 ?_
    refine lv_lookup (off := 99) (tgt := 100) hx hb dX7_levelOf_1 (of_decide_eq_true rfl) (of_decide_eq_true rfl) (of_decide_eq_true rfl) ?_
    refine lv_iconst (v := 4) hx hb dX7_levelOf_100 (of_decide_eq_true rfl) ?_
    exact by exact hret 4 σ τ _ _ _ _ rfl ⟨⟨rfl, rfl⟩, Or.inl ⟨trivial, (by have h9 := jz_4; omega), (by have h9 := jz_4; omega), (by have h9 := jz_4; unfold jLv; first | ((repeat (first | rw [if_pos (by omega)] | rw [if_neg (by omega)])) <;> omega) | ((repeat' split) <;> omega))⟩⟩ hP hS dX7_levelOf_101
  have kc1 := jne c1 t1 jz_37
  by_cases c2 : a1 = 38
  · have kc2 := jeq c2 t1 jz_38
    refine jtopr c2 ?_
    refine lv_lookup (off := 93) (tgt := 94) hx hb dX7_levelOf_1 (of_decide_eq_true rfl) (of_decide_eq_true rfl) (of_decide_eq_true rfl) ?_
    refine lv_iconst (v := 1) hx hb dX7_levelOf_94 (of_decide_eq_true rfl) ?_
    exact by exact hret 1 σ τ _ _ _ _ rfl ⟨⟨rfl, rfl⟩, Or.inl ⟨trivial, (by have h9 := jz_1; omega), (by have h9 := jz_1; omega), (by have h9 := jz_1; unfold jLv; first | ((repeat (first | rw [if_pos (by omega)] | rw [if_neg (by omega)])) <;> omega) | ((repeat' split) <;> omega))⟩⟩ hP hS dX7_levelOf_95
  have kc2 := jne c2 t1 jz_38
  by_cases c3 : a1 = 42
  · have kc3 := jeq c3 t1 jz_42
    refine jtopr c3 ?_
    refine lv_lookup (off := 99) (tgt := 100) hx hb dX7_levelOf_1 (of_decide_eq_true rfl) (of_decide_eq_true rfl) (of_decide_eq_true rfl) ?_
    refine lv_iconst (v := 4) hx hb dX7_levelOf_100 (of_decide_eq_true rfl) ?_
    exact by exact hret 4 σ τ _ _ _ _ rfl ⟨⟨rfl, rfl⟩, Or.inl ⟨trivial, (by have h9 := jz_4; omega), (by have h9 := jz_4; omega), (by have h9 := jz_4; unfold jLv; first | ((repeat (first | rw [if_pos (by omega)] | rw [if_neg (by omega)])) <;> omega) | ((repeat' split) <;> omega))⟩⟩ hP hS dX7_levelOf_101
  have kc3 := jne c3 t1 jz_42
  by_cases c4 : a1 = 43
  · have kc4 := jeq c4 t1 jz_43
    refine jtopr c4 ?_
    refine lv_lookup (off := 97) (tgt := 98) hx hb dX7_levelOf_1 (of_decide_eq_true rfl) (of_decide_eq_true rfl) (of_decide_eq_true rfl) ?_
    refine lv_iconst (v := 3) hx hb dX7_levelOf_98 (of_decide_eq_true rfl) ?_
    exact by exact hret 3 σ τ _ _ _ _ rfl ⟨⟨rfl, rfl⟩, Or.inl ⟨trivial, (by have h9 := jz_3; omega), (by have h9 := jz_3; omega), (by have h9 := jz_3; unfold jLv; first | ((repeat (first | rw [if_pos (by omega)] | rw [if_neg (by omega)])) <;> omega) | ((repeat' split) <;> omega))⟩⟩ hP hS dX7_levelOf_99
  have kc4 := jne c4 t1 jz_43
  by_cases c5 : a1 = 45
  · have kc5 := jeq c5 t1 jz_45
    refine jtopr c5 ?_
    refine lv_lookup (off := 97) (tgt := 98) hx hb dX7_levelOf_1 (of_decide_eq_true rfl) (of_decide_eq_true rfl) (of_decide_eq_true rfl) ?_
    refine lv_iconst (v := 3) hx hb dX7_levelOf_98 (of_decide_eq_true rfl) ?_
    exact by exact hret 3 σ τ _ _ _ _ rfl ⟨⟨rfl, rfl⟩, Or.inl ⟨trivial, (by have h9 := jz_3; omega), (by have h9 := jz_3; omega), (by have h9 := jz_3; unfold jLv; first | ((repeat (first | rw [if_pos (by omega)] | rw [if_neg (by omega)])) <;> omega) | ((repeat' split) <;> omega))⟩⟩ hP hS dX7_levelOf_99
  have kc5 := jne c5 t1 jz_45
  by_cases c6 : a1 = 47
  · have kc6 := jeq c6 t1 jz_47
    refine jtopr c6 ?_
    refine lv_lookup (off := 99) (tgt := 100) hx hb dX7_levelOf_1 (of_decide_eq_true rfl) (of_decide_eq_true rfl) (of_decide_eq_true rfl) ?_
    refine lv_iconst (v := 4) hx hb dX7_levelOf_100 (of_decide_eq_true rfl) ?_
    exact by exact hret 4 σ τ _ _ _ _ rfl ⟨⟨rfl, rfl⟩, Or.inl ⟨trivial, (by have h9 := jz_4; omega), (by have h9 := jz_4; omega), (by have h9 := jz_4; unfold jLv; first | ((repeat (first | rw [if_pos (by omega)] | rw [if_neg (by omega)])) <;> omega) | ((repeat' split) <;> omega))⟩⟩ hP hS dX7_levelOf_101
  have kc6 := jne c6 t1 jz_47
  by_cases c7 : a1 = 60
  · have kc7 := jeq c7 t1 jz_60
    refine jtopr c7 ?_
    refine lv_lookup (off := 95) (tgt := 96) hx hb dX7_levelOf_1 (of_decide_eq_true rfl) (of_decide_eq_true rfl) (of_decide_eq_true rfl) ?_
    refine lv_iconst (v := 2) hx hb dX7_levelOf_96 (of_decide_eq_true rfl) ?_
    exact by exact hret 2 σ τ _ _ _ _ rfl ⟨⟨rfl, rfl⟩, Or.inl ⟨trivial, (by have h9 := jz_2; omega), (by have h9 := jz_2; omega), (by have h9 := jz_2; unfold jLv; first | ((repeat (first | rw [if_pos (by omega)] | rw [if_neg (by omega)])) <;> omega) | ((repeat' split) <;> omega))⟩⟩ hP hS dX7_levelOf_97
  have kc7 := jne c7 t1 jz_60
  by_cases c8 : a1 = 61
  · have kc8 := jeq c8 t1 jz_61
    refine jtopr c8 ?_
    refine lv_lookup (off := 95) (tgt := 96) hx hb dX7_levelOf_1 (of_decide_eq_true rfl) (of_decide_eq_true rfl) (of_decide_eq_true rfl) ?_
    refine lv_iconst (v := 2) hx hb dX7_levelOf_96 (of_decide_eq_true rfl) ?_
    exact by exact hret 2 σ τ _ _ _ _ rfl ⟨⟨rfl, rfl⟩, Or.inl ⟨trivial, (by have h9 := jz_2; omega), (by have h9 := jz_2; omega), (by have h9 := jz_2; unfold jLv; first | ((repeat (first | rw [if_pos (by omega)] | rw [if_neg (by omega)])) <;> omega) | ((repeat' split) <;> omega))⟩⟩ hP hS dX7_levelOf_97
  have kc8 := jne c8 t1 jz_61
  by_cases c9 : a1 = 62
  · have kc9 := jeq c9 t1 jz_62
    refine jtopr c9 ?_
    refine lv_lookup (off := 95) (tgt := 96) hx hb dX7_levelOf_1 (of_decide_eq_true rfl) (of_decide_eq_true rfl) (of_decide_eq_true rfl) ?_
    refine lv_iconst (v := 2) hx hb dX7_levelOf_96 (of_decide_eq_true rfl) ?_
    exact by exact hret 2 σ τ _ _ _ _ rfl ⟨⟨rfl, rfl⟩, Or.inl ⟨trivial, (by have h9 := jz_2; omega), (by have h9 := jz_2; omega), (by have h9 := jz_2; unfold jLv; first | ((repeat (first | rw [if_pos (by omega)] | rw [if_neg (by omega)])) <;> omega) | ((repeat' split) <;> omega))⟩⟩ hP hS dX7_levelOf_97
  have kc9 := jne c9 t1 jz_62
  by_cases c10 : a1 = 124
  · have kc10 := jeq c10 t1 jz_124
    refine jtopr c10 ?_
    refine lv_lookup (off := 91) (tgt := 92) hx hb dX7_levelOf_1 (of_decide_eq_true rfl) (of_decide_eq_true rfl) (of_decide_eq_true rfl) ?_
    refine lv_iconst (v := 0) hx hb dX7_levelOf_92 (of_decide_eq_true rfl) ?_
    exact by exact hret 0 σ τ _ _ _ _ rfl ⟨⟨rfl, rfl⟩, Or.inl ⟨trivial, (by have h9 := jz_0; omega), (by have h9 := jz_0; omega), (by have h9 := jz_0; unfold jLv; first | ((repeat (first | rw [if_pos (by omega)] | rw [if_neg (by omega)])) <;> omega) | ((repeat' split) <;> omega))⟩⟩ hP hS dX7_levelOf_93
  have kc10 := jne c10 t1 jz_124
  refine lv_lookup (off := 101) (tgt := 102) hx hb dX7_levelOf_1 (of_decide_eq_true rfl) (jlook (fun p hp => by have h9 := t1; simp only [List.mem_cons, List.not_mem_nil, or_false] at hp; rcases hp with hp | hp | hp | hp | hp | hp | hp | hp | hp | hp <;> subst hp <;> simp only [] <;> omega)) (of_decide_eq_true rfl) ?_
  refine lv_iconst (v := 5) hx hb dX7_levelOf_102 (of_decide_eq_true rfl) ?_
  exact hret 5 σ τ _ _ _ _ rfl ⟨⟨rfl, rfl⟩, Or.inr (⟨rfl, (by have h9 := jz_5; unfold jLv; first | ((repeat (first | rw [if_pos (by omega)] | rw [if_neg (by omega)])) <;> omega) | ((repeat' split) <;> omega))⟩)⟩ hP hS dX7_levelOf_103
set_option maxHeartbeats 4000000 in
set_option maxRecDepth 100000 in
theorem c_X7_nameOf (l : Launch) (D : va_G) (cI cL : ClassId) (ad zz : Nat → Nat) (hJ : jD ad) (σ : Nat → Nat → Int32) (τ : Nat → Nat → Int64) (a1 : Int32) (A1 : Int) (t1 : a1.toInt = A1) : jM l yX7_nameOf cX7_nameOf 1 (some .int) ({ frames := 0, cells := 0, slots := 0, locals := 0 }) D cI cL ad zz [.int a1] σ τ (fun r σ' τ' => (σ = σ' ∧ τ = τ') ∧ ((True ∧ (0 ≤ r.toInt ∧ r.toInt ≤ 7) ∧ (0 ≤ A1) ∧ (r.toInt = jNm (A1))) ∨ (r = (-1) ∧ (r.toInt = jNm (A1))))) := by
  refine jM.of hJ (by decide +kernel) (nt := .int) rfl (Nat.le_of_ble_eq_true rfl) ?_
  intro p e s m args below meth c Q ls hC hret hl hP
  obtain ⟨hx, hb, hr, hml, hown, hts, hK, -, hlocks, hZ⟩ := hC
  have hown : s.vm.findClass RX7 = some m.cls := hown
  have hS : va_S (jA ad) s.heap s.heap [] := va_S.rf
  have hA : ∀ q, jA ad q → jA ad q := fun _ h => h
  have hl : lv_has ls 1 [(0, .int a1)] := hl
  have g1 := jrg t1
  refine lv_iload_n hx hb dX7_nameOf_0 rfl (lv_at hl 0 rfl) ?_
  by_cases c1 : a1 = 98
  · have kc1 := jeq c1 t1 jz_98
    refine jtopr c1 ?_
    refine lv_tableIn (off := 109) (tgt := 110) hx hb dX7_nameOf_1 (of_decide_eq_true rfl) (of_decide_eq_true rfl) (of_decide_eq_true rfl) (of_decide_eq_true rfl) ?_
    refine lv_iconst (v := 3) hx hb dX7_nameOf_110 (of_decide_eq_true rfl) ?_
    exact by exact hret 3 σ τ _ _ _ _ rfl ⟨⟨rfl, rfl⟩, Or.inl ⟨trivial, (by have h9 := jz_3; omega), (by have h9 := jz_3; omega), (by have h9 := jz_3; unfold jNm; first | ((repeat (first | rw [if_pos (by omega)] | rw [if_neg (by omega)])) <;> omega) | ((repeat' split) <;> omega))⟩⟩ hP hS dX7_nameOf_111
  have kc1 := jne c1 t1 jz_98
  by_cases c2 : a1 = 99
  · have kc2 := jeq c2 t1 jz_99
    refine jtopr c2 ?_
    refine lv_tableIn (off := 121) (tgt := 122) hx hb dX7_nameOf_1 (of_decide_eq_true rfl) (of_decide_eq_true rfl) (of_decide_eq_true rfl) (of_decide_eq_true rfl) ?_
    refine lv_iconst (v := (-1)) hx hb dX7_nameOf_122 (of_decide_eq_true rfl) ?_
    exact hret (-1) σ τ _ _ _ _ rfl ⟨⟨rfl, rfl⟩, Or.inr (⟨rfl, (by have h9 := jz_m1; unfold jNm; first | ((repeat (first | rw [if_pos (by omega)] | rw [if_neg (by omega)])) <;> omega) | ((repeat' split) <;> omega))⟩)⟩ hP hS dX7_nameOf_123
  have kc2 := jne c2 t1 jz_99
  by_cases c3 : a1 = 100
  · have kc3 := jeq c3 t1 jz_100
    refine jtopr c3 ?_
    refine lv_tableIn (off := 121) (tgt := 122) hx hb dX7_nameOf_1 (of_decide_eq_true rfl) (of_decide_eq_true rfl) (of_decide_eq_true rfl) (of_decide_eq_true rfl) ?_
    refine lv_iconst (v := (-1)) hx hb dX7_nameOf_122 (of_decide_eq_true rfl) ?_
    exact hret (-1) σ τ _ _ _ _ rfl ⟨⟨rfl, rfl⟩, Or.inr (⟨rfl, (by have h9 := jz_m1; unfold jNm; first | ((repeat (first | rw [if_pos (by omega)] | rw [if_neg (by omega)])) <;> omega) | ((repeat' split) <;> omega))⟩)⟩ hP hS dX7_nameOf_123
  have kc3 := jne c3 t1 jz_100
  by_cases c4 : a1 = 101
  · have kc4 := jeq c4 t1 jz_101
    refine jtopr c4 ?_
    refine lv_tableIn (off := 121) (tgt := 122) hx hb dX7_nameOf_1 (of_decide_eq_true rfl) (of_decide_eq_true rfl) (of_decide_eq_true rfl) (of_decide_eq_true rfl) ?_
    refine lv_iconst (v := (-1)) hx hb dX7_nameOf_122 (of_decide_eq_true rfl) ?_
    exact hret (-1) σ τ _ _ _ _ rfl ⟨⟨rfl, rfl⟩, Or.inr (⟨rfl, (by have h9 := jz_m1; unfold jNm; first | ((repeat (first | rw [if_pos (by omega)] | rw [if_neg (by omega)])) <;> omega) | ((repeat' split) <;> omega))⟩)⟩ hP hS dX7_nameOf_123
  have kc4 := jne c4 t1 jz_101
  by_cases c5 : a1 = 102
  · have kc5 := jeq c5 t1 jz_102
    refine jtopr c5 ?_
    refine lv_tableIn (off := 121) (tgt := 122) hx hb dX7_nameOf_1 (of_decide_eq_true rfl) (of_decide_eq_true rfl) (of_decide_eq_true rfl) (of_decide_eq_true rfl) ?_
    refine lv_iconst (v := (-1)) hx hb dX7_nameOf_122 (of_decide_eq_true rfl) ?_
    exact hret (-1) σ τ _ _ _ _ rfl ⟨⟨rfl, rfl⟩, Or.inr (⟨rfl, (by have h9 := jz_m1; unfold jNm; first | ((repeat (first | rw [if_pos (by omega)] | rw [if_neg (by omega)])) <;> omega) | ((repeat' split) <;> omega))⟩)⟩ hP hS dX7_nameOf_123
  have kc5 := jne c5 t1 jz_102
  by_cases c6 : a1 = 103
  · have kc6 := jeq c6 t1 jz_103
    refine jtopr c6 ?_
    refine lv_tableIn (off := 121) (tgt := 122) hx hb dX7_nameOf_1 (of_decide_eq_true rfl) (of_decide_eq_true rfl) (of_decide_eq_true rfl) (of_decide_eq_true rfl) ?_
    refine lv_iconst (v := (-1)) hx hb dX7_nameOf_122 (of_decide_eq_true rfl) ?_
    exact hret (-1) σ τ _ _ _ _ rfl ⟨⟨rfl, rfl⟩, Or.inr (⟨rfl, (by have h9 := jz_m1; unfold jNm; first | ((repeat (first | rw [if_pos (by omega)] | rw [if_neg (by omega)])) <;> omega) | ((repeat' split) <;> omega))⟩)⟩ hP hS dX7_nameOf_123
  have kc6 := jne c6 t1 jz_103
  by_cases c7 : a1 = 104
  · have kc7 := jeq c7 t1 jz_104
    refine jtopr c7 ?_
    refine lv_tableIn (off := 121) (tgt := 122) hx hb dX7_nameOf_1 (of_decide_eq_true rfl) (of_decide_eq_true rfl) (of_decide_eq_true rfl) (of_decide_eq_true rfl) ?_
    refine lv_iconst (v := (-1)) hx hb dX7_nameOf_122 (of_decide_eq_true rfl) ?_
    exact hret (-1) σ τ _ _ _ _ rfl ⟨⟨rfl, rfl⟩, Or.inr (⟨rfl, (by have h9 := jz_m1; unfold jNm; first | ((repeat (first | rw [if_pos (by omega)] | rw [if_neg (by omega)])) <;> omega) | ((repeat' split) <;> omega))⟩)⟩ hP hS dX7_nameOf_123
  have kc7 := jne c7 t1 jz_104
  by_cases c8 : a1 = 105
  · have kc8 := jeq c8 t1 jz_105
    refine jtopr c8 ?_
    refine lv_tableIn (off := 121) (tgt := 122) hx hb dX7_nameOf_1 (of_decide_eq_true rfl) (of_decide_eq_true rfl) (of_decide_eq_true rfl) (of_decide_eq_true rfl) ?_
    refine lv_iconst (v := (-1)) hx hb dX7_nameOf_122 (of_decide_eq_true rfl) ?_
    exact hret (-1) σ τ _ _ _ _ rfl ⟨⟨rfl, rfl⟩, Or.inr (⟨rfl, (by have h9 := jz_m1; unfold jNm; first | ((repeat (first | rw [if_pos (by omega)] | rw [if_neg (by omega)])) <;> omega) | ((repeat' split) <;> omega))⟩)⟩ hP hS dX7_nameOf_123
  have kc8 := jne c8 t1 jz_105
  by_cases c9 : a1 = 106
  · have kc9 := jeq c9 t1 jz_106
    refine jtopr c9 ?_
    refine lv_tableIn (off := 121) (tgt := 122) hx hb dX7_nameOf_1 (of_decide_eq_true rfl) (of_decide_eq_true rfl) (of_decide_eq_true rfl) (of_decide_eq_true rfl) ?_
    refine lv_iconst (v := (-1)) hx hb dX7_nameOf_122 (of_decide_eq_true rfl) ?_
    exact hret (-1) σ τ _ _ _ _ rfl ⟨⟨rfl, rfl⟩, Or.inr (⟨rfl, (by have h9 := jz_m1; unfold jNm; first | ((repeat (first | rw [if_pos (by omega)] | rw [if_neg (by omega)])) <;> omega) | ((repeat' split) <;> omega))⟩)⟩ hP hS dX7_nameOf_123
  have kc9 := jne c9 t1 jz_106
  by_cases c10 : a1 = 107
  · have kc10 := jeq c10 t1 jz_107
    refine jtopr c10 ?_
    refine lv_tableIn (off := 118) (tgt := 119) hx hb dX7_nameOf_1 (of_decide_eq_true rfl) (of_decide_eq_true rfl) (of_decide_eq_true rfl) (of_decide_eq_true rfl) ?_
    refine lv_bipush (v := 7) hx hb dX7_nameOf_119 (of_decide_eq_true rfl) ?_
    exact by exact hret 7 σ τ _ _ _ _ rfl ⟨⟨rfl, rfl⟩, Or.inl ⟨trivial, (by have h9 := jz_7; omega), (by have h9 := jz_7; omega), (by have h9 := jz_7; unfold jNm; first | ((repeat (first | rw [if_pos (by omega)] | rw [if_neg (by omega)])) <;> omega) | ((repeat' split) <;> omega))⟩⟩ hP hS dX7_nameOf_121
  have kc10 := jne c10 t1 jz_107
  by_cases c11 : a1 = 108
  · have kc11 := jeq c11 t1 jz_108
    refine jtopr c11 ?_
    refine lv_tableIn (off := 113) (tgt := 114) hx hb dX7_nameOf_1 (of_decide_eq_true rfl) (of_decide_eq_true rfl) (of_decide_eq_true rfl) (of_decide_eq_true rfl) ?_
    refine lv_iconst (v := 5) hx hb dX7_nameOf_114 (of_decide_eq_true rfl) ?_
    exact by exact hret 5 σ τ _ _ _ _ rfl ⟨⟨rfl, rfl⟩, Or.inl ⟨trivial, (by have h9 := jz_5; omega), (by have h9 := jz_5; omega), (by have h9 := jz_5; unfold jNm; first | ((repeat (first | rw [if_pos (by omega)] | rw [if_neg (by omega)])) <;> omega) | ((repeat' split) <;> omega))⟩⟩ hP hS dX7_nameOf_115
  have kc11 := jne c11 t1 jz_108
  by_cases c12 : a1 = 109
  · have kc12 := jeq c12 t1 jz_109
    refine jtopr c12 ?_
    refine lv_tableIn (off := 121) (tgt := 122) hx hb dX7_nameOf_1 (of_decide_eq_true rfl) (of_decide_eq_true rfl) (of_decide_eq_true rfl) (of_decide_eq_true rfl) ?_
    refine lv_iconst (v := (-1)) hx hb dX7_nameOf_122 (of_decide_eq_true rfl) ?_
    exact hret (-1) σ τ _ _ _ _ rfl ⟨⟨rfl, rfl⟩, Or.inr (⟨rfl, (by have h9 := jz_m1; unfold jNm; first | ((repeat (first | rw [if_pos (by omega)] | rw [if_neg (by omega)])) <;> omega) | ((repeat' split) <;> omega))⟩)⟩ hP hS dX7_nameOf_123
  have kc12 := jne c12 t1 jz_109
  by_cases c13 : a1 = 110
  · have kc13 := jeq c13 t1 jz_110
    refine jtopr c13 ?_
    refine lv_tableIn (off := 121) (tgt := 122) hx hb dX7_nameOf_1 (of_decide_eq_true rfl) (of_decide_eq_true rfl) (of_decide_eq_true rfl) (of_decide_eq_true rfl) ?_
    refine lv_iconst (v := (-1)) hx hb dX7_nameOf_122 (of_decide_eq_true rfl) ?_
    exact hret (-1) σ τ _ _ _ _ rfl ⟨⟨rfl, rfl⟩, Or.inr (⟨rfl, (by have h9 := jz_m1; unfold jNm; first | ((repeat (first | rw [if_pos (by omega)] | rw [if_neg (by omega)])) <;> omega) | ((repeat' split) <;> omega))⟩)⟩ hP hS dX7_nameOf_123
  have kc13 := jne c13 t1 jz_110
  by_cases c14 : a1 = 111
  · have kc14 := jeq c14 t1 jz_111
    refine jtopr c14 ?_
    refine lv_tableIn (off := 103) (tgt := 104) hx hb dX7_nameOf_1 (of_decide_eq_true rfl) (of_decide_eq_true rfl) (of_decide_eq_true rfl) (of_decide_eq_true rfl) ?_
    refine lv_iconst (v := 0) hx hb dX7_nameOf_104 (of_decide_eq_true rfl) ?_
    exact by exact hret 0 σ τ _ _ _ _ rfl ⟨⟨rfl, rfl⟩, Or.inl ⟨trivial, (by have h9 := jz_0; omega), (by have h9 := jz_0; omega), (by have h9 := jz_0; unfold jNm; first | ((repeat (first | rw [if_pos (by omega)] | rw [if_neg (by omega)])) <;> omega) | ((repeat' split) <;> omega))⟩⟩ hP hS dX7_nameOf_105
  have kc14 := jne c14 t1 jz_111
  by_cases c15 : a1 = 112
  · have kc15 := jeq c15 t1 jz_112
    refine jtopr c15 ?_
    refine lv_tableIn (off := 115) (tgt := 116) hx hb dX7_nameOf_1 (of_decide_eq_true rfl) (of_decide_eq_true rfl) (of_decide_eq_true rfl) (of_decide_eq_true rfl) ?_
    refine lv_bipush (v := 6) hx hb dX7_nameOf_116 (of_decide_eq_true rfl) ?_
    exact by exact hret 6 σ τ _ _ _ _ rfl ⟨⟨rfl, rfl⟩, Or.inl ⟨trivial, (by have h9 := jz_6; omega), (by have h9 := jz_6; omega), (by have h9 := jz_6; unfold jNm; first | ((repeat (first | rw [if_pos (by omega)] | rw [if_neg (by omega)])) <;> omega) | ((repeat' split) <;> omega))⟩⟩ hP hS dX7_nameOf_118
  have kc15 := jne c15 t1 jz_112
  by_cases c16 : a1 = 113
  · have kc16 := jeq c16 t1 jz_113
    refine jtopr c16 ?_
    refine lv_tableIn (off := 121) (tgt := 122) hx hb dX7_nameOf_1 (of_decide_eq_true rfl) (of_decide_eq_true rfl) (of_decide_eq_true rfl) (of_decide_eq_true rfl) ?_
    refine lv_iconst (v := (-1)) hx hb dX7_nameOf_122 (of_decide_eq_true rfl) ?_
    exact hret (-1) σ τ _ _ _ _ rfl ⟨⟨rfl, rfl⟩, Or.inr (⟨rfl, (by have h9 := jz_m1; unfold jNm; first | ((repeat (first | rw [if_pos (by omega)] | rw [if_neg (by omega)])) <;> omega) | ((repeat' split) <;> omega))⟩)⟩ hP hS dX7_nameOf_123
  have kc16 := jne c16 t1 jz_113
  by_cases c17 : a1 = 114
  · have kc17 := jeq c17 t1 jz_114
    refine jtopr c17 ?_
    refine lv_tableIn (off := 121) (tgt := 122) hx hb dX7_nameOf_1 (of_decide_eq_true rfl) (of_decide_eq_true rfl) (of_decide_eq_true rfl) (of_decide_eq_true rfl) ?_
    refine lv_iconst (v := (-1)) hx hb dX7_nameOf_122 (of_decide_eq_true rfl) ?_
    exact hret (-1) σ τ _ _ _ _ rfl ⟨⟨rfl, rfl⟩, Or.inr (⟨rfl, (by have h9 := jz_m1; unfold jNm; first | ((repeat (first | rw [if_pos (by omega)] | rw [if_neg (by omega)])) <;> omega) | ((repeat' split) <;> omega))⟩)⟩ hP hS dX7_nameOf_123
  have kc17 := jne c17 t1 jz_114
  by_cases c18 : a1 = 115
  · have kc18 := jeq c18 t1 jz_115
    refine jtopr c18 ?_
    refine lv_tableIn (off := 107) (tgt := 108) hx hb dX7_nameOf_1 (of_decide_eq_true rfl) (of_decide_eq_true rfl) (of_decide_eq_true rfl) (of_decide_eq_true rfl) ?_
    refine lv_iconst (v := 2) hx hb dX7_nameOf_108 (of_decide_eq_true rfl) ?_
    exact by exact hret 2 σ τ _ _ _ _ rfl ⟨⟨rfl, rfl⟩, Or.inl ⟨trivial, (by have h9 := jz_2; omega), (by have h9 := jz_2; omega), (by have h9 := jz_2; unfold jNm; first | ((repeat (first | rw [if_pos (by omega)] | rw [if_neg (by omega)])) <;> omega) | ((repeat' split) <;> omega))⟩⟩ hP hS dX7_nameOf_109
  have kc18 := jne c18 t1 jz_115
  by_cases c19 : a1 = 116
  · have kc19 := jeq c19 t1 jz_116
    refine jtopr c19 ?_
    refine lv_tableIn (off := 111) (tgt := 112) hx hb dX7_nameOf_1 (of_decide_eq_true rfl) (of_decide_eq_true rfl) (of_decide_eq_true rfl) (of_decide_eq_true rfl) ?_
    refine lv_iconst (v := 4) hx hb dX7_nameOf_112 (of_decide_eq_true rfl) ?_
    exact by exact hret 4 σ τ _ _ _ _ rfl ⟨⟨rfl, rfl⟩, Or.inl ⟨trivial, (by have h9 := jz_4; omega), (by have h9 := jz_4; omega), (by have h9 := jz_4; unfold jNm; first | ((repeat (first | rw [if_pos (by omega)] | rw [if_neg (by omega)])) <;> omega) | ((repeat' split) <;> omega))⟩⟩ hP hS dX7_nameOf_113
  have kc19 := jne c19 t1 jz_116
  by_cases c20 : a1 = 117
  · have kc20 := jeq c20 t1 jz_117
    refine jtopr c20 ?_
    refine lv_tableIn (off := 121) (tgt := 122) hx hb dX7_nameOf_1 (of_decide_eq_true rfl) (of_decide_eq_true rfl) (of_decide_eq_true rfl) (of_decide_eq_true rfl) ?_
    refine lv_iconst (v := (-1)) hx hb dX7_nameOf_122 (of_decide_eq_true rfl) ?_
    exact hret (-1) σ τ _ _ _ _ rfl ⟨⟨rfl, rfl⟩, Or.inr (⟨rfl, (by have h9 := jz_m1; unfold jNm; first | ((repeat (first | rw [if_pos (by omega)] | rw [if_neg (by omega)])) <;> omega) | ((repeat' split) <;> omega))⟩)⟩ hP hS dX7_nameOf_123
  have kc20 := jne c20 t1 jz_117
  by_cases c21 : a1 = 118
  · have kc21 := jeq c21 t1 jz_118
    refine jtopr c21 ?_
    refine lv_tableIn (off := 121) (tgt := 122) hx hb dX7_nameOf_1 (of_decide_eq_true rfl) (of_decide_eq_true rfl) (of_decide_eq_true rfl) (of_decide_eq_true rfl) ?_
    refine lv_iconst (v := (-1)) hx hb dX7_nameOf_122 (of_decide_eq_true rfl) ?_
    exact hret (-1) σ τ _ _ _ _ rfl ⟨⟨rfl, rfl⟩, Or.inr (⟨rfl, (by have h9 := jz_m1; unfold jNm; first | ((repeat (first | rw [if_pos (by omega)] | rw [if_neg (by omega)])) <;> omega) | ((repeat' split) <;> omega))⟩)⟩ hP hS dX7_nameOf_123
  have kc21 := jne c21 t1 jz_118
  by_cases c22 : a1 = 119
  · have kc22 := jeq c22 t1 jz_119
    refine jtopr c22 ?_
    refine lv_tableIn (off := 105) (tgt := 106) hx hb dX7_nameOf_1 (of_decide_eq_true rfl) (of_decide_eq_true rfl) (of_decide_eq_true rfl) (of_decide_eq_true rfl) ?_
    refine lv_iconst (v := 1) hx hb dX7_nameOf_106 (of_decide_eq_true rfl) ?_
    exact by exact hret 1 σ τ _ _ _ _ rfl ⟨⟨rfl, rfl⟩, Or.inl ⟨trivial, (by have h9 := jz_1; omega), (by have h9 := jz_1; omega), (by have h9 := jz_1; unfold jNm; first | ((repeat (first | rw [if_pos (by omega)] | rw [if_neg (by omega)])) <;> omega) | ((repeat' split) <;> omega))⟩⟩ hP hS dX7_nameOf_107
  have kc22 := jne c22 t1 jz_119
  exact by
   refine lv_tableOut (tgt := 122) hx hb dX7_nameOf_1 (by rw [t1]; omega) (of_decide_eq_true rfl) ?_
   refine lv_iconst (v := (-1)) hx hb dX7_nameOf_122 (of_decide_eq_true rfl) ?_
   exact hret (-1) σ τ _ _ _ _ rfl ⟨⟨rfl, rfl⟩, Or.inr (⟨rfl, (by have h9 := jz_m1; unfold jNm; first | ((repeat (first | rw [if_pos (by omega)] | rw [if_neg (by omega)])) <;> omega) | ((repeat' split) <;> omega))⟩)⟩ hP hS dX7_nameOf_123
set_option maxHeartbeats 4000000 in
set_option maxRecDepth 100000 in
theorem c_X7_readOrder_9 (l : Launch) (D : va_G) (cI cL : ClassId) (ad zz : Nat → Nat) (hJ : jD ad) (σ : Nat → Nat → Int32) (τ : Nat → Nat → Int64) (hI9 : jI9 σ) (hI16 : jI16 σ) : jM l yX7_readOrder cX7_readOrder 6 (some .int) ({ frames := 2, cells := 0, slots := 0, locals := 44 }) D cI cL ad zz [.ref (ad 9), .ref (ad 16)] σ τ (fun r σ' τ' => τ = τ' ∧ (∀ i : Nat, (i < 9 ∨ 9 < i) ∧ (i < 11 ∨ 11 < i) ∧ (i < 16 ∨ 17 < i) → σ' i = σ i) ∧ (∀ k : Nat, (k < 0 ∨ 0 < k) ∧ (k < 1 ∨ 1 < k) ∧ (k < 2 ∨ 2 < k) → σ' 9 k = σ 9 k) ∧ (∀ k : Nat, (k < 0 ∨ 0 < k) ∧ (k < 1 ∨ 1 < k) ∧ (k < 2 ∨ 2 < k) → σ' 16 k = σ 16 k) ∧ (jI9 σ') ∧ (jI16 σ') ∧ (jOrB (σ 10) (σ' 17) (σ 17) (σ 9 0).toInt (r.toInt) ((σ' 16 0).toInt) ((σ' 16 1).toInt) ((σ' 16 2).toInt) ((σ 16 0).toInt) ((σ 16 1).toInt) ((σ 16 2).toInt)) ∧ ((σ' 9 0).toInt = 0) ∧ ((True ∧ ((-1) ≤ r.toInt ∧ r.toInt ≤ 80)))) := by
  refine jM.of hJ (by decide +kernel) (nt := .int) rfl (Nat.le_of_ble_eq_true rfl) ?_
  intro p e s m args below meth c Q ls hC hret hl hP
  obtain ⟨hx, hb, hr, hml, hown, hts, hK, -, hlocks, hZ⟩ := hC
  have hown : s.vm.findClass RX7 = some m.cls := hown
  have hS : va_S (jA ad) s.heap s.heap [] := va_S.rf
  have hA : ∀ q, jA ad q → jA ad q := fun _ h => h
  have hl : lv_has ls 6 [(0, .ref (ad 9)), (1, .ref (ad 16))] := hl
  obtain ⟨i1, w2, w3⟩ : (0 ≤ (σ 9 0).toInt ∧ (σ 9 0).toInt ≤ 80) ∧ (∀ k : Nat, k < 80 → 0 ≤ (σ 10 k).toInt ∧ (σ 10 k).toInt ≤ 255) ∧ (∀ k : Nat, k < 8 → 0 ≤ (σ 11 k).toInt ∧ (σ 11 k).toInt ≤ 3) := id hI9
  obtain ⟨i4, i5, i6, w7⟩ : (1 ≤ (σ 16 0).toInt ∧ (σ 16 0).toInt ≤ 8) ∧ (1 ≤ (σ 16 1).toInt ∧ (σ 16 1).toInt ≤ 12) ∧ (0 ≤ (σ 16 2).toInt ∧ (σ 16 2).toInt ≤ 999) ∧ (∀ k : Nat, k < 8 → 0 ≤ (σ 17 k).toInt ∧ (σ 17 k).toInt ≤ 3) := id hI16
  refine lv_aload_n hx hb dX7_readOrder_0 rfl (lv_at hl 0 rfl) ?_
  refine jcallVv (As := []) (rest := []) ⟨hx, hb, hml, hown, hts⟩ hK hP hA hS hZ (c_X7_begin_9 l D cI cL ad zz hJ σ τ hI9) cw_RX7_47 (jc_9 cI cL ad σ τ) rfl ⟨Nat.le_of_ble_eq_true rfl, Nat.le_of_ble_eq_true rfl⟩ rfl rfl rfl hl.1 rfl (Nat.le_of_ble_eq_true rfl) dX7_readOrder_1 ⟨Nat.zero_le _, Nat.zero_le _⟩ (fun σ8 τ8 H locs h8 hP hS => ?_)
  obtain ⟨rfl, f10, f11, m12, m13, I14, I15, I16, h8⟩ := h8
  obtain ⟨i18, w19, w20⟩ : (0 ≤ (σ8 9 0).toInt ∧ (σ8 9 0).toInt ≤ 80) ∧ (∀ k : Nat, k < 80 → 0 ≤ (σ8 10 k).toInt ∧ (σ8 10 k).toInt ≤ 255) ∧ (∀ k : Nat, k < 8 → 0 ≤ (σ8 11 k).toInt ∧ (σ8 11 k).toInt ≤ 3) := id I14
  obtain ⟨i21, i22⟩ : (0 ≤ (σ8 9 1).toInt) ∧ ((σ8 9 1).toInt ≤ (σ8 9 0).toInt) := id I15
  have i23 : (-1) ≤ (σ8 9 2).toInt ∧ (σ8 9 2).toInt ≤ 80 := I16
  have z24 : (σ8 9 0).toInt = (σ 9 0).toInt := (congrArg Int32.toInt (show σ8 9 0 = (σ 9 0) from (f11 0 (of_decide_eq_true rfl))))
  have z25 : (σ8 9 1).toInt = 0 := ((congrArg Int32.toInt (show σ8 9 1 = 0 from m12)).trans jz_0)
  have z26 : (σ8 9 2).toInt = (-1) := ((congrArg Int32.toInt (show σ8 9 2 = (-1) from m13)).trans jz_m1)
  have lp27 : ∀ (x29 : Int32) (x30 : Int32) (x31 : Int32) (σ32 : Nat → Nat → Int32) (H : Heap) (locs : List Loc) (ls : Array Slot), 0 ≤ x29.toInt → x29.toInt ≤ 8 → 8 ≤ x30.toInt → x30.toInt ≤ 8 → 0 ≤ x31.toInt → x31.toInt ≤ 0 → 0 ≤ (σ32 9 1).toInt → (σ32 9 1).toInt ≤ (σ32 9 0).toInt → (σ32 9 1).toInt = x29.toInt → (σ32 9 2).toInt = (-1) → (∀ i : Nat, (i < 9 ∨ 9 < i) ∧ (i < 11 ∨ 11 < i) → σ32 i = σ8 i) → (∀ k : Nat, (k < 1 ∨ 1 < k) → σ32 9 k = σ8 9 k) → jI9 σ32 → (jMm (σ 10) (σ 9 0).toInt (x29.toInt) ∧ jDv (σ 10) (σ32 11) (x29.toInt)) → jH D cI cL ad σ32 τ H → va_S (jA ad) s.heap H locs → lv_has ls 6 [(0, .ref (ad 9)), (1, .ref (ad 16)), (2, .int x29), (3, .int x30), (4, .int x31)] → W p l e ({ frames := 2, cells := 0, slots := 0, locals := 44 }) s m args below meth c H locs 0 0 Q (F0 m 67 ls []) := by
    intro x29 x30 x31 σ32 H locs ls h34 h35 h36 h37 h38 h39 h40 h41 h42 h43 f44 f45 p46 q47 hP hS hl
    obtain ⟨i48, w49, w50⟩ : (0 ≤ (σ32 9 0).toInt ∧ (σ32 9 0).toInt ≤ 80) ∧ (∀ k : Nat, k < 80 → 0 ≤ (σ32 10 k).toInt ∧ (σ32 10 k).toInt ≤ 255) ∧ (∀ k : Nat, k < 8 → 0 ≤ (σ32 11 k).toInt ∧ (σ32 11 k).toInt ≤ 3) := id p46
    have z51 : (σ32 9 0).toInt = (σ 9 0).toInt := (congrArg Int32.toInt (show σ32 9 0 = (σ 9 0) from ((f45 0 (of_decide_eq_true rfl)).trans (f11 0 (of_decide_eq_true rfl)))))
    have z52 : (σ32 9 2).toInt = (-1) := ((congrArg Int32.toInt (show σ32 9 2 = (-1) from ((f45 2 (of_decide_eq_true rfl)).trans m13))).trans jz_m1)
    have lp53 : ∀  (σ55 : Nat → Nat → Int32) (H : Heap) (locs : List Loc) (ls : Array Slot), 0 ≤ (σ55 9 1).toInt → (σ55 9 1).toInt ≤ (σ55 9 0).toInt → (σ55 9 1).toInt = x29.toInt → (((σ55 9 2).toInt = (-1) ∧ 1 ≤ x29.toInt) ∨ ((σ55 9 2).toInt = 0 ∧ x29.toInt = 0)) → (∀ i : Nat, (i < 9 ∨ 9 < i) → σ55 i = σ32 i) → (∀ k : Nat, (k < 2 ∨ 2 < k) → σ55 9 k = σ32 9 k) → jH D cI cL ad σ55 τ H → va_S (jA ad) s.heap H locs → lv_has ls 6 [(0, .ref (ad 9)), (1, .ref (ad 16)), (2, .int x29), (3, .int x30), (4, .int x31)] → W p l e ({ frames := 2, cells := 0, slots := 0, locals := 44 }) s m args below meth c H locs 0 0 Q (F0 m 79 ls []) := by
      intro  σ55 H locs ls h57 h58 h59 h60 f61 f62 hP hS hl
      have z63 : (σ55 9 1).toInt = (σ32 9 1).toInt := (congrArg Int32.toInt (show σ55 9 1 = (σ32 9 1) from (f62 1 (of_decide_eq_true rfl))))
      have z64 : (σ55 9 0).toInt = (σ 9 0).toInt := (congrArg Int32.toInt (show σ55 9 0 = (σ 9 0) from ((f62 0 (of_decide_eq_true rfl)).trans ((f45 0 (of_decide_eq_true rfl)).trans (f11 0 (of_decide_eq_true rfl))))))
      have lp65 : ∀ (x67 : Int32) (σ68 : Nat → Nat → Int32) (H : Heap) (locs : List Loc) (ls : Array Slot), 0 ≤ (σ68 9 1).toInt → (σ68 9 1).toInt ≤ (σ68 9 0).toInt → (-1) ≤ (σ68 9 2).toInt ∧ (σ68 9 2).toInt ≤ 80 → (((σ68 9 2).toInt = (-1) ∧ 1 ≤ x29.toInt ∧ 1 ≤ x67.toInt ∧ x67.toInt ≤ 12) ∨ (0 ≤ (σ68 9 2).toInt ∧ (σ68 9 2).toInt ≤ 80)) → (∀ i : Nat, (i < 9 ∨ 9 < i) → σ68 i = σ55 i) → (∀ k : Nat, (k < 1 ∨ 1 < k) ∧ (k < 2 ∨ 2 < k) → σ68 9 k = σ55 9 k) → (jTm (σ 10) (σ 9 0).toInt (x29.toInt) ((σ68 9 1).toInt) (x67.toInt) ((σ68 9 2).toInt) ∧ ((σ68 9 2).toInt = -1 → 0 ≤ (σ68 9 1).toInt)) → jH D cI cL ad σ68 τ H → va_S (jA ad) s.heap H locs → lv_has ls 6 [(0, .ref (ad 9)), (1, .ref (ad 16)), (2, .int x29), (3, .int x67), (4, .int x31)] → W p l e ({ frames := 2, cells := 0, slots := 0, locals := 44 }) s m args below meth c H locs 0 0 Q (F0 m 117 ls []) := by
        intro x67 σ68 H locs ls h70 h71 h72 h73 f74 f75 q76 hP hS hl
        have gx67 := jrg (rfl : x67.toInt = x67.toInt)
        have z77 : (σ68 9 0).toInt = (σ 9 0).toInt := (congrArg Int32.toInt (show σ68 9 0 = (σ 9 0) from ((f75 0 (of_decide_eq_true rfl)).trans ((f62 0 (of_decide_eq_true rfl)).trans ((f45 0 (of_decide_eq_true rfl)).trans (f11 0 (of_decide_eq_true rfl)))))))
        have lp78 : ∀ (x80 : Int32) (σ81 : Nat → Nat → Int32) (H : Heap) (locs : List Loc) (ls : Array Slot), 0 ≤ (σ81 9 1).toInt → (σ81 9 1).toInt ≤ (σ81 9 0).toInt → (-1) ≤ (σ81 9 2).toInt ∧ (σ81 9 2).toInt ≤ 80 → (((σ81 9 2).toInt = (-1) ∧ 1 ≤ x29.toInt ∧ 1 ≤ x67.toInt ∧ x67.toInt ≤ 12 ∧ 0 ≤ x80.toInt ∧ x80.toInt ≤ 999) ∨ (0 ≤ (σ81 9 2).toInt ∧ (σ81 9 2).toInt ≤ 80)) → (∀ i : Nat, (i < 9 ∨ 9 < i) → σ81 i = σ68 i) → (∀ k : Nat, (k < 1 ∨ 1 < k) ∧ (k < 2 ∨ 2 < k) → σ81 9 k = σ68 9 k) → (∃ p x1 : Int, (jTm (σ 10) (σ 9 0).toInt (x29.toInt) p (x67.toInt) x1 ∧ (x1 = -1 → 0 ≤ p)) ∧ jRm (σ 10) (σ 9 0).toInt p (x80.toInt) x1 ((σ81 9 1).toInt) ((σ81 9 2).toInt)) → jH D cI cL ad σ81 τ H → va_S (jA ad) s.heap H locs → lv_has ls 6 [(0, .ref (ad 9)), (1, .ref (ad 16)), (2, .int x29), (3, .int x67), (4, .int x80)] → W p l e ({ frames := 2, cells := 0, slots := 0, locals := 44 }) s m args below meth c H locs 0 0 Q (F0 m 133 ls []) := by
          intro x80 σ81 H locs ls h83 h84 h85 h86 f87 f88 q89 hP hS hl
          have gx80 := jrg (rfl : x80.toInt = x80.toInt)
          have z90 : (σ81 9 0).toInt = (σ 9 0).toInt := (congrArg Int32.toInt (show σ81 9 0 = (σ 9 0) from ((f88 0 (of_decide_eq_true rfl)).trans ((f75 0 (of_decide_eq_true rfl)).trans ((f62 0 (of_decide_eq_true rfl)).trans ((f45 0 (of_decide_eq_true rfl)).trans (f11 0 (of_decide_eq_true rfl))))))))
          obtain ⟨p91, y92, t93, r94⟩ := q89
          refine lv_aload_n hx hb dX7_readOrder_133 rfl (lv_at hl 0 rfl) ?_
          have I95 : jI9 σ81 := jI9_fr ((f88 0 (of_decide_eq_true rfl)).trans ((f75 0 (of_decide_eq_true rfl)).trans (f62 0 (of_decide_eq_true rfl)))) ((f87 10 (of_decide_eq_true rfl)).trans ((f74 10 (of_decide_eq_true rfl)).trans (f61 10 (of_decide_eq_true rfl)))) ((f87 11 (of_decide_eq_true rfl)).trans ((f74 11 (of_decide_eq_true rfl)).trans (f61 11 (of_decide_eq_true rfl)))) p46
          exact by
           have I96 : jI91 σ81 := ⟨(by omega), (by omega)⟩
           have I97 : jI92 σ81 := (show (-1) ≤ (σ81 9 2).toInt ∧ (σ81 9 2).toInt ≤ 80 by omega)
           refine jcallV (As := []) (rest := []) ⟨hx, hb, hml, hown, hts⟩ hK hP hA hS hZ (c_X7_end_9 l D cI cL ad zz hJ σ81 τ I95 I96 I97) cw_RX7_57 (jc_9 cI cL ad σ81 τ) rfl ⟨Nat.le_of_ble_eq_true rfl, Nat.le_of_ble_eq_true rfl⟩ rfl rfl rfl hl.1 rfl (Nat.le_of_ble_eq_true rfl) dX7_readOrder_134 ⟨Nat.zero_le _, Nat.zero_le _⟩ (fun r99 σ98 τ98 H locs h98 hP hS => ?_)
           obtain ⟨rfl, f100, f101, I102, I103, h98⟩ := h98
           obtain ⟨i105, w106, w107⟩ : (0 ≤ (σ98 9 0).toInt ∧ (σ98 9 0).toInt ≤ 80) ∧ (∀ k : Nat, k < 80 → 0 ≤ (σ98 10 k).toInt ∧ (σ98 10 k).toInt ≤ 255) ∧ (∀ k : Nat, k < 8 → 0 ≤ (σ98 11 k).toInt ∧ (σ98 11 k).toInt ≤ 3) := id I102
           have i108 : (-1) ≤ (σ98 9 2).toInt ∧ (σ98 9 2).toInt ≤ 80 := I103
           obtain ⟨k109, h98⟩ := h98
           rcases h98 with h110 | h111
           · obtain ⟨q114, k112, k113⟩ := h110
             have q114 := q114.symm
             subst q114
             refine lv_istore (lv' := [(5, .int (-1)), (0, .ref (ad 9)), (1, .ref (ad 16)), (2, .int x29), (3, .int x67), (4, .int x80)]) hx hb dX7_readOrder_137 hl (of_decide_eq_true rfl) rfl (fun ls hl => ?_)
             refine lv_iload hx hb dX7_readOrder_139 (lv_at hl 0 rfl) ?_
             refine lv_iconst (v := (-1)) hx hb dX7_readOrder_141 (of_decide_eq_true rfl) ?_
             refine lv_icmp_eq (tgt := 148) hx hb dX7_readOrder_142 (of_decide_eq_true rfl) (fun _ => ?_) (fun c => absurd (of_decide_eq_true rfl) c)
             refine lv_aload_n hx hb dX7_readOrder_148 rfl (lv_at hl 2 rfl) ?_
             refine lv_iload_n hx hb dX7_readOrder_149 rfl (lv_at hl 3 rfl) ?_
             refine jput (ty := .int) hx hb hts inlX6 tyX6 tyX6_ok nmX6 hown hK hP hJ hA hS (jc_16 cI cL ad σ98 τ) rfl (k := 0) (of_decide_eq_true rfl) (Nat.le_of_ble_eq_true rfl) (jp_16_0 cI cL ad σ98 τ x29) (hts _ kw_13_18) (fun _ h9 => h9) rfl (by decide +kernel) rfl rfl dX7_readOrder_150 (fun σ115 H locs eσ115 hP hS => ?_)
             refine lv_aload_n hx hb dX7_readOrder_153 rfl (lv_at hl 2 rfl) ?_
             refine lv_iload_n hx hb dX7_readOrder_154 rfl (lv_at hl 4 rfl) ?_
             refine jput (ty := .int) hx hb hts inlX6 tyX6 tyX6_ok nmX6 hown hK hP hJ hA hS (jc_16 cI cL ad σ115 τ) rfl (k := 1) (of_decide_eq_true rfl) (Nat.le_of_ble_eq_true rfl) (jp_16_1 cI cL ad σ115 τ x67) (hts _ kw_13_19) (fun _ h9 => h9) rfl (by decide +kernel) rfl rfl dX7_readOrder_155 (fun σ116 H locs eσ116 hP hS => ?_)
             refine lv_aload_n hx hb dX7_readOrder_158 rfl (lv_at hl 2 rfl) ?_
             refine lv_iload hx hb dX7_readOrder_159 (lv_at hl 5 rfl) ?_
             refine jput (ty := .int) hx hb hts inlX6 tyX6 tyX6_ok nmX6 hown hK hP hJ hA hS (jc_16 cI cL ad σ116 τ) rfl (k := 2) (of_decide_eq_true rfl) (Nat.le_of_ble_eq_true rfl) (jp_16_2 cI cL ad σ116 τ x80) (hts _ kw_13_20) (fun _ h9 => h9) rfl (by decide +kernel) rfl rfl dX7_readOrder_161 (fun σ117 H locs eσ117 hP hS => ?_)
             refine lv_aload_n hx hb dX7_readOrder_164 rfl (lv_at hl 1 rfl) ?_
             refine va_get (D := D) hx hb hts inlX7 hown hK hP 9 (jc_9 cI cL ad σ117 τ) rfl 4 (of_decide_eq_true rfl) (hts _ kw_3_21) (fun _ h9 => h9) rfl dX7_readOrder_165 ?_
             refine lv_iconst (v := 0) hx hb dX7_readOrder_168 (of_decide_eq_true rfl) ?_
             refine lv_aload_n hx hb dX7_readOrder_169 rfl (lv_at hl 2 rfl) ?_
             refine va_get (D := D) hx hb hts inlX6 hown hK hP 16 (jc_16 cI cL ad σ117 τ) rfl 3 (of_decide_eq_true rfl) (hts _ kw_13_21) (fun _ h9 => h9) rfl dX7_readOrder_170 ?_
             refine lv_iconst (v := 0) hx hb dX7_readOrder_173 (of_decide_eq_true rfl) ?_
             refine lv_iload_n hx hb dX7_readOrder_174 rfl (lv_at hl 3 rfl) ?_
             exact by
              refine jcpyI (q0 := 11) (q1 := 17) hx hb (hml.trans hl.1.symm) hown (hts _ kw_13_22) (hts _ kw_13_23) (hts _ kw_14_0) (hts _ kw_14_1) hK hP hJ hA hS (jc_11 cI cL ad σ117 τ) (jc_17 cI cL ad σ117 τ) (fun _ => rfl) jz_0 jz_0 rfl (by omega) (by omega) (by omega) (by omega) (by omega) (Nat.le_of_ble_eq_true rfl) (Nat.le_of_ble_eq_true rfl) dX7_readOrder_175 (fun σ118 H locs eσ118 hP hS => ?_)
              have w119 : ∀ k : Nat, k < 8 → 0 ≤ (σ117 11 k).toInt ∧ (σ117 11 k).toInt ≤ 3 := (jrr_fr (jnp 11 eσ117 (of_decide_eq_true rfl)) (jrr_fr (jnp 11 eσ116 (of_decide_eq_true rfl)) (jrr_fr (jnp 11 eσ115 (of_decide_eq_true rfl)) w107)))
              have w120 : ∀ k : Nat, k < 8 → 0 ≤ (σ117 17 k).toInt ∧ (σ117 17 k).toInt ≤ 3 := (jrr_fr (jnp 17 eσ117 (of_decide_eq_true rfl)) (jrr_fr (jnp 17 eσ116 (of_decide_eq_true rfl)) (jrr_fr (jnp 17 eσ115 (of_decide_eq_true rfl)) (jrr_fr (f100 17 (of_decide_eq_true rfl)) (jrr_fr (f87 17 (of_decide_eq_true rfl)) (jrr_fr (f74 17 (of_decide_eq_true rfl)) (jrr_fr (f61 17 (of_decide_eq_true rfl)) (jrr_fr (f44 17 (of_decide_eq_true rfl)) (jrr_fr (f10 17 (of_decide_eq_true rfl)) w7)))))))))
              have f121 : (∀ i : Nat, (i < 17 ∨ 17 < i) → σ118 i = σ117 i) := by rw [eσ118]; exact jrow_n
              have w122 : ∀ k : Nat, k < 8 → 0 ≤ (σ118 17 k).toInt ∧ (σ118 17 k).toInt ≤ 3 := by rw [eσ118]; exact jrow_rr w119 w120 jz_0 rfl (n0 := 8) (by omega) (by omega) (by omega)
              refine lv_iconst (v := (-1)) hx hb dX7_readOrder_178 (of_decide_eq_true rfl) ?_
              have I123 : jI9 σ118 := jI9_fr ((congrFun (f121 9 (of_decide_eq_true rfl)) 0).trans ((congrFun (jnp 9 eσ117 (of_decide_eq_true rfl)) 0).trans ((congrFun (jnp 9 eσ116 (of_decide_eq_true rfl)) 0).trans (congrFun (jnp 9 eσ115 (of_decide_eq_true rfl)) 0)))) ((f121 10 (of_decide_eq_true rfl)).trans ((jnp 10 eσ117 (of_decide_eq_true rfl)).trans ((jnp 10 eσ116 (of_decide_eq_true rfl)).trans (jnp 10 eσ115 (of_decide_eq_true rfl))))) ((f121 11 (of_decide_eq_true rfl)).trans ((jnp 11 eσ117 (of_decide_eq_true rfl)).trans ((jnp 11 eσ116 (of_decide_eq_true rfl)).trans (jnp 11 eσ115 (of_decide_eq_true rfl))))) I102
              have z124 : (σ118 16 0).toInt = x29.toInt := (congrArg Int32.toInt (show σ118 16 0 = x29 from ((congrFun (f121 16 (of_decide_eq_true rfl)) 0).trans ((jkp 0 eσ117 (of_decide_eq_true rfl)).trans ((jkp 0 eσ116 (of_decide_eq_true rfl)).trans (jsp eσ115))))))
              have z125 : (σ118 16 1).toInt = x67.toInt := (congrArg Int32.toInt (show σ118 16 1 = x67 from ((congrFun (f121 16 (of_decide_eq_true rfl)) 1).trans ((jkp 1 eσ117 (of_decide_eq_true rfl)).trans (jsp eσ116)))))
              exact by
               have z126 : (σ118 16 2).toInt = x80.toInt := (congrArg Int32.toInt (show σ118 16 2 = x80 from ((congrFun (f121 16 (of_decide_eq_true rfl)) 2).trans (jsp eσ117))))
               have I127 : jI16 σ118 := ⟨(by omega), (by omega), (by omega), w122⟩
               have z128 : (σ118 9 1).toInt = (σ81 9 1).toInt := (congrArg Int32.toInt (show σ118 9 1 = (σ81 9 1) from ((congrFun (f121 9 (of_decide_eq_true rfl)) 1).trans ((congrFun (jnp 9 eσ117 (of_decide_eq_true rfl)) 1).trans ((congrFun (jnp 9 eσ116 (of_decide_eq_true rfl)) 1).trans ((congrFun (jnp 9 eσ115 (of_decide_eq_true rfl)) 1).trans (f101 1 (of_decide_eq_true rfl))))))))
               have z129 : (σ118 9 2).toInt = (σ98 9 2).toInt := (congrArg Int32.toInt (show σ118 9 2 = (σ98 9 2) from ((congrFun (f121 9 (of_decide_eq_true rfl)) 2).trans ((congrFun (jnp 9 eσ117 (of_decide_eq_true rfl)) 2).trans ((congrFun (jnp 9 eσ116 (of_decide_eq_true rfl)) 2).trans (congrFun (jnp 9 eσ115 (of_decide_eq_true rfl)) 2))))))
               have z130 : (σ118 9 0).toInt = (σ98 9 0).toInt := (congrArg Int32.toInt (show σ118 9 0 = (σ98 9 0) from ((congrFun (f121 9 (of_decide_eq_true rfl)) 0).trans ((congrFun (jnp 9 eσ117 (of_decide_eq_true rfl)) 0).trans ((congrFun (jnp 9 eσ116 (of_decide_eq_true rfl)) 0).trans (congrFun (jnp 9 eσ115 (of_decide_eq_true rfl)) 0))))))
               exact by exact hret (-1) σ118 τ _ _ _ _ rfl ⟨rfl, (fun i hi => ((f121 i (imp_44 i hi)).trans ((jnp i eσ117 (imp_45 i hi)).trans ((jnp i eσ116 (imp_45 i hi)).trans ((jnp i eσ115 (imp_45 i hi)).trans ((f100 i (imp_46 i hi)).trans ((f87 i (imp_46 i hi)).trans ((f74 i (imp_46 i hi)).trans ((f61 i (imp_46 i hi)).trans ((f44 i (imp_47 i hi)).trans (f10 i (imp_46 i hi)))))))))))), (fun i hi => ((congrFun (f121 9 (of_decide_eq_true rfl)) i).trans ((congrFun (jnp 9 eσ117 (of_decide_eq_true rfl)) i).trans ((congrFun (jnp 9 eσ116 (of_decide_eq_true rfl)) i).trans ((congrFun (jnp 9 eσ115 (of_decide_eq_true rfl)) i).trans ((f101 i (imp_48 i hi)).trans ((f88 i (imp_49 i hi)).trans ((f75 i (imp_49 i hi)).trans ((f62 i (imp_50 i hi)).trans ((f45 i (imp_51 i hi)).trans (f11 i (imp_49 i hi)))))))))))), (fun i hi => ((congrFun (f121 16 (of_decide_eq_true rfl)) i).trans ((jkp i eσ117 (imp_52 i hi)).trans ((jkp i eσ116 (imp_53 i hi)).trans ((jkp i eσ115 (imp_54 i hi)).trans ((congrFun (f100 16 (of_decide_eq_true rfl)) i).trans ((congrFun (f87 16 (of_decide_eq_true rfl)) i).trans ((congrFun (f74 16 (of_decide_eq_true rfl)) i).trans ((congrFun (f61 16 (of_decide_eq_true rfl)) i).trans ((congrFun (f44 16 (of_decide_eq_true rfl)) i).trans (congrFun (f10 16 (of_decide_eq_true rfl)) i))))))))))), I123, I127, ⟨x29.toInt, x67.toInt, x80.toInt, -1, ⟨q47.1, p91, y92, (σ81 9 1).toInt, (σ81 9 2).toInt, t93.1, t93.2, r94, (by have h9 := jz_m1; omega)⟩, Or.inr ⟨rfl, (by have h9 := jz_m1; omega), by omega, by omega, by omega, (fun j hj => by rw [congrFun eσ118 17, jrow_s, jcpy0 rfl rfl (rfl : x29.toInt = x29.toInt) j hj, show σ117 11 = σ32 11 from ((jnp 11 eσ117 (of_decide_eq_true rfl)).trans ((jnp 11 eσ116 (of_decide_eq_true rfl)).trans ((jnp 11 eσ115 (of_decide_eq_true rfl)).trans ((f100 11 (of_decide_eq_true rfl)).trans ((f87 11 (of_decide_eq_true rfl)).trans ((f74 11 (of_decide_eq_true rfl)).trans (f61 11 (of_decide_eq_true rfl))))))))]; exact q47.2 j hj)⟩⟩, (by omega), ⟨trivial, (by have h9 := jz_m1; omega)⟩⟩ hP hS dX7_readOrder_179
           · obtain ⟨q133, k131, k132⟩ := h111
             refine lv_istore (lv' := [(5, .int r99), (0, .ref (ad 9)), (1, .ref (ad 16)), (2, .int x29), (3, .int x67), (4, .int x80)]) hx hb dX7_readOrder_137 hl (of_decide_eq_true rfl) rfl (fun ls hl => ?_)
             refine lv_iload hx hb dX7_readOrder_139 (lv_at hl 0 rfl) ?_
             exact by
              refine lv_iconst (v := (-1)) hx hb dX7_readOrder_141 (of_decide_eq_true rfl) ?_
              refine lv_icmp_eq (tgt := 148) hx hb dX7_readOrder_142 (of_decide_eq_true rfl) (fun c => absurd (jeq c rfl jz_m1) (by omega)) (fun c134 => ?_)
              have kc134 := jne c134 rfl jz_m1
              refine lv_iload hx hb dX7_readOrder_145 (lv_at hl 0 rfl) ?_
              have I135 : jI16 σ98 := jI16_fr ((congrFun (f100 16 (of_decide_eq_true rfl)) 0).trans ((congrFun (f87 16 (of_decide_eq_true rfl)) 0).trans ((congrFun (f74 16 (of_decide_eq_true rfl)) 0).trans ((congrFun (f61 16 (of_decide_eq_true rfl)) 0).trans ((congrFun (f44 16 (of_decide_eq_true rfl)) 0).trans (congrFun (f10 16 (of_decide_eq_true rfl)) 0)))))) ((congrFun (f100 16 (of_decide_eq_true rfl)) 1).trans ((congrFun (f87 16 (of_decide_eq_true rfl)) 1).trans ((congrFun (f74 16 (of_decide_eq_true rfl)) 1).trans ((congrFun (f61 16 (of_decide_eq_true rfl)) 1).trans ((congrFun (f44 16 (of_decide_eq_true rfl)) 1).trans (congrFun (f10 16 (of_decide_eq_true rfl)) 1)))))) ((congrFun (f100 16 (of_decide_eq_true rfl)) 2).trans ((congrFun (f87 16 (of_decide_eq_true rfl)) 2).trans ((congrFun (f74 16 (of_decide_eq_true rfl)) 2).trans ((congrFun (f61 16 (of_decide_eq_true rfl)) 2).trans ((congrFun (f44 16 (of_decide_eq_true rfl)) 2).trans (congrFun (f10 16 (of_decide_eq_true rfl)) 2)))))) ((f100 17 (of_decide_eq_true rfl)).trans ((f87 17 (of_decide_eq_true rfl)).trans ((f74 17 (of_decide_eq_true rfl)).trans ((f61 17 (of_decide_eq_true rfl)).trans ((f44 17 (of_decide_eq_true rfl)).trans (f10 17 (of_decide_eq_true rfl))))))) hI16
              have z136 : (σ98 16 0).toInt = (σ 16 0).toInt := (congrArg Int32.toInt (show σ98 16 0 = (σ 16 0) from ((congrFun (f100 16 (of_decide_eq_true rfl)) 0).trans ((congrFun (f87 16 (of_decide_eq_true rfl)) 0).trans ((congrFun (f74 16 (of_decide_eq_true rfl)) 0).trans ((congrFun (f61 16 (of_decide_eq_true rfl)) 0).trans ((congrFun (f44 16 (of_decide_eq_true rfl)) 0).trans (congrFun (f10 16 (of_decide_eq_true rfl)) 0))))))))
              have z137 : (σ98 16 1).toInt = (σ 16 1).toInt := (congrArg Int32.toInt (show σ98 16 1 = (σ 16 1) from ((congrFun (f100 16 (of_decide_eq_true rfl)) 1).trans ((congrFun (f87 16 (of_decide_eq_true rfl)) 1).trans ((congrFun (f74 16 (of_decide_eq_true rfl)) 1).trans ((congrFun (f61 16 (of_decide_eq_true rfl)) 1).trans ((congrFun (f44 16 (of_decide_eq_true rfl)) 1).trans (congrFun (f10 16 (of_decide_eq_true rfl)) 1))))))))
              have z138 : (σ98 16 2).toInt = (σ 16 2).toInt := (congrArg Int32.toInt (show σ98 16 2 = (σ 16 2) from ((congrFun (f100 16 (of_decide_eq_true rfl)) 2).trans ((congrFun (f87 16 (of_decide_eq_true rfl)) 2).trans ((congrFun (f74 16 (of_decide_eq_true rfl)) 2).trans ((congrFun (f61 16 (of_decide_eq_true rfl)) 2).trans ((congrFun (f44 16 (of_decide_eq_true rfl)) 2).trans (congrFun (f10 16 (of_decide_eq_true rfl)) 2))))))))
              have z139 : (σ98 9 1).toInt = (σ81 9 1).toInt := (congrArg Int32.toInt (show σ98 9 1 = (σ81 9 1) from (f101 1 (of_decide_eq_true rfl))))
              exact by exact hret r99 σ98 τ _ _ _ _ rfl ⟨rfl, (fun i hi => ((f100 i (imp_46 i hi)).trans ((f87 i (imp_46 i hi)).trans ((f74 i (imp_46 i hi)).trans ((f61 i (imp_46 i hi)).trans ((f44 i (imp_47 i hi)).trans (f10 i (imp_46 i hi)))))))), (fun i hi => ((f101 i (imp_48 i hi)).trans ((f88 i (imp_49 i hi)).trans ((f75 i (imp_49 i hi)).trans ((f62 i (imp_50 i hi)).trans ((f45 i (imp_51 i hi)).trans (f11 i (imp_49 i hi)))))))), (fun i hi => ((congrFun (f100 16 (of_decide_eq_true rfl)) i).trans ((congrFun (f87 16 (of_decide_eq_true rfl)) i).trans ((congrFun (f74 16 (of_decide_eq_true rfl)) i).trans ((congrFun (f61 16 (of_decide_eq_true rfl)) i).trans ((congrFun (f44 16 (of_decide_eq_true rfl)) i).trans (congrFun (f10 16 (of_decide_eq_true rfl)) i))))))), I102, I135, ⟨x29.toInt, x67.toInt, x80.toInt, r99.toInt, ⟨q47.1, p91, y92, (σ81 9 1).toInt, (σ81 9 2).toInt, t93.1, t93.2, r94, (by omega)⟩, Or.inl ⟨by omega, rfl, by omega, by omega, by omega, ((f100 17 (of_decide_eq_true rfl)).trans ((f87 17 (of_decide_eq_true rfl)).trans ((f74 17 (of_decide_eq_true rfl)).trans ((f61 17 (of_decide_eq_true rfl)).trans ((f44 17 (of_decide_eq_true rfl)).trans (f10 17 (of_decide_eq_true rfl)))))))⟩⟩, (by omega), ⟨trivial, (by omega)⟩⟩ hP hS dX7_readOrder_147
        exact by
         refine lv_aload_n hx hb dX7_readOrder_117 rfl (lv_at hl 0 rfl) ?_
         refine lv_bipush (v := 114) hx hb dX7_readOrder_118 (of_decide_eq_true rfl) ?_
         have I140 : jI9 σ68 := jI9_fr ((f75 0 (of_decide_eq_true rfl)).trans (f62 0 (of_decide_eq_true rfl))) ((f74 10 (of_decide_eq_true rfl)).trans (f61 10 (of_decide_eq_true rfl))) ((f74 11 (of_decide_eq_true rfl)).trans (f61 11 (of_decide_eq_true rfl))) p46
         have I141 : jI91 σ68 := ⟨(by omega), (by omega)⟩
         have I142 : jI92 σ68 := (show (-1) ≤ (σ68 9 2).toInt ∧ (σ68 9 2).toInt ≤ 80 by omega)
         refine jcallV (As := [.int 114]) (rest := []) ⟨hx, hb, hml, hown, hts⟩ hK hP hA hS hZ (c_X7_skip_9 l D cI cL ad zz hJ σ68 τ 114 (114) jz_114 I140 I141 I142 (by omega)) cw_RX7_50 (jc_9 cI cL ad σ68 τ) rfl ⟨Nat.le_of_ble_eq_true rfl, Nat.le_of_ble_eq_true rfl⟩ rfl rfl rfl hl.1 rfl (Nat.le_of_ble_eq_true rfl) dX7_readOrder_120 ⟨Nat.zero_le _, Nat.zero_le _⟩ (fun r144 σ143 τ143 H locs h143 hP hS => ?_)
         obtain ⟨rfl, f145, f146, I147, I148, I149, h143⟩ := h143
         obtain ⟨i151, w152, w153⟩ : (0 ≤ (σ143 9 0).toInt ∧ (σ143 9 0).toInt ≤ 80) ∧ (∀ k : Nat, k < 80 → 0 ≤ (σ143 10 k).toInt ∧ (σ143 10 k).toInt ≤ 255) ∧ (∀ k : Nat, k < 8 → 0 ≤ (σ143 11 k).toInt ∧ (σ143 11 k).toInt ≤ 3) := id I147
         obtain ⟨i154, i155⟩ : (0 ≤ (σ143 9 1).toInt) ∧ ((σ143 9 1).toInt ≤ (σ143 9 0).toInt) := id I148
         exact by
          have i156 : (-1) ≤ (σ143 9 2).toInt ∧ (σ143 9 2).toInt ≤ 80 := I149
          have z157 : (σ143 9 0).toInt = (σ 9 0).toInt := (congrArg Int32.toInt (show σ143 9 0 = (σ 9 0) from ((f146 0 (of_decide_eq_true rfl)).trans ((f75 0 (of_decide_eq_true rfl)).trans ((f62 0 (of_decide_eq_true rfl)).trans ((f45 0 (of_decide_eq_true rfl)).trans (f11 0 (of_decide_eq_true rfl))))))))
          have z158 : (σ143 9 2).toInt = (σ68 9 2).toInt := (congrArg Int32.toInt (show σ143 9 2 = (σ68 9 2) from (f146 2 (of_decide_eq_true rfl))))
          rcases h143 with h159 | h160
          · obtain ⟨q166, k161, k162, k163, k164, k165⟩ := h159
            have q166 := q166.symm
            subst q166
            rw [show (σ68 9 0).toInt = (σ 9 0).toInt from by omega, show σ68 10 = σ 10 from by rw [f74 10 (of_decide_eq_true rfl), f61 10 (of_decide_eq_true rfl), f44 10 (of_decide_eq_true rfl), f10 10 (of_decide_eq_true rfl)]] at k164
            refine lv_if_eq (tgt := 133) hx hb dX7_readOrder_123 (of_decide_eq_true rfl) (fun c => absurd c (of_decide_eq_true rfl)) (fun _ => ?_)
            refine lv_aload_n hx hb dX7_readOrder_126 rfl (lv_at hl 0 rfl) ?_
            refine lv_iconst (v := 3) hx hb dX7_readOrder_127 (of_decide_eq_true rfl) ?_
            exact by
             refine jcallV (As := [.int 3]) (rest := []) ⟨hx, hb, hml, hown, hts⟩ hK hP hA hS hZ (c_X7_number_3 l D cI cL ad zz hJ σ143 τ I147 I148 I149 (by omega)) cw_RX7_53 (jc_9 cI cL ad σ143 τ) rfl ⟨Nat.le_of_ble_eq_true rfl, Nat.le_of_ble_eq_true rfl⟩ rfl rfl rfl hl.1 rfl (Nat.le_of_ble_eq_true rfl) dX7_readOrder_128 ⟨Nat.zero_le _, Nat.zero_le _⟩ (fun r168 σ167 τ167 H locs h167 hP hS => ?_)
             obtain ⟨rfl, f169, f170, I171, I172, I173, h167⟩ := h167
             obtain ⟨i175, w176, w177⟩ : (0 ≤ (σ167 9 0).toInt ∧ (σ167 9 0).toInt ≤ 80) ∧ (∀ k : Nat, k < 80 → 0 ≤ (σ167 10 k).toInt ∧ (σ167 10 k).toInt ≤ 255) ∧ (∀ k : Nat, k < 8 → 0 ≤ (σ167 11 k).toInt ∧ (σ167 11 k).toInt ≤ 3) := id I171
             obtain ⟨i178, i179⟩ : (0 ≤ (σ167 9 1).toInt) ∧ ((σ167 9 1).toInt ≤ (σ167 9 0).toInt) := id I172
             have i180 : (-1) ≤ (σ167 9 2).toInt ∧ (σ167 9 2).toInt ≤ 80 := I173
             have z181 : (σ167 9 0).toInt = (σ 9 0).toInt := (congrArg Int32.toInt (show σ167 9 0 = (σ 9 0) from ((f170 0 (of_decide_eq_true rfl)).trans ((f146 0 (of_decide_eq_true rfl)).trans ((f75 0 (of_decide_eq_true rfl)).trans ((f62 0 (of_decide_eq_true rfl)).trans ((f45 0 (of_decide_eq_true rfl)).trans (f11 0 (of_decide_eq_true rfl)))))))))
             have h182 := h167
             obtain ⟨q185, k183, k184⟩ := h182
             obtain ⟨q186, n188, k189, k190⟩ := k184
             rw [show (σ143 9 1).toInt = (σ68 9 1).toInt + 1 from by omega, show (σ143 9 0).toInt = (σ 9 0).toInt from by omega, show σ143 10 = σ 10 from by rw [f145 10 (of_decide_eq_true rfl), f74 10 (of_decide_eq_true rfl), f61 10 (of_decide_eq_true rfl), f44 10 (of_decide_eq_true rfl), f10 10 (of_decide_eq_true rfl)]] at n188
             refine lv_istore (lv' := [(4, .int r168), (0, .ref (ad 9)), (1, .ref (ad 16)), (2, .int x29), (3, .int x67)]) hx hb dX7_readOrder_131 hl (of_decide_eq_true rfl) rfl (fun ls hl => ?_)
             have g191 := jNb_bd n188
             exact by exact lp78 r168 σ167 _ _ ls (by omega) (by omega) (by omega) (by omega) (fun i hi => ((f169 i hi).trans (f145 i hi))) (fun i hi => ((f170 i hi).trans (f146 i (imp_55 i hi))))  ⟨(σ68 9 1).toInt, (σ68 9 2).toInt, q76, Or.inr (Or.inr ⟨by omega, k164, q186, r168.toInt, n188, (by omega)⟩)⟩ hP hS (lv_sub hl [1, 2, 3, 4, 0] rfl)
          · obtain ⟨q196, k192, k193, k194, k195⟩ := h160
            have q196 := q196.symm
            subst q196
            rw [show (σ68 9 0).toInt = (σ 9 0).toInt from by omega, show σ68 10 = σ 10 from by rw [f74 10 (of_decide_eq_true rfl), f61 10 (of_decide_eq_true rfl), f44 10 (of_decide_eq_true rfl), f10 10 (of_decide_eq_true rfl)]] at k194
            refine lv_if_eq (tgt := 133) hx hb dX7_readOrder_123 (of_decide_eq_true rfl) (fun _ => ?_) (fun c => absurd (of_decide_eq_true rfl) c)
            have d197 : (σ68 9 2).toInt = -1 ∨ 0 ≤ (σ68 9 2).toInt := by omega
            exact by exact lp78 x31 σ143 _ _ ls (by omega) (by omega) (by omega) (by omega) (fun i hi => (f145 i hi)) (fun i hi => (f146 i (imp_55 i hi)))  ⟨(σ68 9 1).toInt, (σ68 9 2).toInt, q76, (Or.elim d197 (fun d => Or.inr (Or.inl ⟨d, k194 (by omega), (by omega), by omega, by omega⟩)) (fun d => Or.inl ⟨d, by omega⟩))⟩ hP hS (lv_sub hl [0, 1, 2, 3, 4] rfl)
      refine lv_aload_n hx hb dX7_readOrder_79 rfl (lv_at hl 0 rfl) ?_
      refine lv_bipush (v := 58) hx hb dX7_readOrder_80 (of_decide_eq_true rfl) ?_
      have I198 : jI9 σ55 := jI9_fr (f62 0 (of_decide_eq_true rfl)) (f61 10 (of_decide_eq_true rfl)) (f61 11 (of_decide_eq_true rfl)) p46
      exact by
       have I199 : jI91 σ55 := ⟨(by omega), (by omega)⟩
       have I200 : jI92 σ55 := (show (-1) ≤ (σ55 9 2).toInt ∧ (σ55 9 2).toInt ≤ 80 by omega)
       refine jcallV (As := [.int 58]) (rest := []) ⟨hx, hb, hml, hown, hts⟩ hK hP hA hS hZ (c_X7_skip_9 l D cI cL ad zz hJ σ55 τ 58 (58) jz_58 I198 I199 I200 (by omega)) cw_RX7_50 (jc_9 cI cL ad σ55 τ) rfl ⟨Nat.le_of_ble_eq_true rfl, Nat.le_of_ble_eq_true rfl⟩ rfl rfl rfl hl.1 rfl (Nat.le_of_ble_eq_true rfl) dX7_readOrder_82 ⟨Nat.zero_le _, Nat.zero_le _⟩ (fun r202 σ201 τ201 H locs h201 hP hS => ?_)
       obtain ⟨rfl, f203, f204, I205, I206, I207, h201⟩ := h201
       obtain ⟨i209, w210, w211⟩ : (0 ≤ (σ201 9 0).toInt ∧ (σ201 9 0).toInt ≤ 80) ∧ (∀ k : Nat, k < 80 → 0 ≤ (σ201 10 k).toInt ∧ (σ201 10 k).toInt ≤ 255) ∧ (∀ k : Nat, k < 8 → 0 ≤ (σ201 11 k).toInt ∧ (σ201 11 k).toInt ≤ 3) := id I205
       obtain ⟨i212, i213⟩ : (0 ≤ (σ201 9 1).toInt) ∧ ((σ201 9 1).toInt ≤ (σ201 9 0).toInt) := id I206
       have i214 : (-1) ≤ (σ201 9 2).toInt ∧ (σ201 9 2).toInt ≤ 80 := I207
       have z215 : (σ201 9 0).toInt = (σ 9 0).toInt := (congrArg Int32.toInt (show σ201 9 0 = (σ 9 0) from ((f204 0 (of_decide_eq_true rfl)).trans ((f62 0 (of_decide_eq_true rfl)).trans ((f45 0 (of_decide_eq_true rfl)).trans (f11 0 (of_decide_eq_true rfl)))))))
       have z216 : (σ201 9 2).toInt = (σ55 9 2).toInt := (congrArg Int32.toInt (show σ201 9 2 = (σ55 9 2) from (f204 2 (of_decide_eq_true rfl))))
       exact by
        rcases h201 with h217 | h218
        · obtain ⟨q224, k219, k220, k221, k222, k223⟩ := h217
          have q224 := q224.symm
          subst q224
          rw [show (σ55 9 1).toInt = x29.toInt from by omega, show (σ55 9 0).toInt = (σ 9 0).toInt from by omega, show σ55 10 = σ 10 from by rw [f61 10 (of_decide_eq_true rfl), f44 10 (of_decide_eq_true rfl), f10 10 (of_decide_eq_true rfl)]] at k222
          refine lv_if_eq (tgt := 117) hx hb dX7_readOrder_85 (of_decide_eq_true rfl) (fun c => absurd c (of_decide_eq_true rfl)) (fun _ => ?_)
          refine lv_aload_n hx hb dX7_readOrder_88 rfl (lv_at hl 0 rfl) ?_
          refine va_get (D := D) hx hb hts inlX7 hown hK hP 9 (jc_9 cI cL ad σ201 τ) rfl 1 (of_decide_eq_true rfl) (hts _ kw_13_17) (fun _ h9 => h9) rfl dX7_readOrder_89 ?_
          refine lv_istore (lv' := [(5, .int (σ201 9 1)), (0, .ref (ad 9)), (1, .ref (ad 16)), (2, .int x29), (3, .int x30), (4, .int x31)]) hx hb dX7_readOrder_92 hl (of_decide_eq_true rfl) rfl (fun ls hl => ?_)
          refine lv_aload_n hx hb dX7_readOrder_94 rfl (lv_at hl 1 rfl) ?_
          refine lv_iconst (v := 2) hx hb dX7_readOrder_95 (of_decide_eq_true rfl) ?_
          exact by
           refine jcallV (As := [.int 2]) (rest := []) ⟨hx, hb, hml, hown, hts⟩ hK hP hA hS hZ (c_X7_number_2 l D cI cL ad zz hJ σ201 τ I205 I206 I207 (by omega)) cw_RX7_53 (jc_9 cI cL ad σ201 τ) rfl ⟨Nat.le_of_ble_eq_true rfl, Nat.le_of_ble_eq_true rfl⟩ rfl rfl rfl hl.1 rfl (Nat.le_of_ble_eq_true rfl) dX7_readOrder_96 ⟨Nat.zero_le _, Nat.zero_le _⟩ (fun r226 σ225 τ225 H locs h225 hP hS => ?_)
           obtain ⟨rfl, f227, f228, I229, I230, I231, h225⟩ := h225
           obtain ⟨i233, w234, w235⟩ : (0 ≤ (σ225 9 0).toInt ∧ (σ225 9 0).toInt ≤ 80) ∧ (∀ k : Nat, k < 80 → 0 ≤ (σ225 10 k).toInt ∧ (σ225 10 k).toInt ≤ 255) ∧ (∀ k : Nat, k < 8 → 0 ≤ (σ225 11 k).toInt ∧ (σ225 11 k).toInt ≤ 3) := id I229
           obtain ⟨i236, i237⟩ : (0 ≤ (σ225 9 1).toInt) ∧ ((σ225 9 1).toInt ≤ (σ225 9 0).toInt) := id I230
           have i238 : (-1) ≤ (σ225 9 2).toInt ∧ (σ225 9 2).toInt ≤ 80 := I231
           have z239 : (σ225 9 0).toInt = (σ 9 0).toInt := (congrArg Int32.toInt (show σ225 9 0 = (σ 9 0) from ((f228 0 (of_decide_eq_true rfl)).trans ((f204 0 (of_decide_eq_true rfl)).trans ((f62 0 (of_decide_eq_true rfl)).trans ((f45 0 (of_decide_eq_true rfl)).trans (f11 0 (of_decide_eq_true rfl))))))))
           have h240 := h225
           obtain ⟨q243, k241, k242⟩ := h240
           obtain ⟨q244, n246, k247, k248⟩ := k242
           rw [show (σ201 9 1).toInt = x29.toInt + 1 from by omega, show (σ201 9 0).toInt = (σ 9 0).toInt from by omega, show σ201 10 = σ 10 from by rw [f203 10 (of_decide_eq_true rfl), f61 10 (of_decide_eq_true rfl), f44 10 (of_decide_eq_true rfl), f10 10 (of_decide_eq_true rfl)]] at n246
           refine lv_istore_n (lv' := [(3, .int r226), (5, .int (σ201 9 1)), (0, .ref (ad 9)), (1, .ref (ad 16)), (2, .int x29), (4, .int x31)]) hx hb dX7_readOrder_99 rfl hl (of_decide_eq_true rfl) rfl (fun ls hl => ?_)
           refine lv_iload_n hx hb dX7_readOrder_100 rfl (lv_at hl 0 rfl) ?_
           refine lv_iconst (v := 1) hx hb dX7_readOrder_101 (of_decide_eq_true rfl) ?_
           refine lv_icmp_lt (tgt := 111) hx hb dX7_readOrder_102 (of_decide_eq_true rfl) (fun c249 => ?_) (fun c249 => ?_)
           · have kc249 := jlt c249 rfl jz_1
             refine lv_aload_n hx hb dX7_readOrder_111 rfl (lv_at hl 2 rfl) ?_
             refine lv_iload hx hb dX7_readOrder_112 (lv_at hl 1 rfl) ?_
             exact by
              refine jcallVv (As := [.int (σ201 9 1)]) (rest := []) ⟨hx, hb, hml, hown, hts⟩ hK hP hA hS hZ (c_X7_fail_9 l D cI cL ad zz hJ σ225 τ (σ201 9 1) ((σ201 9 1).toInt) rfl I231 (by omega)) cw_RX7_43 (jc_9 cI cL ad σ225 τ) rfl ⟨Nat.le_of_ble_eq_true rfl, Nat.le_of_ble_eq_true rfl⟩ rfl rfl rfl hl.1 rfl (Nat.le_of_ble_eq_true rfl) dX7_readOrder_114 ⟨Nat.zero_le _, Nat.zero_le _⟩ (fun σ250 τ250 H locs h250 hP hS => ?_)
              obtain ⟨rfl, f252, f253, h250⟩ := h250
              obtain ⟨k255, k256, h250⟩ := h250
              have z257 : (σ250 9 1).toInt = (σ225 9 1).toInt := (congrArg Int32.toInt (show σ250 9 1 = (σ225 9 1) from (f253 1 (of_decide_eq_true rfl))))
              have z258 : (σ250 9 0).toInt = (σ 9 0).toInt := (congrArg Int32.toInt (show σ250 9 0 = (σ 9 0) from ((f253 0 (of_decide_eq_true rfl)).trans ((f228 0 (of_decide_eq_true rfl)).trans ((f204 0 (of_decide_eq_true rfl)).trans ((f62 0 (of_decide_eq_true rfl)).trans ((f45 0 (of_decide_eq_true rfl)).trans (f11 0 (of_decide_eq_true rfl)))))))))
              exact by exact lp65 r226 σ250 _ _ ls (by omega) (by omega) (by omega) (by omega) (fun i hi => ((f252 i hi).trans ((f227 i hi).trans (f203 i hi)))) (fun i hi => ((f253 i (imp_43 i hi)).trans ((f228 i hi).trans (f204 i (imp_55 i hi)))))  ⟨Or.inr (Or.inr ⟨by omega, k222, q244, r226.toInt, n246, (by omega)⟩), (fun _ => by omega)⟩ hP hS (lv_sub hl [2, 3, 4, 0, 5] rfl)
           · have kc249 := jnlt c249 rfl jz_1
             refine lv_iload_n hx hb dX7_readOrder_105 rfl (lv_at hl 0 rfl) ?_
             refine lv_bipush (v := 12) hx hb dX7_readOrder_106 (of_decide_eq_true rfl) ?_
             refine lv_icmp_le (tgt := 117) hx hb dX7_readOrder_108 (of_decide_eq_true rfl) (fun c259 => ?_) (fun c259 => ?_)
             · have kc259 := jle c259 rfl jz_12
               exact by exact lp65 r226 σ225 _ _ ls (by omega) (by omega) (by omega) (by omega) (fun i hi => ((f227 i hi).trans (f203 i hi))) (fun i hi => ((f228 i hi).trans (f204 i (imp_55 i hi))))  ⟨Or.inr (Or.inr ⟨by omega, k222, q244, r226.toInt, n246, (by omega)⟩), (fun _ => by omega)⟩ hP hS (lv_sub hl [2, 3, 4, 0, 5] rfl)
             · have kc259 := jnle c259 rfl jz_12
               refine lv_aload_n hx hb dX7_readOrder_111 rfl (lv_at hl 2 rfl) ?_
               refine lv_iload hx hb dX7_readOrder_112 (lv_at hl 1 rfl) ?_
               exact by
                refine jcallVv (As := [.int (σ201 9 1)]) (rest := []) ⟨hx, hb, hml, hown, hts⟩ hK hP hA hS hZ (c_X7_fail_9 l D cI cL ad zz hJ σ225 τ (σ201 9 1) ((σ201 9 1).toInt) rfl I231 (by omega)) cw_RX7_43 (jc_9 cI cL ad σ225 τ) rfl ⟨Nat.le_of_ble_eq_true rfl, Nat.le_of_ble_eq_true rfl⟩ rfl rfl rfl hl.1 rfl (Nat.le_of_ble_eq_true rfl) dX7_readOrder_114 ⟨Nat.zero_le _, Nat.zero_le _⟩ (fun σ260 τ260 H locs h260 hP hS => ?_)
                obtain ⟨rfl, f262, f263, h260⟩ := h260
                obtain ⟨k265, k266, h260⟩ := h260
                have z267 : (σ260 9 1).toInt = (σ225 9 1).toInt := (congrArg Int32.toInt (show σ260 9 1 = (σ225 9 1) from (f263 1 (of_decide_eq_true rfl))))
                have z268 : (σ260 9 0).toInt = (σ 9 0).toInt := (congrArg Int32.toInt (show σ260 9 0 = (σ 9 0) from ((f263 0 (of_decide_eq_true rfl)).trans ((f228 0 (of_decide_eq_true rfl)).trans ((f204 0 (of_decide_eq_true rfl)).trans ((f62 0 (of_decide_eq_true rfl)).trans ((f45 0 (of_decide_eq_true rfl)).trans (f11 0 (of_decide_eq_true rfl)))))))))
                exact by exact lp65 r226 σ260 _ _ ls (by omega) (by omega) (by omega) (by omega) (fun i hi => ((f262 i hi).trans ((f227 i hi).trans (f203 i hi)))) (fun i hi => ((f263 i (imp_43 i hi)).trans ((f228 i hi).trans (f204 i (imp_55 i hi)))))  ⟨Or.inr (Or.inr ⟨by omega, k222, q244, r226.toInt, n246, (by omega)⟩), (fun _ => by omega)⟩ hP hS (lv_sub hl [2, 3, 4, 0, 5] rfl)
        · obtain ⟨q273, k269, k270, k271, k272⟩ := h218
          have q273 := q273.symm
          subst q273
          rw [show (σ55 9 1).toInt = x29.toInt from by omega, show (σ55 9 0).toInt = (σ 9 0).toInt from by omega, show σ55 10 = σ 10 from by rw [f61 10 (of_decide_eq_true rfl), f44 10 (of_decide_eq_true rfl), f10 10 (of_decide_eq_true rfl)]] at k271
          refine lv_if_eq (tgt := 117) hx hb dX7_readOrder_85 (of_decide_eq_true rfl) (fun _ => ?_) (fun c => absurd (of_decide_eq_true rfl) c)
          have d274 : (σ201 9 2).toInt = -1 ∨ 0 ≤ (σ201 9 2).toInt := by omega
          exact by exact lp65 x30 σ201 _ _ ls (by omega) (by omega) (by omega) (by omega) (fun i hi => (f203 i hi)) (fun i hi => (f204 i (imp_55 i hi)))  ⟨Or.elim d274 (fun d => Or.inr (Or.inl ⟨by omega, k271 (by omega), by omega, (by omega), by omega⟩)) (fun d => Or.inl ⟨by omega, by omega⟩), (fun _ => by omega)⟩ hP hS (lv_sub hl [0, 1, 2, 3, 4] rfl)
    refine lv_iload_n hx hb dX7_readOrder_67 rfl (lv_at hl 2 rfl) ?_
    refine lv_if_ne (tgt := 79) hx hb dX7_readOrder_68 (of_decide_eq_true rfl) (fun c275 => ?_) (fun c275 => ?_)
    · have kc275 := jne c275 rfl jz_0
      exact by exact lp53  σ32 _ _ ls (by omega) (by omega) (by omega) (by omega) (fun i hi => rfl) (fun i hi => rfl)   hP hS (lv_sub hl [0, 1, 2, 3, 4] rfl)
    · have kc275 := jeq c275 rfl jz_0
      refine lv_aload_n hx hb dX7_readOrder_71 rfl (lv_at hl 0 rfl) ?_
      refine lv_aload_n hx hb dX7_readOrder_72 rfl (lv_at hl 0 rfl) ?_
      refine va_get (D := D) hx hb hts inlX7 hown hK hP 9 (jc_9 cI cL ad σ32 τ) rfl 1 (of_decide_eq_true rfl) (hts _ kw_13_17) (fun _ h9 => h9) rfl dX7_readOrder_73 ?_
      have I276 : jI92 σ32 := jI92_fr (f45 2 (of_decide_eq_true rfl)) I16
      exact by
       refine jcallVv (As := [.int (σ32 9 1)]) (rest := []) ⟨hx, hb, hml, hown, hts⟩ hK hP hA hS hZ (c_X7_fail_9 l D cI cL ad zz hJ σ32 τ (σ32 9 1) ((σ32 9 1).toInt) rfl I276 (by omega)) cw_RX7_43 (jc_9 cI cL ad σ32 τ) rfl ⟨Nat.le_of_ble_eq_true rfl, Nat.le_of_ble_eq_true rfl⟩ rfl rfl rfl hl.1 rfl (Nat.le_of_ble_eq_true rfl) dX7_readOrder_76 ⟨Nat.zero_le _, Nat.zero_le _⟩ (fun σ277 τ277 H locs h277 hP hS => ?_)
       obtain ⟨rfl, f279, f280, h277⟩ := h277
       obtain ⟨k282, k283, h277⟩ := h277
       have z284 : (σ277 9 1).toInt = (σ32 9 1).toInt := (congrArg Int32.toInt (show σ277 9 1 = (σ32 9 1) from (f280 1 (of_decide_eq_true rfl))))
       have z285 : (σ277 9 0).toInt = (σ 9 0).toInt := (congrArg Int32.toInt (show σ277 9 0 = (σ 9 0) from ((f280 0 (of_decide_eq_true rfl)).trans ((f45 0 (of_decide_eq_true rfl)).trans (f11 0 (of_decide_eq_true rfl))))))
       exact by exact lp53  σ277 _ _ ls (by omega) (by omega) (by omega) (by omega) (fun i hi => (f279 i hi)) (fun i hi => (f280 i hi))   hP hS (lv_sub hl [0, 1, 2, 3, 4] rfl)
  refine lv_iconst (v := 0) hx hb dX7_readOrder_4 (of_decide_eq_true rfl) ?_
  refine lv_istore_n (lv' := [(2, .int 0), (0, .ref (ad 9)), (1, .ref (ad 16))]) hx hb dX7_readOrder_5 rfl hl (of_decide_eq_true rfl) rfl (fun ls hl => ?_)
  refine lv_bipush (v := 8) hx hb dX7_readOrder_6 (of_decide_eq_true rfl) ?_
  refine lv_istore_n (lv' := [(3, .int 8), (2, .int 0), (0, .ref (ad 9)), (1, .ref (ad 16))]) hx hb dX7_readOrder_8 rfl hl (of_decide_eq_true rfl) rfl (fun ls hl => ?_)
  refine lv_iconst (v := 0) hx hb dX7_readOrder_9 (of_decide_eq_true rfl) ?_
  refine lv_istore (lv' := [(4, .int 0), (3, .int 8), (2, .int 0), (0, .ref (ad 9)), (1, .ref (ad 16))]) hx hb dX7_readOrder_10 hl (of_decide_eq_true rfl) rfl (fun ls hl => ?_)
  have lp286 : ∀ (n287 : Nat) (x288 : Int32) (σ289 : Nat → Nat → Int32) (H : Heap) (locs : List Loc) (ls : Array Slot), (-x288.toInt + 8 : Int) < n287 → 0 ≤ x288.toInt → x288.toInt ≤ 8 → 0 ≤ (σ289 9 1).toInt → (σ289 9 1).toInt ≤ (σ289 9 0).toInt → (σ289 9 1).toInt = x288.toInt → (σ289 9 2).toInt = (-1) → (∀ i : Nat, (i < 9 ∨ 9 < i) ∧ (i < 11 ∨ 11 < i) → σ289 i = σ8 i) → (∀ k : Nat, (k < 1 ∨ 1 < k) → σ289 9 k = σ8 9 k) → jI9 σ289 → (jDs (σ 10) (σ 9 0).toInt (x288.toInt) ∧ jDv (σ 10) (σ289 11) (x288.toInt)) → jH D cI cL ad σ289 τ H → va_S (jA ad) s.heap H locs → lv_has ls 6 [(4, .int 0), (3, .int 8), (2, .int x288), (0, .ref (ad 9)), (1, .ref (ad 16))] → W p l e ({ frames := 2, cells := 0, slots := 0, locals := 44 }) s m args below meth c H locs 0 0 Q (F0 m 12 ls []) := by
    intro n287
    induction n287 with
    | zero => intro x288 σ289 H locs ls h291 h292 h293 h294 h295 h296 h297; exact absurd h291 (by omega)
    | succ n287 ihlp286 =>
      intro x288 σ289 H locs ls h291 h292 h293 h294 h295 h296 h297 f298 f299 p300 q301 hP hS hl
      exact by
       obtain ⟨i302, w303, w304⟩ : (0 ≤ (σ289 9 0).toInt ∧ (σ289 9 0).toInt ≤ 80) ∧ (∀ k : Nat, k < 80 → 0 ≤ (σ289 10 k).toInt ∧ (σ289 10 k).toInt ≤ 255) ∧ (∀ k : Nat, k < 8 → 0 ≤ (σ289 11 k).toInt ∧ (σ289 11 k).toInt ≤ 3) := id p300
       have z305 : (σ289 9 0).toInt = (σ 9 0).toInt := (congrArg Int32.toInt (show σ289 9 0 = (σ 9 0) from ((f299 0 (of_decide_eq_true rfl)).trans (f11 0 (of_decide_eq_true rfl)))))
       have z306 : (σ289 9 2).toInt = (-1) := ((congrArg Int32.toInt (show σ289 9 2 = (-1) from ((f299 2 (of_decide_eq_true rfl)).trans m13))).trans jz_m1)
       refine lv_iload_n hx hb dX7_readOrder_12 rfl (lv_at hl 2 rfl) ?_
       refine lv_bipush (v := 8) hx hb dX7_readOrder_13 (of_decide_eq_true rfl) ?_
       refine lv_icmp_ge (tgt := 67) hx hb dX7_readOrder_15 (of_decide_eq_true rfl) (fun c307 => ?_) (fun c307 => ?_)
       · have kc307 := jle c307 jz_8 rfl
         exact by exact lp27 x288 8 0 σ289 _ _ ls (by have h91 := jz_8; have h92 := jz_0; omega) (by have h91 := jz_8; have h92 := jz_0; omega) (by have h91 := jz_8; have h92 := jz_0; omega) (by have h91 := jz_8; have h92 := jz_0; omega) (by have h91 := jz_8; have h92 := jz_0; omega) (by have h91 := jz_8; have h92 := jz_0; omega) (by have h91 := jz_8; have h92 := jz_0; omega) (by have h91 := jz_8; have h92 := jz_0; omega) (by have h91 := jz_8; have h92 := jz_0; omega) (by have h91 := jz_8; have h92 := jz_0; omega) (fun i hi => (f298 i hi)) (fun i hi => (f299 i hi))  p300 ⟨⟨⟨by omega, by omega⟩, q301.1, (by omega)⟩, q301.2⟩ hP hS (lv_sub hl [3, 4, 2, 1, 0] rfl)
       · have kc307 := jnle c307 jz_8 rfl
         refine lv_aload_n hx hb dX7_readOrder_18 rfl (lv_at hl 3 rfl) ?_
         refine jcallV (As := []) (rest := []) ⟨hx, hb, hml, hown, hts⟩ hK hP hA hS hZ (c_X7_sign_9 l D cI cL ad zz hJ σ289 τ p300) cw_RX7_35 (jc_9 cI cL ad σ289 τ) rfl ⟨Nat.le_of_ble_eq_true rfl, Nat.le_of_ble_eq_true rfl⟩ rfl rfl rfl hl.1 rfl (Nat.le_of_ble_eq_true rfl) dX7_readOrder_19 ⟨Nat.zero_le _, Nat.zero_le _⟩ (fun r309 σ308 τ308 H locs h308 hP hS => ?_)
         obtain ⟨⟨rfl, rfl⟩, h308⟩ := h308
         rcases h308 with h310 | h311
         · obtain ⟨q315, k312, k313, k314⟩ := h310
           exact by
            have q316 : r309 = (σ 10 (σ289 9 1).toNatClampNeg) := q315.trans (by rw [f298 10 (of_decide_eq_true rfl), f10 10 (of_decide_eq_true rfl)])
            have q316e : (σ289 10 (σ289 9 1).toNatClampNeg).toInt = (σ 10 (σ289 9 1).toNatClampNeg).toInt := by rw [← q315, ← q316]
            have q316 := q316.symm
            subst q316
            refine lv_bipush (v := 48) hx hb dX7_readOrder_22 (of_decide_eq_true rfl) ?_
            refine lv_icmp_lt (tgt := 67) hx hb dX7_readOrder_24 (of_decide_eq_true rfl) (fun c317 => ?_) (fun c317 => ?_)
            · have kc317 := jlt c317 rfl jz_48
              exact by exact lp27 x288 8 0 σ289 _ _ ls (by have h91 := jz_8; have h92 := jz_0; omega) (by have h91 := jz_8; have h92 := jz_0; omega) (by have h91 := jz_8; have h92 := jz_0; omega) (by have h91 := jz_8; have h92 := jz_0; omega) (by have h91 := jz_8; have h92 := jz_0; omega) (by have h91 := jz_8; have h92 := jz_0; omega) (by have h91 := jz_8; have h92 := jz_0; omega) (by have h91 := jz_8; have h92 := jz_0; omega) (by have h91 := jz_8; have h92 := jz_0; omega) (by have h91 := jz_8; have h92 := jz_0; omega) (fun i hi => (f298 i hi)) (fun i hi => (f299 i hi))  p300 ⟨⟨⟨by omega, by omega⟩, q301.1, (by have i0 := jix (f := σ 10) (show (σ289 9 1).toInt = x288.toInt by omega); omega)⟩, q301.2⟩ hP hS (lv_sub hl [3, 4, 2, 1, 0] rfl)
            · have kc317 := jnlt c317 rfl jz_48
              refine lv_aload_n hx hb dX7_readOrder_27 rfl (lv_at hl 3 rfl) ?_
              refine jcallV (As := []) (rest := []) ⟨hx, hb, hml, hown, hts⟩ hK hP hA hS hZ (c_X7_sign_9 l D cI cL ad zz hJ σ289 τ p300) cw_RX7_35 (jc_9 cI cL ad σ289 τ) rfl ⟨Nat.le_of_ble_eq_true rfl, Nat.le_of_ble_eq_true rfl⟩ rfl rfl rfl hl.1 rfl (Nat.le_of_ble_eq_true rfl) dX7_readOrder_28 ⟨Nat.zero_le _, Nat.zero_le _⟩ (fun r319 σ318 τ318 H locs h318 hP hS => ?_)
              obtain ⟨⟨rfl, rfl⟩, h318⟩ := h318
              rcases h318 with h320 | h321
              · obtain ⟨q325, k322, k323, k324⟩ := h320
                exact by
                 have q326 : r319 = (σ 10 (σ289 9 1).toNatClampNeg) := q325.trans (by rw [f298 10 (of_decide_eq_true rfl), f10 10 (of_decide_eq_true rfl)])
                 have q326e : (σ289 10 (σ289 9 1).toNatClampNeg).toInt = (σ 10 (σ289 9 1).toNatClampNeg).toInt := by rw [← q325, ← q326]
                 have q326 := q326.symm
                 subst q326
                 refine lv_bipush (v := 51) hx hb dX7_readOrder_31 (of_decide_eq_true rfl) ?_
                 refine lv_icmp_gt (tgt := 67) hx hb dX7_readOrder_33 (of_decide_eq_true rfl) (fun c327 => ?_) (fun c327 => ?_)
                 · have kc327 := jlt c327 jz_51 rfl
                   exact by exact lp27 x288 8 0 σ289 _ _ ls (by have h91 := jz_8; have h92 := jz_0; omega) (by have h91 := jz_8; have h92 := jz_0; omega) (by have h91 := jz_8; have h92 := jz_0; omega) (by have h91 := jz_8; have h92 := jz_0; omega) (by have h91 := jz_8; have h92 := jz_0; omega) (by have h91 := jz_8; have h92 := jz_0; omega) (by have h91 := jz_8; have h92 := jz_0; omega) (by have h91 := jz_8; have h92 := jz_0; omega) (by have h91 := jz_8; have h92 := jz_0; omega) (by have h91 := jz_8; have h92 := jz_0; omega) (fun i hi => (f298 i hi)) (fun i hi => (f299 i hi))  p300 ⟨⟨⟨by omega, by omega⟩, q301.1, (by have i0 := jix (f := σ 10) (show (σ289 9 1).toInt = x288.toInt by omega); omega)⟩, q301.2⟩ hP hS (lv_sub hl [3, 4, 2, 1, 0] rfl)
                 · have kc327 := jnlt c327 jz_51 rfl
                   refine lv_aload_n hx hb dX7_readOrder_36 rfl (lv_at hl 3 rfl) ?_
                   refine va_get (D := D) hx hb hts inlX7 hown hK hP 9 (jc_9 cI cL ad σ289 τ) rfl 4 (of_decide_eq_true rfl) (hts _ kw_3_21) (fun _ h9 => h9) rfl dX7_readOrder_37 ?_
                   refine lv_iload_n hx hb dX7_readOrder_40 rfl (lv_at hl 2 rfl) ?_
                   obtain ⟨x328, ex328⟩ : ∃ y : Int32, y = x288 + 1 := ⟨_, rfl⟩
                   exact by
                    have tx328 : x328.toInt = x288.toInt + 1 := (jadd ex328 rfl jz_1 (by omega) (by omega)).trans (by omega)
                    refine lv_iinc (v := x328) (lv' := [(2, .int x328), (4, .int 0), (3, .int 8), (0, .ref (ad 9)), (1, .ref (ad 16))]) hx hb dX7_readOrder_41 hl (k := 2) rfl (by rw [ex328]; rfl) (of_decide_eq_true rfl) rfl (fun ls hl => ?_)
                    refine lv_aload_n hx hb dX7_readOrder_44 rfl (lv_at hl 3 rfl) ?_
                    refine va_get (D := D) hx hb hts inlX7 hown hK hP 9 (jc_9 cI cL ad σ289 τ) rfl 3 (of_decide_eq_true rfl) (hts _ kw_3_20) (fun _ h9 => h9) rfl dX7_readOrder_45 ?_
                    refine lv_aload_n hx hb dX7_readOrder_48 rfl (lv_at hl 3 rfl) ?_
                    refine lv_dup hx hb dX7_readOrder_49 rfl ?_
                    refine va_get (D := D) hx hb hts inlX7 hown hK hP 9 (jc_9 cI cL ad σ289 τ) rfl 1 (of_decide_eq_true rfl) (hts _ kw_13_17) (fun _ h9 => h9) rfl dX7_readOrder_50 ?_
                    refine lv_dup_x1 hx hb dX7_readOrder_53 rfl rfl ?_
                    refine lv_iconst (v := 1) hx hb dX7_readOrder_54 (of_decide_eq_true rfl) ?_
                    exact by
                     have g329 := jrg (rfl : (σ289 9 1).toInt = (σ289 9 1).toInt)
                     refine lv_iadd hx hb dX7_readOrder_55 ?_
                     refine lv_topi (fun x330 ex330 => ?_)
                     have tx330 : x330.toInt = (σ289 9 1).toInt + 1 := (jadd ex330 rfl jz_1 (by omega) (by omega)).trans (by omega)
                     refine jput (ty := .int) hx hb hts inlX7 tyX7 tyX7_ok nmX7 hown hK hP hJ hA hS (jc_9 cI cL ad σ289 τ) rfl (k := 1) (of_decide_eq_true rfl) (Nat.le_of_ble_eq_true rfl) (jp_9_1 cI cL ad σ289 τ x330) (hts _ kw_13_17) (fun _ h9 => h9) rfl (by decide +kernel) rfl rfl dX7_readOrder_56 (fun σ331 H locs eσ331 hP hS => ?_)
                     refine jald hx hb hK hP (jc_10 cI cL ad σ331 τ) (jin rfl (by omega) (by omega)) dX7_readOrder_59 ?_
                     refine jtopr (y := (σ 10 (σ289 9 1).toNatClampNeg)) (by rw [jnp 10 eσ331 (of_decide_eq_true rfl), f298 10 (of_decide_eq_true rfl), f10 10 (of_decide_eq_true rfl)]) ?_
                     refine lv_bipush (v := 48) hx hb dX7_readOrder_60 (of_decide_eq_true rfl) ?_
                     have g332 := jrg (rfl : (σ 10 (σ289 9 1).toNatClampNeg).toInt = (σ 10 (σ289 9 1).toNatClampNeg).toInt)
                     exact by
                      refine lv_isub hx hb dX7_readOrder_62 ?_
                      refine lv_topi (fun x333 ex333 => ?_)
                      have tx333 : x333.toInt = (σ 10 (σ289 9 1).toNatClampNeg).toInt - 48 := (jsub ex333 rfl jz_48 (by omega) (by omega)).trans (by omega)
                      refine jast hx hb hK hP hJ hA hS (jc_11 cI cL ad σ331 τ) (ja_11 cI cL ad σ331 τ _ _) (jin rfl (by omega) (by omega)) dX7_readOrder_63 (fun σ334 H locs eσ334 hP hS => ?_)
                      refine lv_goto (tgt := 12) hx hb dX7_readOrder_64 (of_decide_eq_true rfl) ?_
                      have z335 : (σ334 9 1).toInt = (σ289 9 1).toInt + 1 := ((congrArg Int32.toInt (show σ334 9 1 = x330 from ((congrFun (jnp 9 eσ334 (of_decide_eq_true rfl)) 1).trans (jsp eσ331)))).trans tx330)
                      have z336 : (σ334 9 0).toInt = (σ 9 0).toInt := (congrArg Int32.toInt (show σ334 9 0 = (σ 9 0) from ((congrFun (jnp 9 eσ334 (of_decide_eq_true rfl)) 0).trans ((jkp 0 eσ331 (of_decide_eq_true rfl)).trans ((f299 0 (of_decide_eq_true rfl)).trans (f11 0 (of_decide_eq_true rfl)))))))
                      have z337 : (σ334 9 2).toInt = (-1) := ((congrArg Int32.toInt (show σ334 9 2 = (-1) from ((congrFun (jnp 9 eσ334 (of_decide_eq_true rfl)) 2).trans ((jkp 2 eσ331 (of_decide_eq_true rfl)).trans ((f299 2 (of_decide_eq_true rfl)).trans m13))))).trans jz_m1)
                      have w338 : ∀ k : Nat, k < 80 → 0 ≤ (σ334 10 k).toInt ∧ (σ334 10 k).toInt ≤ 255 := (jrr_fr (jnp 10 eσ334 (of_decide_eq_true rfl)) (jrr_fr (jnp 10 eσ331 (of_decide_eq_true rfl)) w303))
                      exact by
                       have w339 : ∀ k : Nat, k < 8 → 0 ≤ (σ334 11 k).toInt ∧ (σ334 11 k).toInt ≤ 3 := (by rw [eσ334]; exact jrr_up (jrr_fr (jnp 11 eσ331 (of_decide_eq_true rfl)) w304) (by have h9 := tx333; omega) (by have h9 := tx333; omega))
                       have I340 : jI9 σ334 := ⟨(by omega), w338, w339⟩
                       exact by exact ihlp286 x328 σ334 _ _ ls (by have h90 := tx328; omega) (by have h90 := tx328; omega) (by have h90 := tx328; omega) (by have h90 := tx328; omega) (by have h90 := tx328; omega) (by have h90 := tx328; omega) (by have h90 := tx328; omega) (fun i hi => ((jnp i eσ334 (imp_56 i hi)).trans ((jnp i eσ331 (imp_57 i hi)).trans (f298 i hi)))) (fun i hi => ((congrFun (jnp 9 eσ334 (of_decide_eq_true rfl)) i).trans ((jkp i eσ331 (imp_42 i hi)).trans (f299 i hi))))  I340 ⟨jDs.step q301.1 (by omega) (by have i0 := jix (f := σ 10) (show (σ289 9 1).toInt = x288.toInt by omega); exact ⟨by omega, by omega, by omega⟩) (by have h9 := tx328; omega), jDv.step q301.2 (by omega) (by rw [eσ334, jup_row, eσ331, jup_n (of_decide_eq_true rfl), jnc (rfl : x288.toInt = x288.toInt)]) (by omega) (by have i0 := jix (f := σ 10) (show (σ289 9 1).toInt = x288.toInt by omega); have h9 := tx333; omega) (by have h9 := tx328; omega)⟩ hP hS (lv_sub hl [1, 2, 0, 3, 4] rfl)
              · obtain ⟨q343, k341, k342⟩ := h321
                exact absurd (by omega : False) id
         · obtain ⟨q346, k344, k345⟩ := h311
           have q346 := q346.symm
           subst q346
           refine lv_bipush (v := 48) hx hb dX7_readOrder_22 (of_decide_eq_true rfl) ?_
           exact by
            refine lv_icmp_lt (tgt := 67) hx hb dX7_readOrder_24 (of_decide_eq_true rfl) (fun _ => ?_) (fun c => absurd (of_decide_eq_true rfl) c)
            exact by exact lp27 x288 8 0 σ289 _ _ ls (by have h91 := jz_8; have h92 := jz_0; omega) (by have h91 := jz_8; have h92 := jz_0; omega) (by have h91 := jz_8; have h92 := jz_0; omega) (by have h91 := jz_8; have h92 := jz_0; omega) (by have h91 := jz_8; have h92 := jz_0; omega) (by have h91 := jz_8; have h92 := jz_0; omega) (by have h91 := jz_8; have h92 := jz_0; omega) (by have h91 := jz_8; have h92 := jz_0; omega) (by have h91 := jz_8; have h92 := jz_0; omega) (by have h91 := jz_8; have h92 := jz_0; omega) (fun i hi => (f298 i hi)) (fun i hi => (f299 i hi))  p300 ⟨⟨⟨by omega, by omega⟩, q301.1, (by omega)⟩, q301.2⟩ hP hS (lv_sub hl [3, 4, 2, 1, 0] rfl)
  exact by exact lp286 1000000 0 σ8 _ _ ls (by have h90 := jz_0; omega) (by have h90 := jz_0; omega) (by have h90 := jz_0; omega) (by have h90 := jz_0; omega) (by have h90 := jz_0; omega) (by have h90 := jz_0; omega) (by have h90 := jz_0; omega) (fun _ _ => rfl) (fun _ _ => rfl)  I14 ⟨jDs.first (by have h9 := jz_0; omega), jDv.first (by have h9 := jz_0; omega)⟩ hP hS hl
