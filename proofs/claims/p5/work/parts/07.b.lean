set_option maxHeartbeats 4000000 in
set_option maxRecDepth 100000 in
theorem c_X10_begin_12 (l : Launch) (D : va_G) (cI cL : ClassId) (ad zz : Nat → Nat) (hJ : jD ad) (σ : Nat → Nat → Int32) (τ : Nat → Nat → Int64) (hw13 : ∀ k : Nat, k < 160 → 0 ≤ (σ 13 k).toInt ∧ (σ 13 k).toInt ≤ 30000) : jMv l yX10_begin cX10_begin 1 none ({ frames := 0, cells := 0, slots := 0, locals := 0 }) D cI cL ad zz [.ref (ad 12)] σ τ (fun σ' τ' => τ = τ' ∧ (∀ i : Nat, (i < 12 ∨ 12 < i) → σ' i = σ i) ∧ (∀ k : Nat, (k < 0 ∨ 0 < k) ∧ (k < 1 ∨ 1 < k) → σ' 12 k = σ 12 k) ∧ (jI12 σ') ∧ True) := by
  refine jMv.of hJ (by decide +kernel) rfl (Nat.le_of_ble_eq_true rfl) ?_
  intro p e s m args below meth c Q ls hC hret hl hP
  obtain ⟨hx, hb, hr, hml, hown, hts, hK, -, hlocks, hZ⟩ := hC
  have hown : s.vm.findClass RX10 = some m.cls := hown
  have hS : va_S (jA ad) s.heap s.heap [] := va_S.rf
  have hA : ∀ q, jA ad q → jA ad q := fun _ h => h
  have hl : lv_has ls 1 [(0, .ref (ad 12))] := hl
  refine lv_aload_n hx hb dX10_begin_0 rfl (lv_at hl 0 rfl) ?_
  refine lv_iconst (v := 0) hx hb dX10_begin_1 (by decide) ?_
  refine jput (ty := .int) hx hb hts inlX10 tyX10 tyX10_ok nmX10 hown hK hP hJ hA hS (jc_12 cI cL ad σ τ) rfl (k := 0) (by decide) (Nat.le_of_ble_eq_true rfl) (jp_12_0 cI cL ad σ τ 0) (hts _ kw_16_20) (fun _ h9 => h9) rfl (by decide +kernel) rfl rfl dX10_begin_2 (fun σ1 H locs eσ1 hP hS => ?_)
  refine lv_aload_n hx hb dX10_begin_5 rfl (lv_at hl 0 rfl) ?_
  refine lv_iconst (v := 0) hx hb dX10_begin_6 (by decide) ?_
  refine jput (ty := .int) hx hb hts inlX10 tyX10 tyX10_ok nmX10 hown hK hP hJ hA hS (jc_12 cI cL ad σ1 τ) rfl (k := 1) (by decide) (Nat.le_of_ble_eq_true rfl) (jp_12_1 cI cL ad σ1 τ 0) (hts _ kw_16_21) (fun _ h9 => h9) rfl (by decide +kernel) rfl rfl dX10_begin_7 (fun σ2 H locs eσ2 hP hS => ?_)
  have z3 : (σ2 12 0).toInt = 0 := by rw [(show σ2 12 0 = 0 from (by rw [eσ2, jup_k (by decide)]; exact (by rw [eσ1]; exact jup_s)))]; exact jz_0
  have w4 : ∀ k : Nat, k < 160 → 0 ≤ (σ2 13 k).toInt ∧ (σ2 13 k).toInt ≤ 30000 := (by rw [eσ2, jup_n (by decide)]; exact (by rw [eσ1, jup_n (by decide)]; exact hw13))
  have I5 : jI12 σ2 := ⟨(by omega), w4⟩
  exact hret σ2 τ _ _ _ _ ⟨rfl, (fun i hi => by rw [eσ2, jup_n (by omega), eσ1, jup_n (by omega)]), (fun k hk => by rw [eσ2, jup_k (by omega), eσ1, jup_k (by omega)]), I5, trivial⟩ hP hS dX10_begin_10
set_option maxHeartbeats 4000000 in
set_option maxRecDepth 100000 in
theorem c_X10_add_12 (l : Launch) (D : va_G) (cI cL : ClassId) (ad zz : Nat → Nat) (hJ : jD ad) (σ : Nat → Nat → Int32) (τ : Nat → Nat → Int64) (a1 : Int32) (A1 : Int) (t1 : a1.toInt = A1) (hI12 : jI12 σ) (hp0 : 0 ≤ A1 ∧ A1 ≤ 30000) : jMv l yX10_add cX10_add 2 none ({ frames := 0, cells := 0, slots := 0, locals := 0 }) D cI cL ad zz [.ref (ad 12), .int a1] σ τ (fun σ' τ' => τ = τ' ∧ (∀ i : Nat, (i < 12 ∨ 13 < i) → σ' i = σ i) ∧ (∀ k : Nat, (k < 0 ∨ 0 < k) ∧ (k < 1 ∨ 1 < k) → σ' 12 k = σ 12 k) ∧ (jI12 σ') ∧ True) := by
  refine jMv.of hJ (by decide +kernel) rfl (Nat.le_of_ble_eq_true rfl) ?_
  intro p e s m args below meth c Q ls hC hret hl hP
  obtain ⟨hx, hb, hr, hml, hown, hts, hK, -, hlocks, hZ⟩ := hC
  have hown : s.vm.findClass RX10 = some m.cls := hown
  have hS : va_S (jA ad) s.heap s.heap [] := va_S.rf
  have hA : ∀ q, jA ad q → jA ad q := fun _ h => h
  have hl : lv_has ls 2 [(0, .ref (ad 12)), (1, .int a1)] := hl
  have g1 := jrg t1
  obtain ⟨i1, w2⟩ : (0 ≤ (σ 12 0).toInt ∧ (σ 12 0).toInt ≤ 160) ∧ (∀ k : Nat, k < 160 → 0 ≤ (σ 13 k).toInt ∧ (σ 13 k).toInt ≤ 30000) := id hI12
  refine lv_aload_n hx hb dX10_add_0 rfl (lv_at hl 0 rfl) ?_
  refine va_get (D := D) hx hb hts inlX10 hown hK hP 12 (jc_12 cI cL ad σ τ) rfl 0 (by decide) (hts _ kw_16_20) (fun _ h9 => h9) rfl dX10_add_1 ?_
  refine lv_sipush (v := 160) hx hb dX10_add_4 (by decide) ?_
  refine lv_icmp_lt (tgt := 11) hx hb dX10_add_7 (by decide) (fun c3 => ?_) (fun c3 => ?_)
  · have kc3 := jlt c3 rfl jz_160
    refine lv_aload_n hx hb dX10_add_11 rfl (lv_at hl 0 rfl) ?_
    refine va_get (D := D) hx hb hts inlX10 hown hK hP 12 (jc_12 cI cL ad σ τ) rfl 2 (by decide) (hts _ kw_4_3) (fun _ h9 => h9) rfl dX10_add_12 ?_
    refine lv_aload_n hx hb dX10_add_15 rfl (lv_at hl 0 rfl) ?_
    refine lv_dup hx hb dX10_add_16 rfl ?_
    refine va_get (D := D) hx hb hts inlX10 hown hK hP 12 (jc_12 cI cL ad σ τ) rfl 0 (by decide) (hts _ kw_16_20) (fun _ h9 => h9) rfl dX10_add_17 ?_
    refine lv_dup_x1 hx hb dX10_add_20 rfl rfl ?_
    refine lv_iconst (v := 1) hx hb dX10_add_21 (by decide) ?_
    have g4 := jrg (rfl : (σ 12 0).toInt = (σ 12 0).toInt)
    refine lv_iadd hx hb dX10_add_22 ?_
    refine lv_topi (fun x5 ex5 => ?_)
    have tx5 : x5.toInt = (σ 12 0).toInt + 1 := (jadd ex5 rfl jz_1 (by omega) (by omega)).trans (by omega)
    refine jput (ty := .int) hx hb hts inlX10 tyX10 tyX10_ok nmX10 hown hK hP hJ hA hS (jc_12 cI cL ad σ τ) rfl (k := 0) (by decide) (Nat.le_of_ble_eq_true rfl) (jp_12_0 cI cL ad σ τ x5) (hts _ kw_16_20) (fun _ h9 => h9) rfl (by decide +kernel) rfl rfl dX10_add_23 (fun σ6 H locs eσ6 hP hS => ?_)
    refine lv_iload_n hx hb dX10_add_26 rfl (lv_at hl 1 rfl) ?_
    refine jast hx hb hK hP hJ hA hS (jc_13 cI cL ad σ6 τ) (ja_13 cI cL ad σ6 τ _ _) (jin rfl (by omega) (by omega)) dX10_add_27 (fun σ7 H locs eσ7 hP hS => ?_)
    refine lv_iload_n hx hb dX10_add_28 rfl (lv_at hl 1 rfl) ?_
    refine lv_sipush (v := 10000) hx hb dX10_add_29 (by decide) ?_
    refine lv_icmp_lt (tgt := 58) hx hb dX10_add_32 (by decide) (fun c8 => ?_) (fun c8 => ?_)
    · have kc8 := jlt c8 t1 jz_10000
      have z9 : (σ7 12 0).toInt = (σ 12 0).toInt + 1 := by rw [(show σ7 12 0 = x5 from (by rw [eσ7, jup_n (by decide)]; exact (by rw [eσ6]; exact jup_s)))]; exact tx5
      have w10 : ∀ k : Nat, k < 160 → 0 ≤ (σ7 13 k).toInt ∧ (σ7 13 k).toInt ≤ 30000 := (by rw [eσ7]; exact jrr_up (by rw [eσ6, jup_n (by decide)]; exact w2) (by have h9 := t1; omega) (by have h9 := t1; omega))
      have I11 : jI12 σ7 := ⟨(by omega), w10⟩
      exact hret σ7 τ _ _ _ _ ⟨rfl, (fun i hi => by rw [eσ7, jup_n (by omega), eσ6, jup_n (by omega)]), (fun k hk => by rw [eσ7, jup_n (by decide), eσ6, jup_k (by omega)]), I11, trivial⟩ hP hS dX10_add_58
    · have kc8 := jnlt c8 t1 jz_10000
      refine lv_iload_n hx hb dX10_add_35 rfl (lv_at hl 1 rfl) ?_
      refine lv_sipush (v := 10008) hx hb dX10_add_36 (by decide) ?_
      refine lv_icmp_ge (tgt := 58) hx hb dX10_add_39 (by decide) (fun c12 => ?_) (fun c12 => ?_)
      · have kc12 := jle c12 jz_10008 t1
        have z13 : (σ7 12 0).toInt = (σ 12 0).toInt + 1 := by rw [(show σ7 12 0 = x5 from (by rw [eσ7, jup_n (by decide)]; exact (by rw [eσ6]; exact jup_s)))]; exact tx5
        have w14 : ∀ k : Nat, k < 160 → 0 ≤ (σ7 13 k).toInt ∧ (σ7 13 k).toInt ≤ 30000 := (by rw [eσ7]; exact jrr_up (by rw [eσ6, jup_n (by decide)]; exact w2) (by have h9 := t1; omega) (by have h9 := t1; omega))
        have I15 : jI12 σ7 := ⟨(by omega), w14⟩
        exact hret σ7 τ _ _ _ _ ⟨rfl, (fun i hi => by rw [eσ7, jup_n (by omega), eσ6, jup_n (by omega)]), (fun k hk => by rw [eσ7, jup_n (by decide), eσ6, jup_k (by omega)]), I15, trivial⟩ hP hS dX10_add_58
      · have kc12 := jnle c12 jz_10008 t1
        refine lv_aload_n hx hb dX10_add_42 rfl (lv_at hl 0 rfl) ?_
        refine lv_dup hx hb dX10_add_43 rfl ?_
        refine va_get (D := D) hx hb hts inlX10 hown hK hP 12 (jc_12 cI cL ad σ7 τ) rfl 1 (by decide) (hts _ kw_16_21) (fun _ h9 => h9) rfl dX10_add_44 ?_
        have m16 : σ7 12 1 = (σ 12 1) := (by rw [eσ7, jup_n (by decide)]; exact (by rw [eσ6, jup_k (by decide)]))
        refine jtopr m16 ?_
        refine lv_iconst (v := 1) hx hb dX10_add_47 (by decide) ?_
        refine lv_iload_n hx hb dX10_add_48 rfl (lv_at hl 1 rfl) ?_
        refine lv_sipush (v := 10000) hx hb dX10_add_49 (by decide) ?_
        refine lv_isub hx hb dX10_add_52 ?_
        refine lv_topi (fun x17 ex17 => ?_)
        have tx17 : x17.toInt = A1 - 10000 := (jsub ex17 t1 jz_10000 (by omega) (by omega)).trans (by omega)
        refine lv_ishl hx hb dX10_add_53 ?_
        refine lv_topi (fun x18 ex18 => ?_)
        have gx18 := jrg (rfl : x18.toInt = x18.toInt)
        refine lv_ior hx hb dX10_add_54 ?_
        refine lv_topi (fun x19 ex19 => ?_)
        have gx19 := jrg (rfl : x19.toInt = x19.toInt)
        refine jput (ty := .int) hx hb hts inlX10 tyX10 tyX10_ok nmX10 hown hK hP hJ hA hS (jc_12 cI cL ad σ7 τ) rfl (k := 1) (by decide) (Nat.le_of_ble_eq_true rfl) (jp_12_1 cI cL ad σ7 τ x19) (hts _ kw_16_21) (fun _ h9 => h9) rfl (by decide +kernel) rfl rfl dX10_add_55 (fun σ20 H locs eσ20 hP hS => ?_)
        have z21 : (σ20 12 0).toInt = (σ 12 0).toInt + 1 := by rw [(show σ20 12 0 = x5 from (by rw [eσ20, jup_k (by decide)]; exact (by rw [eσ7, jup_n (by decide)]; exact (by rw [eσ6]; exact jup_s))))]; exact tx5
        have w22 : ∀ k : Nat, k < 160 → 0 ≤ (σ20 13 k).toInt ∧ (σ20 13 k).toInt ≤ 30000 := (by rw [eσ20, jup_n (by decide)]; exact (by rw [eσ7]; exact jrr_up (by rw [eσ6, jup_n (by decide)]; exact w2) (by have h9 := t1; omega) (by have h9 := t1; omega)))
        have I23 : jI12 σ20 := ⟨(by omega), w22⟩
        exact hret σ20 τ _ _ _ _ ⟨rfl, (fun i hi => by rw [eσ20, jup_n (by omega), eσ7, jup_n (by omega), eσ6, jup_n (by omega)]), (fun k hk => by rw [eσ20, jup_k (by omega), eσ7, jup_n (by decide), eσ6, jup_k (by omega)]), I23, trivial⟩ hP hS dX10_add_58
  · have kc3 := jnlt c3 rfl jz_160
    have I24 : jI12 σ := ⟨(by omega), w2⟩
    exact hret σ τ _ _ _ _ ⟨rfl, (fun _ _ => rfl), (fun _ _ => rfl), I24, trivial⟩ hP hS dX10_add_10
set_option maxHeartbeats 4000000 in
set_option maxRecDepth 100000 in
theorem c_X10_copyFrom_18 (l : Launch) (D : va_G) (cI cL : ClassId) (ad zz : Nat → Nat) (hJ : jD ad) (σ : Nat → Nat → Int32) (τ : Nat → Nat → Int64) (hI12 : jI12 σ) (hI18 : jI18 σ) : jMv l yX10_copyFrom cX10_copyFrom 2 none ({ frames := 1, cells := 0, slots := 0, locals := 40 }) D cI cL ad zz [.ref (ad 18), .ref (ad 12)] σ τ (fun σ' τ' => τ = τ' ∧ (∀ i : Nat, (i < 18 ∨ 19 < i) → σ' i = σ i) ∧ (∀ k : Nat, (k < 0 ∨ 0 < k) ∧ (k < 1 ∨ 1 < k) → σ' 18 k = σ 18 k) ∧ (jI18 σ') ∧ True) := by
  refine jMv.of hJ (by decide +kernel) rfl (Nat.le_of_ble_eq_true rfl) ?_
  intro p e s m args below meth c Q ls hC hret hl hP
  obtain ⟨hx, hb, hr, hml, hown, hts, hK, -, hlocks, hZ⟩ := hC
  have hown : s.vm.findClass RX10 = some m.cls := hown
  have hS : va_S (jA ad) s.heap s.heap [] := va_S.rf
  have hA : ∀ q, jA ad q → jA ad q := fun _ h => h
  have hl : lv_has ls 2 [(0, .ref (ad 18)), (1, .ref (ad 12))] := hl
  obtain ⟨i1, w2⟩ : (0 ≤ (σ 12 0).toInt ∧ (σ 12 0).toInt ≤ 160) ∧ (∀ k : Nat, k < 160 → 0 ≤ (σ 13 k).toInt ∧ (σ 13 k).toInt ≤ 30000) := id hI12
  obtain ⟨i3, w4⟩ : (0 ≤ (σ 18 0).toInt ∧ (σ 18 0).toInt ≤ 160) ∧ (∀ k : Nat, k < 160 → 0 ≤ (σ 19 k).toInt ∧ (σ 19 k).toInt ≤ 30000) := id hI18
  refine lv_aload_n hx hb dX10_copyFrom_0 rfl (lv_at hl 0 rfl) ?_
  refine lv_aload_n hx hb dX10_copyFrom_1 rfl (lv_at hl 1 rfl) ?_
  refine va_get (D := D) hx hb hts inlX10 hown hK hP 12 (jc_12 cI cL ad σ τ) rfl 0 (by decide) (hts _ kw_16_20) (fun _ h9 => h9) rfl dX10_copyFrom_2 ?_
  refine jput (ty := .int) hx hb hts inlX10 tyX10 tyX10_ok nmX10 hown hK hP hJ hA hS (jc_18 cI cL ad σ τ) rfl (k := 0) (by decide) (Nat.le_of_ble_eq_true rfl) (jp_18_0 cI cL ad σ τ (σ 12 0)) (hts _ kw_16_20) (fun _ h9 => h9) rfl (by decide +kernel) rfl rfl dX10_copyFrom_5 (fun σ5 H locs eσ5 hP hS => ?_)
  refine lv_aload_n hx hb dX10_copyFrom_8 rfl (lv_at hl 0 rfl) ?_
  refine lv_aload_n hx hb dX10_copyFrom_9 rfl (lv_at hl 1 rfl) ?_
  refine va_get (D := D) hx hb hts inlX10 hown hK hP 12 (jc_12 cI cL ad σ5 τ) rfl 1 (by decide) (hts _ kw_16_21) (fun _ h9 => h9) rfl dX10_copyFrom_10 ?_
  have m6 : σ5 12 1 = (σ 12 1) := (by rw [eσ5, jup_n (by decide)])
  refine jtopr m6 ?_
  refine jput (ty := .int) hx hb hts inlX10 tyX10 tyX10_ok nmX10 hown hK hP hJ hA hS (jc_18 cI cL ad σ5 τ) rfl (k := 1) (by decide) (Nat.le_of_ble_eq_true rfl) (jp_18_1 cI cL ad σ5 τ (σ 12 1)) (hts _ kw_16_21) (fun _ h9 => h9) rfl (by decide +kernel) rfl rfl dX10_copyFrom_13 (fun σ7 H locs eσ7 hP hS => ?_)
  refine lv_aload_n hx hb dX10_copyFrom_16 rfl (lv_at hl 1 rfl) ?_
  refine va_get (D := D) hx hb hts inlX10 hown hK hP 12 (jc_12 cI cL ad σ7 τ) rfl 2 (by decide) (hts _ kw_4_3) (fun _ h9 => h9) rfl dX10_copyFrom_17 ?_
  refine lv_iconst (v := 0) hx hb dX10_copyFrom_20 (by decide) ?_
  refine lv_aload_n hx hb dX10_copyFrom_21 rfl (lv_at hl 0 rfl) ?_
  refine va_get (D := D) hx hb hts inlX10 hown hK hP 18 (jc_18 cI cL ad σ7 τ) rfl 2 (by decide) (hts _ kw_4_3) (fun _ h9 => h9) rfl dX10_copyFrom_22 ?_
  refine lv_iconst (v := 0) hx hb dX10_copyFrom_25 (by decide) ?_
  refine lv_aload_n hx hb dX10_copyFrom_26 rfl (lv_at hl 0 rfl) ?_
  refine va_get (D := D) hx hb hts inlX10 hown hK hP 18 (jc_18 cI cL ad σ7 τ) rfl 0 (by decide) (hts _ kw_16_20) (fun _ h9 => h9) rfl dX10_copyFrom_27 ?_
  have m8 : σ7 18 0 = (σ 12 0) := (by rw [eσ7, jup_k (by decide)]; exact (by rw [eσ5]; exact jup_s))
  refine jtopr m8 ?_
  refine jcpyI (q0 := 13) (q1 := 19) hx hb (hml.trans hl.1.symm) hown (hts _ kw_18_2) (hts _ kw_13_23) (hts _ kw_14_0) (hts _ kw_14_1) hK hP hJ hA hS (jc_13 cI cL ad σ7 τ) (jc_19 cI cL ad σ7 τ) (fun _ => rfl) jz_0 jz_0 rfl (by omega) (by omega) (by omega) (by omega) (by omega) (Nat.le_of_ble_eq_true rfl) (Nat.le_of_ble_eq_true rfl) dX10_copyFrom_30 (fun σ9 H locs eσ9 hP hS => ?_)
  have w10 : ∀ k : Nat, k < 160 → 0 ≤ (σ7 13 k).toInt ∧ (σ7 13 k).toInt ≤ 30000 := (by rw [eσ7, jup_n (by decide)]; exact (by rw [eσ5, jup_n (by decide)]; exact w2))
  have w11 : ∀ k : Nat, k < 160 → 0 ≤ (σ7 19 k).toInt ∧ (σ7 19 k).toInt ≤ 30000 := (by rw [eσ7, jup_n (by decide)]; exact (by rw [eσ5, jup_n (by decide)]; exact w4))
  have f12 : (∀ i : Nat, (i < 19 ∨ 19 < i) → σ9 i = σ7 i) := by rw [eσ9]; exact jrow_n
  have w13 : ∀ k : Nat, k < 160 → 0 ≤ (σ9 19 k).toInt ∧ (σ9 19 k).toInt ≤ 30000 := by rw [eσ9]; exact jrow_rr w10 w11 jz_0 rfl (n0 := 160) (by omega) (by omega) (by omega)
  have z14 : (σ9 18 0).toInt = (σ 12 0).toInt := by rw [(show σ9 18 0 = (σ 12 0) from (by rw [f12 18 (by omega)]; exact m8))]
  have I15 : jI18 σ9 := ⟨(by omega), w13⟩
  exact hret σ9 τ _ _ _ _ ⟨rfl, (fun i hi => by rw [f12 i (by omega), eσ7, jup_n (by omega), eσ5, jup_n (by omega)]), (fun k hk => by rw [f12 18 (by omega), eσ7, jup_k (by omega), eσ5, jup_k (by omega)]), I15, trivial⟩ hP hS dX10_copyFrom_33
set_option maxHeartbeats 4000000 in
set_option maxRecDepth 100000 in
theorem c_X10_say_18 (l : Launch) (D : va_G) (cI cL : ClassId) (ad zz : Nat → Nat) (hJ : jD ad) (σ : Nat → Nat → Int32) (τ : Nat → Nat → Int64) (a1 : Int32) (A1 : Int) (t1 : a1.toInt = A1) (a2 : Int32) (A2 : Int) (t2 : a2.toInt = A2) (a3 : Int32) (A3 : Int) (t3 : a3.toInt = A3) (a4 : Int32) (A4 : Int) (t4 : a4.toInt = A4) (a5 : Int32) (A5 : Int) (t5 : a5.toInt = A5) (a6 : Int32) (A6 : Int) (t6 : a6.toInt = A6) : jMv l yX10_say cX10_say 7 none ({ frames := 0, cells := 0, slots := 0, locals := 0 }) D cI cL ad zz [.ref (ad 18), .int a1, .int a2, .int a3, .int a4, .int a5, .int a6] σ τ (fun σ' τ' => τ = τ' ∧ (∀ i : Nat, (i < 20 ∨ 20 < i) → σ' i = σ i) ∧ True) := by
  refine jMv.of hJ (by decide +kernel) rfl (Nat.le_of_ble_eq_true rfl) ?_
  intro p e s m args below meth c Q ls hC hret hl hP
  obtain ⟨hx, hb, hr, hml, hown, hts, hK, -, hlocks, hZ⟩ := hC
  have hown : s.vm.findClass RX10 = some m.cls := hown
  have hS : va_S (jA ad) s.heap s.heap [] := va_S.rf
  have hA : ∀ q, jA ad q → jA ad q := fun _ h => h
  have hl : lv_has ls 7 [(0, .ref (ad 18)), (1, .int a1), (2, .int a2), (3, .int a3), (4, .int a4), (5, .int a5), (6, .int a6)] := hl
  have g1 := jrg t1
  have g2 := jrg t2
  have g3 := jrg t3
  have g4 := jrg t4
  have g5 := jrg t5
  have g6 := jrg t6
  refine lv_aload_n hx hb dX10_say_0 rfl (lv_at hl 0 rfl) ?_
  refine va_get (D := D) hx hb hts inlX10 hown hK hP 18 (jc_18 cI cL ad σ τ) rfl 3 (by decide) (hts _ kw_4_4) (fun _ h9 => h9) rfl dX10_say_1 ?_
  refine lv_iconst (v := 0) hx hb dX10_say_4 (by decide) ?_
  refine lv_iload_n hx hb dX10_say_5 rfl (lv_at hl 1 rfl) ?_
  refine jast hx hb hK hP hJ hA hS (jc_20 cI cL ad σ τ) (ja_20 cI cL ad σ τ _ _) (jin jz_0 (by omega) (by omega)) dX10_say_6 (fun σ1 H locs eσ1 hP hS => ?_)
  have eσ1 : σ1 = jup σ 20 0 a1 := eσ1
  refine lv_aload_n hx hb dX10_say_7 rfl (lv_at hl 0 rfl) ?_
  refine va_get (D := D) hx hb hts inlX10 hown hK hP 18 (jc_18 cI cL ad σ1 τ) rfl 3 (by decide) (hts _ kw_4_4) (fun _ h9 => h9) rfl dX10_say_8 ?_
  refine lv_iconst (v := 1) hx hb dX10_say_11 (by decide) ?_
  refine lv_iload_n hx hb dX10_say_12 rfl (lv_at hl 2 rfl) ?_
  refine jast hx hb hK hP hJ hA hS (jc_20 cI cL ad σ1 τ) (ja_20 cI cL ad σ1 τ _ _) (jin jz_1 (by omega) (by omega)) dX10_say_13 (fun σ2 H locs eσ2 hP hS => ?_)
  have eσ2 : σ2 = jup σ1 20 1 a2 := eσ2
  refine lv_aload_n hx hb dX10_say_14 rfl (lv_at hl 0 rfl) ?_
  refine va_get (D := D) hx hb hts inlX10 hown hK hP 18 (jc_18 cI cL ad σ2 τ) rfl 3 (by decide) (hts _ kw_4_4) (fun _ h9 => h9) rfl dX10_say_15 ?_
  refine lv_iconst (v := 2) hx hb dX10_say_18 (by decide) ?_
  refine lv_iload_n hx hb dX10_say_19 rfl (lv_at hl 3 rfl) ?_
  refine jast hx hb hK hP hJ hA hS (jc_20 cI cL ad σ2 τ) (ja_20 cI cL ad σ2 τ _ _) (jin jz_2 (by omega) (by omega)) dX10_say_20 (fun σ3 H locs eσ3 hP hS => ?_)
  have eσ3 : σ3 = jup σ2 20 2 a3 := eσ3
  refine lv_aload_n hx hb dX10_say_21 rfl (lv_at hl 0 rfl) ?_
  refine va_get (D := D) hx hb hts inlX10 hown hK hP 18 (jc_18 cI cL ad σ3 τ) rfl 3 (by decide) (hts _ kw_4_4) (fun _ h9 => h9) rfl dX10_say_22 ?_
  refine lv_iconst (v := 3) hx hb dX10_say_25 (by decide) ?_
  refine lv_iload hx hb dX10_say_26 (lv_at hl 4 rfl) ?_
  refine jast hx hb hK hP hJ hA hS (jc_20 cI cL ad σ3 τ) (ja_20 cI cL ad σ3 τ _ _) (jin jz_3 (by omega) (by omega)) dX10_say_28 (fun σ4 H locs eσ4 hP hS => ?_)
  have eσ4 : σ4 = jup σ3 20 3 a4 := eσ4
  refine lv_aload_n hx hb dX10_say_29 rfl (lv_at hl 0 rfl) ?_
  refine va_get (D := D) hx hb hts inlX10 hown hK hP 18 (jc_18 cI cL ad σ4 τ) rfl 3 (by decide) (hts _ kw_4_4) (fun _ h9 => h9) rfl dX10_say_30 ?_
  refine lv_iconst (v := 4) hx hb dX10_say_33 (by decide) ?_
  refine lv_iload hx hb dX10_say_34 (lv_at hl 5 rfl) ?_
  refine jast hx hb hK hP hJ hA hS (jc_20 cI cL ad σ4 τ) (ja_20 cI cL ad σ4 τ _ _) (jin jz_4 (by omega) (by omega)) dX10_say_36 (fun σ5 H locs eσ5 hP hS => ?_)
  have eσ5 : σ5 = jup σ4 20 4 a5 := eσ5
  refine lv_aload_n hx hb dX10_say_37 rfl (lv_at hl 0 rfl) ?_
  refine va_get (D := D) hx hb hts inlX10 hown hK hP 18 (jc_18 cI cL ad σ5 τ) rfl 3 (by decide) (hts _ kw_4_4) (fun _ h9 => h9) rfl dX10_say_38 ?_
  refine lv_iconst (v := 5) hx hb dX10_say_41 (by decide) ?_
  refine lv_iload hx hb dX10_say_42 (lv_at hl 6 rfl) ?_
  refine jast hx hb hK hP hJ hA hS (jc_20 cI cL ad σ5 τ) (ja_20 cI cL ad σ5 τ _ _) (jin jz_5 (by omega) (by omega)) dX10_say_44 (fun σ6 H locs eσ6 hP hS => ?_)
  have eσ6 : σ6 = jup σ5 20 5 a6 := eσ6
  exact hret σ6 τ _ _ _ _ ⟨rfl, (fun i hi => by rw [eσ6, jup_n (by omega), eσ5, jup_n (by omega), eσ4, jup_n (by omega), eσ3, jup_n (by omega), eσ2, jup_n (by omega), eσ1, jup_n (by omega)]), trivial⟩ hP hS dX10_say_45
set_option maxHeartbeats 4000000 in
set_option maxRecDepth 100000 in
theorem c_X10_sayChance_18 (l : Launch) (D : va_G) (cI cL : ClassId) (ad zz : Nat → Nat) (hJ : jD ad) (σ : Nat → Nat → Int32) (τ : Nat → Nat → Int64) (a1 : Int32) (A1 : Int) (t1 : a1.toInt = A1) (a2 : Int32) (A2 : Int) (t2 : a2.toInt = A2) : jMv l yX10_sayChance cX10_sayChance 3 none ({ frames := 0, cells := 0, slots := 0, locals := 0 }) D cI cL ad zz [.ref (ad 18), .int a1, .int a2] σ τ (fun σ' τ' => τ = τ' ∧ (∀ i : Nat, (i < 20 ∨ 20 < i) → σ' i = σ i) ∧ True) := by
  refine jMv.of hJ (by decide +kernel) rfl (Nat.le_of_ble_eq_true rfl) ?_
  intro p e s m args below meth c Q ls hC hret hl hP
  obtain ⟨hx, hb, hr, hml, hown, hts, hK, -, hlocks, hZ⟩ := hC
  have hown : s.vm.findClass RX10 = some m.cls := hown
  have hS : va_S (jA ad) s.heap s.heap [] := va_S.rf
  have hA : ∀ q, jA ad q → jA ad q := fun _ h => h
  have hl : lv_has ls 3 [(0, .ref (ad 18)), (1, .int a1), (2, .int a2)] := hl
  have g1 := jrg t1
  have g2 := jrg t2
  refine lv_aload_n hx hb dX10_sayChance_0 rfl (lv_at hl 0 rfl) ?_
  refine va_get (D := D) hx hb hts inlX10 hown hK hP 18 (jc_18 cI cL ad σ τ) rfl 3 (by decide) (hts _ kw_4_4) (fun _ h9 => h9) rfl dX10_sayChance_1 ?_
  refine lv_bipush (v := 6) hx hb dX10_sayChance_4 (by decide) ?_
  refine lv_iload_n hx hb dX10_sayChance_6 rfl (lv_at hl 1 rfl) ?_
  refine jast hx hb hK hP hJ hA hS (jc_20 cI cL ad σ τ) (ja_20 cI cL ad σ τ _ _) (jin jz_6 (by omega) (by omega)) dX10_sayChance_7 (fun σ1 H locs eσ1 hP hS => ?_)
  have eσ1 : σ1 = jup σ 20 6 a1 := eσ1
  refine lv_aload_n hx hb dX10_sayChance_8 rfl (lv_at hl 0 rfl) ?_
  refine va_get (D := D) hx hb hts inlX10 hown hK hP 18 (jc_18 cI cL ad σ1 τ) rfl 3 (by decide) (hts _ kw_4_4) (fun _ h9 => h9) rfl dX10_sayChance_9 ?_
  refine lv_bipush (v := 7) hx hb dX10_sayChance_12 (by decide) ?_
  refine lv_iload_n hx hb dX10_sayChance_14 rfl (lv_at hl 2 rfl) ?_
  refine jast hx hb hK hP hJ hA hS (jc_20 cI cL ad σ1 τ) (ja_20 cI cL ad σ1 τ _ _) (jin jz_7 (by omega) (by omega)) dX10_sayChance_15 (fun σ2 H locs eσ2 hP hS => ?_)
  have eσ2 : σ2 = jup σ1 20 7 a2 := eσ2
  exact hret σ2 τ _ _ _ _ ⟨rfl, (fun i hi => by rw [eσ2, jup_n (by omega), eσ1, jup_n (by omega)]), trivial⟩ hP hS dX10_sayChance_16
set_option maxHeartbeats 4000000 in
set_option maxRecDepth 100000 in
theorem c_X10_copyFrom_22 (l : Launch) (D : va_G) (cI cL : ClassId) (ad zz : Nat → Nat) (hJ : jD ad) (σ : Nat → Nat → Int32) (τ : Nat → Nat → Int64) (hI12 : jI12 σ) (hI22 : jI22 σ) : jMv l yX10_copyFrom cX10_copyFrom 2 none ({ frames := 1, cells := 0, slots := 0, locals := 40 }) D cI cL ad zz [.ref (ad 22), .ref (ad 12)] σ τ (fun σ' τ' => τ = τ' ∧ (∀ i : Nat, (i < 22 ∨ 23 < i) → σ' i = σ i) ∧ (∀ k : Nat, (k < 0 ∨ 0 < k) ∧ (k < 1 ∨ 1 < k) → σ' 22 k = σ 22 k) ∧ (jI22 σ') ∧ True) := by
  refine jMv.of hJ (by decide +kernel) rfl (Nat.le_of_ble_eq_true rfl) ?_
  intro p e s m args below meth c Q ls hC hret hl hP
  obtain ⟨hx, hb, hr, hml, hown, hts, hK, -, hlocks, hZ⟩ := hC
  have hown : s.vm.findClass RX10 = some m.cls := hown
  have hS : va_S (jA ad) s.heap s.heap [] := va_S.rf
  have hA : ∀ q, jA ad q → jA ad q := fun _ h => h
  have hl : lv_has ls 2 [(0, .ref (ad 22)), (1, .ref (ad 12))] := hl
  obtain ⟨i1, w2⟩ : (0 ≤ (σ 12 0).toInt ∧ (σ 12 0).toInt ≤ 160) ∧ (∀ k : Nat, k < 160 → 0 ≤ (σ 13 k).toInt ∧ (σ 13 k).toInt ≤ 30000) := id hI12
  obtain ⟨i3, w4⟩ : (0 ≤ (σ 22 0).toInt ∧ (σ 22 0).toInt ≤ 160) ∧ (∀ k : Nat, k < 160 → 0 ≤ (σ 23 k).toInt ∧ (σ 23 k).toInt ≤ 30000) := id hI22
  refine lv_aload_n hx hb dX10_copyFrom_0 rfl (lv_at hl 0 rfl) ?_
  refine lv_aload_n hx hb dX10_copyFrom_1 rfl (lv_at hl 1 rfl) ?_
  refine va_get (D := D) hx hb hts inlX10 hown hK hP 12 (jc_12 cI cL ad σ τ) rfl 0 (by decide) (hts _ kw_16_20) (fun _ h9 => h9) rfl dX10_copyFrom_2 ?_
  refine jput (ty := .int) hx hb hts inlX10 tyX10 tyX10_ok nmX10 hown hK hP hJ hA hS (jc_22 cI cL ad σ τ) rfl (k := 0) (by decide) (Nat.le_of_ble_eq_true rfl) (jp_22_0 cI cL ad σ τ (σ 12 0)) (hts _ kw_16_20) (fun _ h9 => h9) rfl (by decide +kernel) rfl rfl dX10_copyFrom_5 (fun σ5 H locs eσ5 hP hS => ?_)
  refine lv_aload_n hx hb dX10_copyFrom_8 rfl (lv_at hl 0 rfl) ?_
  refine lv_aload_n hx hb dX10_copyFrom_9 rfl (lv_at hl 1 rfl) ?_
  refine va_get (D := D) hx hb hts inlX10 hown hK hP 12 (jc_12 cI cL ad σ5 τ) rfl 1 (by decide) (hts _ kw_16_21) (fun _ h9 => h9) rfl dX10_copyFrom_10 ?_
  have m6 : σ5 12 1 = (σ 12 1) := (by rw [eσ5, jup_n (by decide)])
  refine jtopr m6 ?_
  refine jput (ty := .int) hx hb hts inlX10 tyX10 tyX10_ok nmX10 hown hK hP hJ hA hS (jc_22 cI cL ad σ5 τ) rfl (k := 1) (by decide) (Nat.le_of_ble_eq_true rfl) (jp_22_1 cI cL ad σ5 τ (σ 12 1)) (hts _ kw_16_21) (fun _ h9 => h9) rfl (by decide +kernel) rfl rfl dX10_copyFrom_13 (fun σ7 H locs eσ7 hP hS => ?_)
  refine lv_aload_n hx hb dX10_copyFrom_16 rfl (lv_at hl 1 rfl) ?_
  refine va_get (D := D) hx hb hts inlX10 hown hK hP 12 (jc_12 cI cL ad σ7 τ) rfl 2 (by decide) (hts _ kw_4_3) (fun _ h9 => h9) rfl dX10_copyFrom_17 ?_
  refine lv_iconst (v := 0) hx hb dX10_copyFrom_20 (by decide) ?_
  refine lv_aload_n hx hb dX10_copyFrom_21 rfl (lv_at hl 0 rfl) ?_
  refine va_get (D := D) hx hb hts inlX10 hown hK hP 22 (jc_22 cI cL ad σ7 τ) rfl 2 (by decide) (hts _ kw_4_3) (fun _ h9 => h9) rfl dX10_copyFrom_22 ?_
  refine lv_iconst (v := 0) hx hb dX10_copyFrom_25 (by decide) ?_
  refine lv_aload_n hx hb dX10_copyFrom_26 rfl (lv_at hl 0 rfl) ?_
  refine va_get (D := D) hx hb hts inlX10 hown hK hP 22 (jc_22 cI cL ad σ7 τ) rfl 0 (by decide) (hts _ kw_16_20) (fun _ h9 => h9) rfl dX10_copyFrom_27 ?_
  have m8 : σ7 22 0 = (σ 12 0) := (by rw [eσ7, jup_k (by decide)]; exact (by rw [eσ5]; exact jup_s))
  refine jtopr m8 ?_
  refine jcpyI (q0 := 13) (q1 := 23) hx hb (hml.trans hl.1.symm) hown (hts _ kw_18_2) (hts _ kw_13_23) (hts _ kw_14_0) (hts _ kw_14_1) hK hP hJ hA hS (jc_13 cI cL ad σ7 τ) (jc_23 cI cL ad σ7 τ) (fun _ => rfl) jz_0 jz_0 rfl (by omega) (by omega) (by omega) (by omega) (by omega) (Nat.le_of_ble_eq_true rfl) (Nat.le_of_ble_eq_true rfl) dX10_copyFrom_30 (fun σ9 H locs eσ9 hP hS => ?_)
  have w10 : ∀ k : Nat, k < 160 → 0 ≤ (σ7 13 k).toInt ∧ (σ7 13 k).toInt ≤ 30000 := (by rw [eσ7, jup_n (by decide)]; exact (by rw [eσ5, jup_n (by decide)]; exact w2))
  have w11 : ∀ k : Nat, k < 160 → 0 ≤ (σ7 23 k).toInt ∧ (σ7 23 k).toInt ≤ 30000 := (by rw [eσ7, jup_n (by decide)]; exact (by rw [eσ5, jup_n (by decide)]; exact w4))
  have f12 : (∀ i : Nat, (i < 23 ∨ 23 < i) → σ9 i = σ7 i) := by rw [eσ9]; exact jrow_n
  have w13 : ∀ k : Nat, k < 160 → 0 ≤ (σ9 23 k).toInt ∧ (σ9 23 k).toInt ≤ 30000 := by rw [eσ9]; exact jrow_rr w10 w11 jz_0 rfl (n0 := 160) (by omega) (by omega) (by omega)
  have z14 : (σ9 22 0).toInt = (σ 12 0).toInt := by rw [(show σ9 22 0 = (σ 12 0) from (by rw [f12 22 (by omega)]; exact m8))]
  have I15 : jI22 σ9 := ⟨(by omega), w13⟩
  exact hret σ9 τ _ _ _ _ ⟨rfl, (fun i hi => by rw [f12 i (by omega), eσ7, jup_n (by omega), eσ5, jup_n (by omega)]), (fun k hk => by rw [f12 22 (by omega), eσ7, jup_k (by omega), eσ5, jup_k (by omega)]), I15, trivial⟩ hP hS dX10_copyFrom_33
set_option maxHeartbeats 4000000 in
set_option maxRecDepth 100000 in
theorem c_X10_say_22 (l : Launch) (D : va_G) (cI cL : ClassId) (ad zz : Nat → Nat) (hJ : jD ad) (σ : Nat → Nat → Int32) (τ : Nat → Nat → Int64) (a1 : Int32) (A1 : Int) (t1 : a1.toInt = A1) (a2 : Int32) (A2 : Int) (t2 : a2.toInt = A2) (a3 : Int32) (A3 : Int) (t3 : a3.toInt = A3) (a4 : Int32) (A4 : Int) (t4 : a4.toInt = A4) (a5 : Int32) (A5 : Int) (t5 : a5.toInt = A5) (a6 : Int32) (A6 : Int) (t6 : a6.toInt = A6) : jMv l yX10_say cX10_say 7 none ({ frames := 0, cells := 0, slots := 0, locals := 0 }) D cI cL ad zz [.ref (ad 22), .int a1, .int a2, .int a3, .int a4, .int a5, .int a6] σ τ (fun σ' τ' => τ = τ' ∧ (∀ i : Nat, (i < 24 ∨ 24 < i) → σ' i = σ i) ∧ True) := by
  refine jMv.of hJ (by decide +kernel) rfl (Nat.le_of_ble_eq_true rfl) ?_
  intro p e s m args below meth c Q ls hC hret hl hP
  obtain ⟨hx, hb, hr, hml, hown, hts, hK, -, hlocks, hZ⟩ := hC
  have hown : s.vm.findClass RX10 = some m.cls := hown
  have hS : va_S (jA ad) s.heap s.heap [] := va_S.rf
  have hA : ∀ q, jA ad q → jA ad q := fun _ h => h
  have hl : lv_has ls 7 [(0, .ref (ad 22)), (1, .int a1), (2, .int a2), (3, .int a3), (4, .int a4), (5, .int a5), (6, .int a6)] := hl
  have g1 := jrg t1
  have g2 := jrg t2
  have g3 := jrg t3
  have g4 := jrg t4
  have g5 := jrg t5
  have g6 := jrg t6
  refine lv_aload_n hx hb dX10_say_0 rfl (lv_at hl 0 rfl) ?_
  refine va_get (D := D) hx hb hts inlX10 hown hK hP 22 (jc_22 cI cL ad σ τ) rfl 3 (by decide) (hts _ kw_4_4) (fun _ h9 => h9) rfl dX10_say_1 ?_
  refine lv_iconst (v := 0) hx hb dX10_say_4 (by decide) ?_
  refine lv_iload_n hx hb dX10_say_5 rfl (lv_at hl 1 rfl) ?_
  refine jast hx hb hK hP hJ hA hS (jc_24 cI cL ad σ τ) (ja_24 cI cL ad σ τ _ _) (jin jz_0 (by omega) (by omega)) dX10_say_6 (fun σ1 H locs eσ1 hP hS => ?_)
  have eσ1 : σ1 = jup σ 24 0 a1 := eσ1
  refine lv_aload_n hx hb dX10_say_7 rfl (lv_at hl 0 rfl) ?_
  refine va_get (D := D) hx hb hts inlX10 hown hK hP 22 (jc_22 cI cL ad σ1 τ) rfl 3 (by decide) (hts _ kw_4_4) (fun _ h9 => h9) rfl dX10_say_8 ?_
  refine lv_iconst (v := 1) hx hb dX10_say_11 (by decide) ?_
  refine lv_iload_n hx hb dX10_say_12 rfl (lv_at hl 2 rfl) ?_
  refine jast hx hb hK hP hJ hA hS (jc_24 cI cL ad σ1 τ) (ja_24 cI cL ad σ1 τ _ _) (jin jz_1 (by omega) (by omega)) dX10_say_13 (fun σ2 H locs eσ2 hP hS => ?_)
  have eσ2 : σ2 = jup σ1 24 1 a2 := eσ2
  refine lv_aload_n hx hb dX10_say_14 rfl (lv_at hl 0 rfl) ?_
  refine va_get (D := D) hx hb hts inlX10 hown hK hP 22 (jc_22 cI cL ad σ2 τ) rfl 3 (by decide) (hts _ kw_4_4) (fun _ h9 => h9) rfl dX10_say_15 ?_
  refine lv_iconst (v := 2) hx hb dX10_say_18 (by decide) ?_
  refine lv_iload_n hx hb dX10_say_19 rfl (lv_at hl 3 rfl) ?_
  refine jast hx hb hK hP hJ hA hS (jc_24 cI cL ad σ2 τ) (ja_24 cI cL ad σ2 τ _ _) (jin jz_2 (by omega) (by omega)) dX10_say_20 (fun σ3 H locs eσ3 hP hS => ?_)
  have eσ3 : σ3 = jup σ2 24 2 a3 := eσ3
  refine lv_aload_n hx hb dX10_say_21 rfl (lv_at hl 0 rfl) ?_
  refine va_get (D := D) hx hb hts inlX10 hown hK hP 22 (jc_22 cI cL ad σ3 τ) rfl 3 (by decide) (hts _ kw_4_4) (fun _ h9 => h9) rfl dX10_say_22 ?_
  refine lv_iconst (v := 3) hx hb dX10_say_25 (by decide) ?_
  refine lv_iload hx hb dX10_say_26 (lv_at hl 4 rfl) ?_
  refine jast hx hb hK hP hJ hA hS (jc_24 cI cL ad σ3 τ) (ja_24 cI cL ad σ3 τ _ _) (jin jz_3 (by omega) (by omega)) dX10_say_28 (fun σ4 H locs eσ4 hP hS => ?_)
  have eσ4 : σ4 = jup σ3 24 3 a4 := eσ4
  refine lv_aload_n hx hb dX10_say_29 rfl (lv_at hl 0 rfl) ?_
  refine va_get (D := D) hx hb hts inlX10 hown hK hP 22 (jc_22 cI cL ad σ4 τ) rfl 3 (by decide) (hts _ kw_4_4) (fun _ h9 => h9) rfl dX10_say_30 ?_
  refine lv_iconst (v := 4) hx hb dX10_say_33 (by decide) ?_
  refine lv_iload hx hb dX10_say_34 (lv_at hl 5 rfl) ?_
  refine jast hx hb hK hP hJ hA hS (jc_24 cI cL ad σ4 τ) (ja_24 cI cL ad σ4 τ _ _) (jin jz_4 (by omega) (by omega)) dX10_say_36 (fun σ5 H locs eσ5 hP hS => ?_)
  have eσ5 : σ5 = jup σ4 24 4 a5 := eσ5
  refine lv_aload_n hx hb dX10_say_37 rfl (lv_at hl 0 rfl) ?_
  refine va_get (D := D) hx hb hts inlX10 hown hK hP 22 (jc_22 cI cL ad σ5 τ) rfl 3 (by decide) (hts _ kw_4_4) (fun _ h9 => h9) rfl dX10_say_38 ?_
  refine lv_iconst (v := 5) hx hb dX10_say_41 (by decide) ?_
  refine lv_iload hx hb dX10_say_42 (lv_at hl 6 rfl) ?_
  refine jast hx hb hK hP hJ hA hS (jc_24 cI cL ad σ5 τ) (ja_24 cI cL ad σ5 τ _ _) (jin jz_5 (by omega) (by omega)) dX10_say_44 (fun σ6 H locs eσ6 hP hS => ?_)
  have eσ6 : σ6 = jup σ5 24 5 a6 := eσ6
  exact hret σ6 τ _ _ _ _ ⟨rfl, (fun i hi => by rw [eσ6, jup_n (by omega), eσ5, jup_n (by omega), eσ4, jup_n (by omega), eσ3, jup_n (by omega), eσ2, jup_n (by omega), eσ1, jup_n (by omega)]), trivial⟩ hP hS dX10_say_45
set_option maxHeartbeats 4000000 in
set_option maxRecDepth 100000 in
theorem c_X10_joined (l : Launch) (D : va_G) (cI cL : ClassId) (ad zz : Nat → Nat) (hJ : jD ad) (σ : Nat → Nat → Int32) (τ : Nat → Nat → Int64) (a1 : Int32) (A1 : Int) (t1 : a1.toInt = A1) (a2 : Int32) (A2 : Int) (t2 : a2.toInt = A2) (a3 : Int32) (A3 : Int) (t3 : a3.toInt = A3) : jM l yX10_joined cX10_joined 3 (some .int) ({ frames := 0, cells := 0, slots := 0, locals := 0 }) D cI cL ad zz [.int a1, .int a2, .int a3] σ τ (fun r σ' τ' => (σ = σ' ∧ τ = τ') ∧ True) := by
  refine jM.of hJ (by decide +kernel) (nt := .int) rfl (Nat.le_of_ble_eq_true rfl) ?_
  intro p e s m args below meth c Q ls hC hret hl hP
  obtain ⟨hx, hb, hr, hml, hown, hts, hK, -, hlocks, hZ⟩ := hC
  have hown : s.vm.findClass RX10 = some m.cls := hown
  have hS : va_S (jA ad) s.heap s.heap [] := va_S.rf
  have hA : ∀ q, jA ad q → jA ad q := fun _ h => h
  have hl : lv_has ls 3 [(0, .int a1), (1, .int a2), (2, .int a3)] := hl
  have g1 := jrg t1
  have g2 := jrg t2
  have g3 := jrg t3
  refine lv_iload_n hx hb dX10_joined_0 rfl (lv_at hl 0 rfl) ?_
  by_cases c1 : a1 = 37
  · have kc1 := jeq c1 t1 jz_37
    refine jtopr c1 ?_
    refine lv_lookup (off := 176) (tgt := 177) hx hb dX10_joined_1 (by decide) (by decide) (by decide) ?_
    refine lv_iload_n hx hb dX10_joined_177 rfl (lv_at hl 2 rfl) ?_
    refine lv_if_ne (tgt := 185) hx hb dX10_joined_178 (by decide) (fun c2 => ?_) (fun c2 => ?_)
    · have kc2 := jne c2 t3 jz_0
      refine lv_iload_n hx hb dX10_joined_185 rfl (lv_at hl 1 rfl) ?_
      refine lv_iload_n hx hb dX10_joined_186 rfl (lv_at hl 2 rfl) ?_
      refine lv_irem hx hb dX10_joined_187 (fun h => absurd (jeq h t3 jz_0) (by omega)) ?_
      refine lv_topi (fun x3 ex3 => ?_)
      have gx3 := jrg (rfl : x3.toInt = x3.toInt)
      exact hret x3 σ τ _ _ _ _ rfl ⟨⟨rfl, rfl⟩, trivial⟩ hP hS dX10_joined_188
    · have kc2 := jeq c2 t3 jz_0
      refine lv_iconst (v := 0) hx hb dX10_joined_181 (by decide) ?_
      refine lv_goto (tgt := 188) hx hb dX10_joined_182 (by decide) ?_
      exact hret 0 σ τ _ _ _ _ rfl ⟨⟨rfl, rfl⟩, trivial⟩ hP hS dX10_joined_188
  have kc1 := jne c1 t1 jz_37
  by_cases c4 : a1 = 38
  · have kc4 := jeq c4 t1 jz_38
    refine jtopr c4 ?_
    refine lv_lookup (off := 105) (tgt := 106) hx hb dX10_joined_1 (by decide) (by decide) (by decide) ?_
    refine lv_iload_n hx hb dX10_joined_106 rfl (lv_at hl 1 rfl) ?_
    refine lv_if_eq (tgt := 118) hx hb dX10_joined_107 (by decide) (fun c5 => ?_) (fun c5 => ?_)
    · have kc5 := jeq c5 t2 jz_0
      refine lv_iconst (v := 0) hx hb dX10_joined_118 (by decide) ?_
      exact hret 0 σ τ _ _ _ _ rfl ⟨⟨rfl, rfl⟩, trivial⟩ hP hS dX10_joined_119
    · have kc5 := jne c5 t2 jz_0
      refine lv_iload_n hx hb dX10_joined_110 rfl (lv_at hl 2 rfl) ?_
      refine lv_if_eq (tgt := 118) hx hb dX10_joined_111 (by decide) (fun c6 => ?_) (fun c6 => ?_)
      · have kc6 := jeq c6 t3 jz_0
        refine lv_iconst (v := 0) hx hb dX10_joined_118 (by decide) ?_
        exact hret 0 σ τ _ _ _ _ rfl ⟨⟨rfl, rfl⟩, trivial⟩ hP hS dX10_joined_119
      · have kc6 := jne c6 t3 jz_0
        refine lv_iconst (v := 1) hx hb dX10_joined_114 (by decide) ?_
        refine lv_goto (tgt := 119) hx hb dX10_joined_115 (by decide) ?_
        exact hret 1 σ τ _ _ _ _ rfl ⟨⟨rfl, rfl⟩, trivial⟩ hP hS dX10_joined_119
  have kc4 := jne c4 t1 jz_38
  by_cases c7 : a1 = 42
  · have kc7 := jeq c7 t1 jz_42
    refine jtopr c7 ?_
    refine lv_lookup (off := 160) (tgt := 161) hx hb dX10_joined_1 (by decide) (by decide) (by decide) ?_
    refine lv_iload_n hx hb dX10_joined_161 rfl (lv_at hl 1 rfl) ?_
    refine lv_iload_n hx hb dX10_joined_162 rfl (lv_at hl 2 rfl) ?_
    refine lv_imul hx hb dX10_joined_163 ?_
    refine lv_topi (fun x8 ex8 => ?_)
    have gx8 := jrg (rfl : x8.toInt = x8.toInt)
    exact hret x8 σ τ _ _ _ _ rfl ⟨⟨rfl, rfl⟩, trivial⟩ hP hS dX10_joined_164
  have kc7 := jne c7 t1 jz_42
  by_cases c9 : a1 = 43
  · have kc9 := jeq c9 t1 jz_43
    refine jtopr c9 ?_
    refine lv_lookup (off := 152) (tgt := 153) hx hb dX10_joined_1 (by decide) (by decide) (by decide) ?_
    refine lv_iload_n hx hb dX10_joined_153 rfl (lv_at hl 1 rfl) ?_
    refine lv_iload_n hx hb dX10_joined_154 rfl (lv_at hl 2 rfl) ?_
    refine lv_iadd hx hb dX10_joined_155 ?_
    refine lv_topi (fun x10 ex10 => ?_)
    have gx10 := jrg (rfl : x10.toInt = x10.toInt)
    exact hret x10 σ τ _ _ _ _ rfl ⟨⟨rfl, rfl⟩, trivial⟩ hP hS dX10_joined_156
  have kc9 := jne c9 t1 jz_43
  by_cases c11 : a1 = 45
  · have kc11 := jeq c11 t1 jz_45
    refine jtopr c11 ?_
    refine lv_lookup (off := 156) (tgt := 157) hx hb dX10_joined_1 (by decide) (by decide) (by decide) ?_
    refine lv_iload_n hx hb dX10_joined_157 rfl (lv_at hl 1 rfl) ?_
    refine lv_iload_n hx hb dX10_joined_158 rfl (lv_at hl 2 rfl) ?_
    refine lv_isub hx hb dX10_joined_159 ?_
    refine lv_topi (fun x12 ex12 => ?_)
    have gx12 := jrg (rfl : x12.toInt = x12.toInt)
    exact hret x12 σ τ _ _ _ _ rfl ⟨⟨rfl, rfl⟩, trivial⟩ hP hS dX10_joined_160
  have kc11 := jne c11 t1 jz_45
  by_cases c13 : a1 = 47
  · have kc13 := jeq c13 t1 jz_47
    refine jtopr c13 ?_
    refine lv_lookup (off := 164) (tgt := 165) hx hb dX10_joined_1 (by decide) (by decide) (by decide) ?_
    refine lv_iload_n hx hb dX10_joined_165 rfl (lv_at hl 2 rfl) ?_
    refine lv_if_ne (tgt := 173) hx hb dX10_joined_166 (by decide) (fun c14 => ?_) (fun c14 => ?_)
    · have kc14 := jne c14 t3 jz_0
      refine lv_iload_n hx hb dX10_joined_173 rfl (lv_at hl 1 rfl) ?_
      refine lv_iload_n hx hb dX10_joined_174 rfl (lv_at hl 2 rfl) ?_
      refine lv_idiv hx hb dX10_joined_175 (fun h => absurd (jeq h t3 jz_0) (by omega)) ?_
      refine lv_topi (fun x15 ex15 => ?_)
      have gx15 := jrg (rfl : x15.toInt = x15.toInt)
      exact hret x15 σ τ _ _ _ _ rfl ⟨⟨rfl, rfl⟩, trivial⟩ hP hS dX10_joined_176
    · have kc14 := jeq c14 t3 jz_0
      refine lv_iconst (v := 0) hx hb dX10_joined_169 (by decide) ?_
      refine lv_goto (tgt := 176) hx hb dX10_joined_170 (by decide) ?_
      exact hret 0 σ τ _ _ _ _ rfl ⟨⟨rfl, rfl⟩, trivial⟩ hP hS dX10_joined_176
  have kc13 := jne c13 t1 jz_47
  by_cases c16 : a1 = 60
  · have kc16 := jeq c16 t1 jz_60
    refine jtopr c16 ?_
    refine lv_lookup (off := 119) (tgt := 120) hx hb dX10_joined_1 (by decide) (by decide) (by decide) ?_
    refine lv_iload_n hx hb dX10_joined_120 rfl (lv_at hl 1 rfl) ?_
    refine lv_iload_n hx hb dX10_joined_121 rfl (lv_at hl 2 rfl) ?_
    refine lv_icmp_ge (tgt := 129) hx hb dX10_joined_122 (by decide) (fun c17 => ?_) (fun c17 => ?_)
    · have kc17 := jle c17 t3 t2
      refine lv_iconst (v := 0) hx hb dX10_joined_129 (by decide) ?_
      exact hret 0 σ τ _ _ _ _ rfl ⟨⟨rfl, rfl⟩, trivial⟩ hP hS dX10_joined_130
    · have kc17 := jnle c17 t3 t2
      refine lv_iconst (v := 1) hx hb dX10_joined_125 (by decide) ?_
      refine lv_goto (tgt := 130) hx hb dX10_joined_126 (by decide) ?_
      exact hret 1 σ τ _ _ _ _ rfl ⟨⟨rfl, rfl⟩, trivial⟩ hP hS dX10_joined_130
  have kc16 := jne c16 t1 jz_60
  by_cases c18 : a1 = 61
  · have kc18 := jeq c18 t1 jz_61
    refine jtopr c18 ?_
    refine lv_lookup (off := 130) (tgt := 131) hx hb dX10_joined_1 (by decide) (by decide) (by decide) ?_
    refine lv_iload_n hx hb dX10_joined_131 rfl (lv_at hl 1 rfl) ?_
    refine lv_iload_n hx hb dX10_joined_132 rfl (lv_at hl 2 rfl) ?_
    refine lv_icmp_ne (tgt := 140) hx hb dX10_joined_133 (by decide) (fun c19 => ?_) (fun c19 => ?_)
    · have kc19 := jne c19 t2 t3
      refine lv_iconst (v := 0) hx hb dX10_joined_140 (by decide) ?_
      exact hret 0 σ τ _ _ _ _ rfl ⟨⟨rfl, rfl⟩, trivial⟩ hP hS dX10_joined_141
    · have kc19 := jeq c19 t2 t3
      refine lv_iconst (v := 1) hx hb dX10_joined_136 (by decide) ?_
      refine lv_goto (tgt := 141) hx hb dX10_joined_137 (by decide) ?_
      exact hret 1 σ τ _ _ _ _ rfl ⟨⟨rfl, rfl⟩, trivial⟩ hP hS dX10_joined_141
  have kc18 := jne c18 t1 jz_61
  by_cases c20 : a1 = 62
  · have kc20 := jeq c20 t1 jz_62
    refine jtopr c20 ?_
    refine lv_lookup (off := 141) (tgt := 142) hx hb dX10_joined_1 (by decide) (by decide) (by decide) ?_
    refine lv_iload_n hx hb dX10_joined_142 rfl (lv_at hl 1 rfl) ?_
    refine lv_iload_n hx hb dX10_joined_143 rfl (lv_at hl 2 rfl) ?_
    refine lv_icmp_le (tgt := 151) hx hb dX10_joined_144 (by decide) (fun c21 => ?_) (fun c21 => ?_)
    · have kc21 := jle c21 t2 t3
      refine lv_iconst (v := 0) hx hb dX10_joined_151 (by decide) ?_
      exact hret 0 σ τ _ _ _ _ rfl ⟨⟨rfl, rfl⟩, trivial⟩ hP hS dX10_joined_152
    · have kc21 := jnle c21 t2 t3
      refine lv_iconst (v := 1) hx hb dX10_joined_147 (by decide) ?_
      refine lv_goto (tgt := 152) hx hb dX10_joined_148 (by decide) ?_
      exact hret 1 σ τ _ _ _ _ rfl ⟨⟨rfl, rfl⟩, trivial⟩ hP hS dX10_joined_152
  have kc20 := jne c20 t1 jz_62
  by_cases c22 : a1 = 124
  · have kc22 := jeq c22 t1 jz_124
    refine jtopr c22 ?_
    refine lv_lookup (off := 91) (tgt := 92) hx hb dX10_joined_1 (by decide) (by decide) (by decide) ?_
    refine lv_iload_n hx hb dX10_joined_92 rfl (lv_at hl 1 rfl) ?_
    refine lv_if_ne (tgt := 100) hx hb dX10_joined_93 (by decide) (fun c23 => ?_) (fun c23 => ?_)
    · have kc23 := jne c23 t2 jz_0
      refine lv_iconst (v := 1) hx hb dX10_joined_100 (by decide) ?_
      refine lv_goto (tgt := 105) hx hb dX10_joined_101 (by decide) ?_
      exact hret 1 σ τ _ _ _ _ rfl ⟨⟨rfl, rfl⟩, trivial⟩ hP hS dX10_joined_105
    · have kc23 := jeq c23 t2 jz_0
      refine lv_iload_n hx hb dX10_joined_96 rfl (lv_at hl 2 rfl) ?_
      refine lv_if_eq (tgt := 104) hx hb dX10_joined_97 (by decide) (fun c24 => ?_) (fun c24 => ?_)
      · have kc24 := jeq c24 t3 jz_0
        refine lv_iconst (v := 0) hx hb dX10_joined_104 (by decide) ?_
        exact hret 0 σ τ _ _ _ _ rfl ⟨⟨rfl, rfl⟩, trivial⟩ hP hS dX10_joined_105
      · have kc24 := jne c24 t3 jz_0
        refine lv_iconst (v := 1) hx hb dX10_joined_100 (by decide) ?_
        refine lv_goto (tgt := 105) hx hb dX10_joined_101 (by decide) ?_
        exact hret 1 σ τ _ _ _ _ rfl ⟨⟨rfl, rfl⟩, trivial⟩ hP hS dX10_joined_105
  have kc22 := jne c22 t1 jz_124
  refine lv_lookup (off := 188) (tgt := 189) hx hb dX10_joined_1 (by decide) (jlook (fun p hp => by have h9 := t1; simp only [List.mem_cons, List.not_mem_nil, or_false] at hp; rcases hp with hp | hp | hp | hp | hp | hp | hp | hp | hp | hp <;> subst hp <;> simp only [] <;> omega)) (by decide) ?_
  refine lv_iconst (v := 0) hx hb dX10_joined_189 (by decide) ?_
  exact hret 0 σ τ _ _ _ _ rfl ⟨⟨rfl, rfl⟩, trivial⟩ hP hS dX10_joined_190
set_option maxHeartbeats 4000000 in
set_option maxRecDepth 100000 in
theorem c_X10_worked_18 (l : Launch) (D : va_G) (cI cL : ClassId) (ad zz : Nat → Nat) (hJ : jD ad) (σ : Nat → Nat → Int32) (τ : Nat → Nat → Int64) (hI18 : jI18 σ) : jM l yX10_worked cX10_worked 5 (some .int) ({ frames := 1, cells := 0, slots := 0, locals := 22 }) D cI cL ad zz [.ref (ad 18)] σ τ (fun r σ' τ' => τ = τ' ∧ (∀ i : Nat, (i < 21 ∨ 21 < i) → σ' i = σ i) ∧ True) := by
  refine jM.of hJ (by decide +kernel) (nt := .int) rfl (Nat.le_of_ble_eq_true rfl) ?_
  intro p e s m args below meth c Q ls hC hret hl hP
  obtain ⟨hx, hb, hr, hml, hown, hts, hK, -, hlocks, hZ⟩ := hC
  have hown : s.vm.findClass RX10 = some m.cls := hown
  have hS : va_S (jA ad) s.heap s.heap [] := va_S.rf
  have hA : ∀ q, jA ad q → jA ad q := fun _ h => h
  have hl : lv_has ls 5 [(0, .ref (ad 18))] := hl
  obtain ⟨i1, w2⟩ : (0 ≤ (σ 18 0).toInt ∧ (σ 18 0).toInt ≤ 160) ∧ (∀ k : Nat, k < 160 → 0 ≤ (σ 19 k).toInt ∧ (σ 19 k).toInt ≤ 30000) := id hI18
  refine lv_iconst (v := 0) hx hb dX10_worked_0 (by decide) ?_
  refine lv_istore_n (lv' := [(1, .int 0), (0, .ref (ad 18))]) hx hb dX10_worked_1 rfl hl (by decide) rfl (fun ls hl => ?_)
  refine lv_iconst (v := 0) hx hb dX10_worked_2 (by decide) ?_
  refine lv_istore_n (lv' := [(2, .int 0), (1, .int 0), (0, .ref (ad 18))]) hx hb dX10_worked_3 rfl hl (by decide) rfl (fun ls hl => ?_)
  have lp3 : ∀ (n4 : Nat) (x5 : Int32) (x6 : Int32) (σ9 : Nat → Nat → Int32) (H : Heap) (locs : List Loc) (ls : Array Slot), (-x6.toInt + 30001 : Int) < n4 → 0 ≤ x5.toInt → x5.toInt ≤ 160 → 0 ≤ x6.toInt → x6.toInt ≤ 30000 → (∀ i : Nat, (i < 21 ∨ 21 < i) → σ9 i = σ i) → jH D cI cL ad σ9 τ H → va_S (jA ad) s.heap H locs → lv_has ls 5 [(2, .int x6), (1, .int x5), (0, .ref (ad 18))] → W p l e ({ frames := 1, cells := 0, slots := 0, locals := 22 }) s m args below meth c H locs 0 0 Q (F0 m 4 ls []) := by
    intro n4
    induction n4 with
    | zero => intro x5 x6 σ9 H locs ls h10 h11 h12 h13 h14; exact absurd h10 (by omega)
    | succ n4 ihlp3 =>
      intro x5 x6 σ9 H locs ls h10 h11 h12 h13 h14 f15 hP hS hl
      refine lv_iload_n hx hb dX10_worked_4 rfl (lv_at hl 0 rfl) ?_
      refine lv_aload_n hx hb dX10_worked_5 rfl (lv_at hl 2 rfl) ?_
      refine va_get (D := D) hx hb hts inlX10 hown hK hP 18 (jc_18 cI cL ad σ9 τ) rfl 0 (by decide) (hts _ kw_16_20) (fun _ h9 => h9) rfl dX10_worked_6 ?_
      have m16 : σ9 18 0 = (σ 18 0) := (by rw [f15 18 (by omega)])
      refine jtopr m16 ?_
      refine lv_icmp_ge (tgt := 265) hx hb dX10_worked_9 (by decide) (fun c17 => ?_) (fun c17 => ?_)
      · have kc17 := jle c17 rfl rfl
        refine lv_iconst (v := 0) hx hb dX10_worked_265 (by decide) ?_
        exact hret 0 σ9 τ _ _ _ _ rfl ⟨rfl, (fun i hi => by rw [f15 i (by omega)]), trivial⟩ hP hS dX10_worked_266
      · have kc17 := jnle c17 rfl rfl
        refine lv_aload_n hx hb dX10_worked_12 rfl (lv_at hl 2 rfl) ?_
        refine va_get (D := D) hx hb hts inlX10 hown hK hP 18 (jc_18 cI cL ad σ9 τ) rfl 2 (by decide) (hts _ kw_4_3) (fun _ h9 => h9) rfl dX10_worked_13 ?_
        refine lv_iload_n hx hb dX10_worked_16 rfl (lv_at hl 0 rfl) ?_
        refine jald hx hb hK hP (jc_19 cI cL ad σ9 τ) (jin rfl (by omega) (by omega)) dX10_worked_17 ?_
        have w18 : ∀ k : Nat, k < 160 → 0 ≤ (σ9 19 k).toInt ∧ (σ9 19 k).toInt ≤ 30000 := (by rw [f15 19 (by omega)]; exact w2)
        have g19 := w18 _ (jnat (x := x6) rfl (n := 160) (by omega) (by decide))
        refine lv_topi (fun x20 ex20 => ?_)
        rw [← ex20] at g19
        refine lv_istore_n (lv' := [(3, .int x20), (2, .int x6), (1, .int x5), (0, .ref (ad 18))]) hx hb dX10_worked_18 rfl hl (by decide) rfl (fun ls hl => ?_)
        refine lv_iload_n hx hb dX10_worked_19 rfl (lv_at hl 0 rfl) ?_
        refine lv_sipush (v := 20000) hx hb dX10_worked_20 (by decide) ?_
        refine lv_icmp_ge (tgt := 71) hx hb dX10_worked_23 (by decide) (fun c21 => ?_) (fun c21 => ?_)
        · have kc21 := jle c21 jz_20000 rfl
          refine lv_iload_n hx hb dX10_worked_71 rfl (lv_at hl 2 rfl) ?_
          refine lv_iconst (v := 1) hx hb dX10_worked_72 (by decide) ?_
          refine lv_icmp_lt (tgt := 83) hx hb dX10_worked_73 (by decide) (fun c22 => ?_) (fun c22 => ?_)
          · have kc22 := jlt c22 rfl jz_1
            refine lv_iload_n hx hb dX10_worked_83 rfl (lv_at hl 2 rfl) ?_
            refine lv_iconst (v := 1) hx hb dX10_worked_84 (by decide) ?_
            refine lv_icmp_ge (tgt := 92) hx hb dX10_worked_85 (by decide) (fun c => absurd (jle c jz_1 rfl) (by omega)) (fun c23 => ?_)
            have kc23 := jnle c23 jz_1 rfl
            refine lv_iconst (v := 0) hx hb dX10_worked_88 (by decide) ?_
            refine lv_goto (tgt := 100) hx hb dX10_worked_89 (by decide) ?_
            exact hret 0 σ9 τ _ _ _ _ rfl ⟨rfl, (fun i hi => by rw [f15 i (by omega)]), trivial⟩ hP hS dX10_worked_100
          · have kc22 := jnlt c22 rfl jz_1
            refine lv_iload_n hx hb dX10_worked_76 rfl (lv_at hl 0 rfl) ?_
            refine lv_sipush (v := 20059) hx hb dX10_worked_77 (by decide) ?_
            refine lv_icmp_ne (tgt := 101) hx hb dX10_worked_80 (by decide) (fun c24 => ?_) (fun c24 => ?_)
            · have kc24 := jne c24 rfl jz_20059
              refine lv_iload_n hx hb dX10_worked_101 rfl (lv_at hl 0 rfl) ?_
              refine lv_sipush (v := 20063) hx hb dX10_worked_102 (by decide) ?_
              refine lv_icmp_ne (tgt := 160) hx hb dX10_worked_105 (by decide) (fun c25 => ?_) (fun c25 => ?_)
              · have kc25 := jne c25 rfl jz_20063
                refine lv_iload_n hx hb dX10_worked_160 rfl (lv_at hl 0 rfl) ?_
                refine lv_sipush (v := 20033) hx hb dX10_worked_161 (by decide) ?_
                refine lv_icmp_ne (tgt := 194) hx hb dX10_worked_164 (by decide) (fun c26 => ?_) (fun c26 => ?_)
                · have kc26 := jne c26 rfl jz_20033
                  refine lv_iload_n hx hb dX10_worked_194 rfl (lv_at hl 0 rfl) ?_
                  refine lv_sipush (v := 20126) hx hb dX10_worked_195 (by decide) ?_
                  refine lv_icmp_ne (tgt := 221) hx hb dX10_worked_198 (by decide) (fun c27 => ?_) (fun c27 => ?_)
                  · have kc27 := jne c27 rfl jz_20126
                    refine lv_iload_n hx hb dX10_worked_221 rfl (lv_at hl 2 rfl) ?_
                    refine lv_iconst (v := 1) hx hb dX10_worked_222 (by decide) ?_
                    refine lv_icmp_le (tgt := 259) hx hb dX10_worked_223 (by decide) (fun c28 => ?_) (fun c28 => ?_)
                    · have kc28 := jle c28 rfl jz_1
                      obtain ⟨x29, ex29⟩ : ∃ y : Int32, y = x6 + 1 := ⟨_, rfl⟩
                      have tx29 : x29.toInt = x6.toInt + 1 := (jadd ex29 rfl jz_1 (by omega) (by omega)).trans (by omega)
                      refine lv_iinc (v := x29) (lv' := [(2, .int x29), (3, .int x20), (1, .int x5), (0, .ref (ad 18))]) hx hb dX10_worked_259 hl (k := 1) rfl (by rw [ex29]; rfl) (by decide) rfl (fun ls hl => ?_)
                      refine lv_goto (tgt := 4) hx hb dX10_worked_262 (by decide) ?_
                      exact ihlp3 x5 x29 σ9 _ _ ls (by have h91 := tx29; omega) (by have h91 := tx29; omega) (by have h91 := tx29; omega) (by have h91 := tx29; omega) (by have h91 := tx29; omega) (fun i hi => by rw [f15 i hi])    hP hS (lv_sub hl [0, 2, 3] rfl)
                    · have kc28 := jnle c28 rfl jz_1
                      obtain ⟨x30, ex30⟩ : ∃ y : Int32, y = x5 + (-1) := ⟨_, rfl⟩
                      have tx30 : x30.toInt = x5.toInt - 1 := (jadd ex30 rfl jz_m1 (by omega) (by omega)).trans (by omega)
                      refine lv_iinc (v := x30) (lv' := [(1, .int x30), (3, .int x20), (2, .int x6), (0, .ref (ad 18))]) hx hb dX10_worked_226 hl (k := 2) rfl (by rw [ex30]; rfl) (by decide) rfl (fun ls hl => ?_)
                      refine lv_aload_n hx hb dX10_worked_229 rfl (lv_at hl 3 rfl) ?_
                      refine va_get (D := D) hx hb hts inlX10 hown hK hP 18 (jc_18 cI cL ad σ9 τ) rfl 4 (by decide) (hts _ kw_4_5) (fun _ h9 => h9) rfl dX10_worked_230 ?_
                      refine lv_iload_n hx hb dX10_worked_233 rfl (lv_at hl 0 rfl) ?_
                      refine lv_iconst (v := 1) hx hb dX10_worked_234 (by decide) ?_
                      refine lv_isub hx hb dX10_worked_235 ?_
                      refine lv_topi (fun x31 ex31 => ?_)
                      have tx31 : x31.toInt = x5.toInt - 2 := (jsub ex31 tx30 jz_1 (by omega) (by omega)).trans (by omega)
                      refine lv_iload_n hx hb dX10_worked_236 rfl (lv_at hl 1 rfl) ?_
                      refine lv_sipush (v := 20000) hx hb dX10_worked_237 (by decide) ?_
                      have g32 := jrg (rfl : x20.toInt = x20.toInt)
                      refine lv_isub hx hb dX10_worked_240 ?_
                      refine lv_topi (fun x33 ex33 => ?_)
                      have tx33 : x33.toInt = x20.toInt - 20000 := (jsub ex33 rfl jz_20000 (by omega) (by omega)).trans (by omega)
                      refine lv_aload_n hx hb dX10_worked_241 rfl (lv_at hl 3 rfl) ?_
                      refine va_get (D := D) hx hb hts inlX10 hown hK hP 18 (jc_18 cI cL ad σ9 τ) rfl 4 (by decide) (hts _ kw_4_5) (fun _ h9 => h9) rfl dX10_worked_242 ?_
                      refine lv_iload_n hx hb dX10_worked_245 rfl (lv_at hl 0 rfl) ?_
                      refine lv_iconst (v := 1) hx hb dX10_worked_246 (by decide) ?_
                      refine lv_isub hx hb dX10_worked_247 ?_
                      refine lv_topi (fun x34 ex34 => ?_)
                      have tx34 : x34.toInt = x5.toInt - 2 := (jsub ex34 tx30 jz_1 (by omega) (by omega)).trans (by omega)
                      refine jald hx hb hK hP (jc_21 cI cL ad σ9 τ) (jin tx34 (by omega) (by omega)) dX10_worked_248 ?_
                      refine lv_topi (fun x35 ex35 => ?_)
                      refine lv_aload_n hx hb dX10_worked_249 rfl (lv_at hl 3 rfl) ?_
                      refine va_get (D := D) hx hb hts inlX10 hown hK hP 18 (jc_18 cI cL ad σ9 τ) rfl 4 (by decide) (hts _ kw_4_5) (fun _ h9 => h9) rfl dX10_worked_250 ?_
                      refine lv_iload_n hx hb dX10_worked_253 rfl (lv_at hl 0 rfl) ?_
                      refine jald hx hb hK hP (jc_21 cI cL ad σ9 τ) (jin tx30 (by omega) (by omega)) dX10_worked_254 ?_
                      refine lv_topi (fun x36 ex36 => ?_)
                      refine jcallS (As := [.int x33, .int x35, .int x36]) (rest := [.int x31, .ref (ad 21)]) ⟨hx, hb, hml, hown, hts⟩ hK hP hA hS hZ (c_X10_joined l D cI cL ad zz hJ σ9 τ x33 (x20.toInt - 20000) tx33 x35 (x35.toInt) rfl x36 (x36.toInt) rfl) cw_RX10_38 ⟨Nat.le_of_ble_eq_true rfl, Nat.le_of_ble_eq_true rfl⟩ rfl rfl rfl hl.1 rfl (Nat.le_of_ble_eq_true rfl) dX10_worked_255 ⟨Nat.zero_le _, Nat.zero_le _⟩ (fun r38 σ37 τ37 H locs h37 hP hS => ?_)
                      obtain ⟨⟨rfl, rfl⟩, h37⟩ := h37
                      refine jast hx hb hK hP hJ hA hS (jc_21 cI cL ad σ9 τ) (ja_21 cI cL ad σ9 τ _ _) (jin tx31 (by omega) (by omega)) dX10_worked_258 (fun σ39 H locs eσ39 hP hS => ?_)
                      obtain ⟨x40, ex40⟩ : ∃ y : Int32, y = x6 + 1 := ⟨_, rfl⟩
                      have tx40 : x40.toInt = x6.toInt + 1 := (jadd ex40 rfl jz_1 (by omega) (by omega)).trans (by omega)
                      refine lv_iinc (v := x40) (lv' := [(2, .int x40), (1, .int x30), (3, .int x20), (0, .ref (ad 18))]) hx hb dX10_worked_259 hl (k := 2) rfl (by rw [ex40]; rfl) (by decide) rfl (fun ls hl => ?_)
                      refine lv_goto (tgt := 4) hx hb dX10_worked_262 (by decide) ?_
                      exact ihlp3 x30 x40 σ39 _ _ ls (by have h90 := tx30; have h91 := tx40; omega) (by have h90 := tx30; have h91 := tx40; omega) (by have h90 := tx30; have h91 := tx40; omega) (by have h90 := tx30; have h91 := tx40; omega) (by have h90 := tx30; have h91 := tx40; omega) (fun i hi => by rw [eσ39, jup_n (by omega), f15 i hi])    hP hS (lv_sub hl [0, 1, 3] rfl)
                  · have kc27 := jeq c27 rfl jz_20126
                    refine lv_aload_n hx hb dX10_worked_201 rfl (lv_at hl 3 rfl) ?_
                    refine va_get (D := D) hx hb hts inlX10 hown hK hP 18 (jc_18 cI cL ad σ9 τ) rfl 4 (by decide) (hts _ kw_4_5) (fun _ h9 => h9) rfl dX10_worked_202 ?_
                    refine lv_iload_n hx hb dX10_worked_205 rfl (lv_at hl 2 rfl) ?_
                    refine lv_iconst (v := 1) hx hb dX10_worked_206 (by decide) ?_
                    have g41 := jrg (rfl : x5.toInt = x5.toInt)
                    refine lv_isub hx hb dX10_worked_207 ?_
                    refine lv_topi (fun x42 ex42 => ?_)
                    have tx42 : x42.toInt = x5.toInt - 1 := (jsub ex42 rfl jz_1 (by omega) (by omega)).trans (by omega)
                    refine lv_aload_n hx hb dX10_worked_208 rfl (lv_at hl 3 rfl) ?_
                    refine va_get (D := D) hx hb hts inlX10 hown hK hP 18 (jc_18 cI cL ad σ9 τ) rfl 4 (by decide) (hts _ kw_4_5) (fun _ h9 => h9) rfl dX10_worked_209 ?_
                    refine lv_iload_n hx hb dX10_worked_212 rfl (lv_at hl 2 rfl) ?_
                    refine lv_iconst (v := 1) hx hb dX10_worked_213 (by decide) ?_
                    refine lv_isub hx hb dX10_worked_214 ?_
                    refine lv_topi (fun x43 ex43 => ?_)
                    have tx43 : x43.toInt = x5.toInt - 1 := (jsub ex43 rfl jz_1 (by omega) (by omega)).trans (by omega)
                    refine jald hx hb hK hP (jc_21 cI cL ad σ9 τ) (jin tx43 (by omega) (by omega)) dX10_worked_215 ?_
                    refine lv_topi (fun x44 ex44 => ?_)
                    refine lv_ineg hx hb dX10_worked_216 ?_
                    refine lv_topi (fun x45 ex45 => ?_)
                    have gx45 := jrg (rfl : x45.toInt = x45.toInt)
                    refine jast hx hb hK hP hJ hA hS (jc_21 cI cL ad σ9 τ) (ja_21 cI cL ad σ9 τ _ _) (jin tx42 (by omega) (by omega)) dX10_worked_217 (fun σ46 H locs eσ46 hP hS => ?_)
                    refine lv_goto (tgt := 259) hx hb dX10_worked_218 (by decide) ?_
                    obtain ⟨x47, ex47⟩ : ∃ y : Int32, y = x6 + 1 := ⟨_, rfl⟩
                    have tx47 : x47.toInt = x6.toInt + 1 := (jadd ex47 rfl jz_1 (by omega) (by omega)).trans (by omega)
                    refine lv_iinc (v := x47) (lv' := [(2, .int x47), (3, .int x20), (1, .int x5), (0, .ref (ad 18))]) hx hb dX10_worked_259 hl (k := 1) rfl (by rw [ex47]; rfl) (by decide) rfl (fun ls hl => ?_)
                    refine lv_goto (tgt := 4) hx hb dX10_worked_262 (by decide) ?_
                    exact ihlp3 x5 x47 σ46 _ _ ls (by have h91 := tx47; omega) (by have h91 := tx47; omega) (by have h91 := tx47; omega) (by have h91 := tx47; omega) (by have h91 := tx47; omega) (fun i hi => by rw [eσ46, jup_n (by omega), f15 i hi])    hP hS (lv_sub hl [0, 2, 3] rfl)
                · have kc26 := jeq c26 rfl jz_20033
                  refine lv_aload_n hx hb dX10_worked_167 rfl (lv_at hl 3 rfl) ?_
                  refine va_get (D := D) hx hb hts inlX10 hown hK hP 18 (jc_18 cI cL ad σ9 τ) rfl 4 (by decide) (hts _ kw_4_5) (fun _ h9 => h9) rfl dX10_worked_168 ?_
                  refine lv_iload_n hx hb dX10_worked_171 rfl (lv_at hl 2 rfl) ?_
                  refine lv_iconst (v := 1) hx hb dX10_worked_172 (by decide) ?_
                  have g48 := jrg (rfl : x5.toInt = x5.toInt)
                  refine lv_isub hx hb dX10_worked_173 ?_
                  refine lv_topi (fun x49 ex49 => ?_)
                  have tx49 : x49.toInt = x5.toInt - 1 := (jsub ex49 rfl jz_1 (by omega) (by omega)).trans (by omega)
                  refine lv_aload_n hx hb dX10_worked_174 rfl (lv_at hl 3 rfl) ?_
                  refine va_get (D := D) hx hb hts inlX10 hown hK hP 18 (jc_18 cI cL ad σ9 τ) rfl 4 (by decide) (hts _ kw_4_5) (fun _ h9 => h9) rfl dX10_worked_175 ?_
                  refine lv_iload_n hx hb dX10_worked_178 rfl (lv_at hl 2 rfl) ?_
                  refine lv_iconst (v := 1) hx hb dX10_worked_179 (by decide) ?_
                  refine lv_isub hx hb dX10_worked_180 ?_
                  refine lv_topi (fun x50 ex50 => ?_)
                  have tx50 : x50.toInt = x5.toInt - 1 := (jsub ex50 rfl jz_1 (by omega) (by omega)).trans (by omega)
                  refine jald hx hb hK hP (jc_21 cI cL ad σ9 τ) (jin tx50 (by omega) (by omega)) dX10_worked_181 ?_
                  refine lv_topi (fun x51 ex51 => ?_)
                  refine lv_if_ne (tgt := 189) hx hb dX10_worked_182 (by decide) (fun c52 => ?_) (fun c52 => ?_)
                  · have kc52 := jne c52 rfl jz_0
                    refine lv_iconst (v := 0) hx hb dX10_worked_189 (by decide) ?_
                    refine jast hx hb hK hP hJ hA hS (jc_21 cI cL ad σ9 τ) (ja_21 cI cL ad σ9 τ _ _) (jin tx49 (by omega) (by omega)) dX10_worked_190 (fun σ53 H locs eσ53 hP hS => ?_)
                    refine lv_goto (tgt := 259) hx hb dX10_worked_191 (by decide) ?_
                    obtain ⟨x54, ex54⟩ : ∃ y : Int32, y = x6 + 1 := ⟨_, rfl⟩
                    have tx54 : x54.toInt = x6.toInt + 1 := (jadd ex54 rfl jz_1 (by omega) (by omega)).trans (by omega)
                    refine lv_iinc (v := x54) (lv' := [(2, .int x54), (3, .int x20), (1, .int x5), (0, .ref (ad 18))]) hx hb dX10_worked_259 hl (k := 1) rfl (by rw [ex54]; rfl) (by decide) rfl (fun ls hl => ?_)
                    refine lv_goto (tgt := 4) hx hb dX10_worked_262 (by decide) ?_
                    exact ihlp3 x5 x54 σ53 _ _ ls (by have h91 := tx54; omega) (by have h91 := tx54; omega) (by have h91 := tx54; omega) (by have h91 := tx54; omega) (by have h91 := tx54; omega) (fun i hi => by rw [eσ53, jup_n (by omega), f15 i hi])    hP hS (lv_sub hl [0, 2, 3] rfl)
                  · have kc52 := jeq c52 rfl jz_0
                    refine lv_iconst (v := 1) hx hb dX10_worked_185 (by decide) ?_
                    refine lv_goto (tgt := 190) hx hb dX10_worked_186 (by decide) ?_
                    refine jast hx hb hK hP hJ hA hS (jc_21 cI cL ad σ9 τ) (ja_21 cI cL ad σ9 τ _ _) (jin tx49 (by omega) (by omega)) dX10_worked_190 (fun σ55 H locs eσ55 hP hS => ?_)
                    refine lv_goto (tgt := 259) hx hb dX10_worked_191 (by decide) ?_
                    obtain ⟨x56, ex56⟩ : ∃ y : Int32, y = x6 + 1 := ⟨_, rfl⟩
                    have tx56 : x56.toInt = x6.toInt + 1 := (jadd ex56 rfl jz_1 (by omega) (by omega)).trans (by omega)
                    refine lv_iinc (v := x56) (lv' := [(2, .int x56), (3, .int x20), (1, .int x5), (0, .ref (ad 18))]) hx hb dX10_worked_259 hl (k := 1) rfl (by rw [ex56]; rfl) (by decide) rfl (fun ls hl => ?_)
                    refine lv_goto (tgt := 4) hx hb dX10_worked_262 (by decide) ?_
                    exact ihlp3 x5 x56 σ55 _ _ ls (by have h91 := tx56; omega) (by have h91 := tx56; omega) (by have h91 := tx56; omega) (by have h91 := tx56; omega) (by have h91 := tx56; omega) (fun i hi => by rw [eσ55, jup_n (by omega), f15 i hi])    hP hS (lv_sub hl [0, 2, 3] rfl)
              · have kc25 := jeq c25 rfl jz_20063
                refine lv_aload_n hx hb dX10_worked_108 rfl (lv_at hl 3 rfl) ?_
                refine va_get (D := D) hx hb hts inlX10 hown hK hP 18 (jc_18 cI cL ad σ9 τ) rfl 4 (by decide) (hts _ kw_4_5) (fun _ h9 => h9) rfl dX10_worked_109 ?_
                refine lv_iload_n hx hb dX10_worked_112 rfl (lv_at hl 2 rfl) ?_
                refine lv_iconst (v := 1) hx hb dX10_worked_113 (by decide) ?_
                have g57 := jrg (rfl : x5.toInt = x5.toInt)
                refine lv_isub hx hb dX10_worked_114 ?_
                refine lv_topi (fun x58 ex58 => ?_)
                have tx58 : x58.toInt = x5.toInt - 1 := (jsub ex58 rfl jz_1 (by omega) (by omega)).trans (by omega)
                refine jald hx hb hK hP (jc_21 cI cL ad σ9 τ) (jin tx58 (by omega) (by omega)) dX10_worked_115 ?_
                refine lv_topi (fun x59 ex59 => ?_)
                refine lv_if_eq (tgt := 123) hx hb dX10_worked_116 (by decide) (fun c60 => ?_) (fun c60 => ?_)
                · have kc60 := jeq c60 rfl jz_0
                  refine lv_iconst (v := 0) hx hb dX10_worked_123 (by decide) ?_
                  refine lv_istore (lv' := [(4, .int 0), (3, .int x20), (2, .int x6), (1, .int x5), (0, .ref (ad 18))]) hx hb dX10_worked_124 hl (by decide) rfl (fun ls hl => ?_)
                  refine lv_iconst (v := 0) hx hb dX10_worked_126 (by decide) ?_
                  refine lv_istore_n (lv' := [(1, .int 0), (4, .int 0), (3, .int x20), (2, .int x6), (0, .ref (ad 18))]) hx hb dX10_worked_127 rfl hl (by decide) rfl (fun ls hl => ?_)
                  obtain ⟨x61, ex61⟩ : ∃ y : Int32, y = x6 + 1 := ⟨_, rfl⟩
                  have tx61 : x61.toInt = x6.toInt + 1 := (jadd ex61 rfl jz_1 (by omega) (by omega)).trans (by omega)
                  refine lv_iinc (v := x61) (lv' := [(2, .int x61), (1, .int 0), (4, .int 0), (3, .int x20), (0, .ref (ad 18))]) hx hb dX10_worked_128 hl (k := 3) rfl (by rw [ex61]; rfl) (by decide) rfl (fun ls hl => ?_)
                  refine lv_iload hx hb dX10_worked_131 (lv_at hl 2 rfl) ?_
                  refine lv_if_ne (tgt := 157) hx hb dX10_worked_133 (by decide) (fun c => absurd (by decide) c) (fun _ => ?_)
                  refine lv_iload_n hx hb dX10_worked_136 rfl (lv_at hl 0 rfl) ?_
                  refine lv_aload_n hx hb dX10_worked_137 rfl (lv_at hl 4 rfl) ?_
                  refine va_get (D := D) hx hb hts inlX10 hown hK hP 18 (jc_18 cI cL ad σ9 τ) rfl 0 (by decide) (hts _ kw_16_20) (fun _ h9 => h9) rfl dX10_worked_138 ?_
                  refine jtopr m16 ?_
                  refine lv_icmp_ge (tgt := 157) hx hb dX10_worked_141 (by decide) (fun c62 => ?_) (fun c62 => ?_)
                  · have kc62 := jle c62 rfl tx61
                    refine lv_goto (tgt := 259) hx hb dX10_worked_157 (by decide) ?_
                    obtain ⟨x63, ex63⟩ : ∃ y : Int32, y = x61 + 1 := ⟨_, rfl⟩
                    have tx63 : x63.toInt = x6.toInt + 2 := (jadd ex63 tx61 jz_1 (by omega) (by omega)).trans (by omega)
                    refine lv_iinc (v := x63) (lv' := [(2, .int x63), (1, .int 0), (4, .int 0), (3, .int x20), (0, .ref (ad 18))]) hx hb dX10_worked_259 hl (k := 0) rfl (by rw [ex63]; rfl) (by decide) rfl (fun ls hl => ?_)
                    refine lv_goto (tgt := 4) hx hb dX10_worked_262 (by decide) ?_
                    exact ihlp3 0 x63 σ9 _ _ ls (by have h90 := jz_0; have h91 := tx63; omega) (by have h90 := jz_0; have h91 := tx63; omega) (by have h90 := jz_0; have h91 := tx63; omega) (by have h90 := jz_0; have h91 := tx63; omega) (by have h90 := jz_0; have h91 := tx63; omega) (fun i hi => by rw [f15 i hi])    hP hS (lv_sub hl [0, 1, 4] rfl)
                  · have kc62 := jnle c62 rfl tx61
                    refine lv_iload_n hx hb dX10_worked_144 rfl (lv_at hl 0 rfl) ?_
                    refine lv_aload_n hx hb dX10_worked_145 rfl (lv_at hl 4 rfl) ?_
                    refine va_get (D := D) hx hb hts inlX10 hown hK hP 18 (jc_18 cI cL ad σ9 τ) rfl 2 (by decide) (hts _ kw_4_3) (fun _ h9 => h9) rfl dX10_worked_146 ?_
                    refine lv_iload_n hx hb dX10_worked_149 rfl (lv_at hl 0 rfl) ?_
                    refine jald hx hb hK hP (jc_19 cI cL ad σ9 τ) (jin tx61 (by omega) (by omega)) dX10_worked_150 ?_
                    have g64 := w18 _ (jnat (x := x61) tx61 (n := 160) (by omega) (by decide))
                    refine lv_topi (fun x65 ex65 => ?_)
                    rw [← ex65] at g64
                    refine lv_iconst (v := 1) hx hb dX10_worked_151 (by decide) ?_
                    have g66 := jrg (rfl : x65.toInt = x65.toInt)
                    refine lv_isub hx hb dX10_worked_152 ?_
                    refine lv_topi (fun x67 ex67 => ?_)
                    have tx67 : x67.toInt = x65.toInt - 1 := (jsub ex67 rfl jz_1 (by omega) (by omega)).trans (by omega)
                    refine va_mmax hx hb (hml.trans hl.1.symm) hown (hts _ kw_22_21) (hts _ kw_21_0) (hts _ kw_21_1) (hts _ kw_21_2) (Nat.le_of_ble_eq_true rfl) (Nat.le_of_ble_eq_true rfl) (Nat.le_of_ble_eq_true rfl) (Nat.le_of_ble_eq_true rfl) dX10_worked_153 ?_
                    refine lv_topi (fun x68 ex68 => ?_)
                    have g69 := jmax ex68 tx61 tx67
                    refine lv_istore_n (lv' := [(2, .int x68), (1, .int 0), (4, .int 0), (3, .int x20), (0, .ref (ad 18))]) hx hb dX10_worked_156 rfl hl (by decide) rfl (fun ls hl => ?_)
                    refine lv_goto (tgt := 259) hx hb dX10_worked_157 (by decide) ?_
                    obtain ⟨x70, ex70⟩ : ∃ y : Int32, y = x68 + 1 := ⟨_, rfl⟩
                    have tx70 : x70.toInt = x68.toInt + 1 := (jadd ex70 rfl jz_1 (by omega) (by omega)).trans (by omega)
                    refine lv_iinc (v := x70) (lv' := [(2, .int x70), (1, .int 0), (4, .int 0), (3, .int x20), (0, .ref (ad 18))]) hx hb dX10_worked_259 hl (k := 0) rfl (by rw [ex70]; rfl) (by decide) rfl (fun ls hl => ?_)
                    refine lv_goto (tgt := 4) hx hb dX10_worked_262 (by decide) ?_
                    exact ihlp3 0 x70 σ9 _ _ ls (by have h90 := jz_0; have h91 := tx70; omega) (by have h90 := jz_0; have h91 := tx70; omega) (by have h90 := jz_0; have h91 := tx70; omega) (by have h90 := jz_0; have h91 := tx70; omega) (by have h90 := jz_0; have h91 := tx70; omega) (fun i hi => by rw [f15 i hi])    hP hS (lv_sub hl [0, 1, 4] rfl)
                · have kc60 := jne c60 rfl jz_0
                  refine lv_iconst (v := 1) hx hb dX10_worked_119 (by decide) ?_
                  refine lv_goto (tgt := 124) hx hb dX10_worked_120 (by decide) ?_
                  refine lv_istore (lv' := [(4, .int 1), (3, .int x20), (2, .int x6), (1, .int x5), (0, .ref (ad 18))]) hx hb dX10_worked_124 hl (by decide) rfl (fun ls hl => ?_)
                  refine lv_iconst (v := 0) hx hb dX10_worked_126 (by decide) ?_
                  refine lv_istore_n (lv' := [(1, .int 0), (4, .int 1), (3, .int x20), (2, .int x6), (0, .ref (ad 18))]) hx hb dX10_worked_127 rfl hl (by decide) rfl (fun ls hl => ?_)
                  obtain ⟨x71, ex71⟩ : ∃ y : Int32, y = x6 + 1 := ⟨_, rfl⟩
                  have tx71 : x71.toInt = x6.toInt + 1 := (jadd ex71 rfl jz_1 (by omega) (by omega)).trans (by omega)
                  refine lv_iinc (v := x71) (lv' := [(2, .int x71), (1, .int 0), (4, .int 1), (3, .int x20), (0, .ref (ad 18))]) hx hb dX10_worked_128 hl (k := 3) rfl (by rw [ex71]; rfl) (by decide) rfl (fun ls hl => ?_)
                  refine lv_iload hx hb dX10_worked_131 (lv_at hl 2 rfl) ?_
                  refine lv_if_ne (tgt := 157) hx hb dX10_worked_133 (by decide) (fun _ => ?_) (fun c => absurd c (by decide))
                  refine lv_goto (tgt := 259) hx hb dX10_worked_157 (by decide) ?_
                  obtain ⟨x72, ex72⟩ : ∃ y : Int32, y = x71 + 1 := ⟨_, rfl⟩
                  have tx72 : x72.toInt = x6.toInt + 2 := (jadd ex72 tx71 jz_1 (by omega) (by omega)).trans (by omega)
                  refine lv_iinc (v := x72) (lv' := [(2, .int x72), (1, .int 0), (4, .int 1), (3, .int x20), (0, .ref (ad 18))]) hx hb dX10_worked_259 hl (k := 0) rfl (by rw [ex72]; rfl) (by decide) rfl (fun ls hl => ?_)
                  refine lv_goto (tgt := 4) hx hb dX10_worked_262 (by decide) ?_
                  exact ihlp3 0 x72 σ9 _ _ ls (by have h90 := jz_0; have h91 := tx72; omega) (by have h90 := jz_0; have h91 := tx72; omega) (by have h90 := jz_0; have h91 := tx72; omega) (by have h90 := jz_0; have h91 := tx72; omega) (by have h90 := jz_0; have h91 := tx72; omega) (fun i hi => by rw [f15 i hi])    hP hS (lv_sub hl [0, 1, 4] rfl)
            · have kc24 := jeq c24 rfl jz_20059
              refine lv_iload_n hx hb dX10_worked_83 rfl (lv_at hl 2 rfl) ?_
              refine lv_iconst (v := 1) hx hb dX10_worked_84 (by decide) ?_
              refine lv_icmp_ge (tgt := 92) hx hb dX10_worked_85 (by decide) (fun c73 => ?_) (fun c => absurd (jnle c jz_1 rfl) (by omega))
              have kc73 := jle c73 jz_1 rfl
              refine lv_aload_n hx hb dX10_worked_92 rfl (lv_at hl 3 rfl) ?_
              refine va_get (D := D) hx hb hts inlX10 hown hK hP 18 (jc_18 cI cL ad σ9 τ) rfl 4 (by decide) (hts _ kw_4_5) (fun _ h9 => h9) rfl dX10_worked_93 ?_
              refine lv_iload_n hx hb dX10_worked_96 rfl (lv_at hl 2 rfl) ?_
              refine lv_iconst (v := 1) hx hb dX10_worked_97 (by decide) ?_
              have g74 := jrg (rfl : x5.toInt = x5.toInt)
              refine lv_isub hx hb dX10_worked_98 ?_
              refine lv_topi (fun x75 ex75 => ?_)
              have tx75 : x75.toInt = x5.toInt - 1 := (jsub ex75 rfl jz_1 (by omega) (by omega)).trans (by omega)
              refine jald hx hb hK hP (jc_21 cI cL ad σ9 τ) (jin tx75 (by omega) (by omega)) dX10_worked_99 ?_
              refine lv_topi (fun x76 ex76 => ?_)
              exact hret x76 σ9 τ _ _ _ _ rfl ⟨rfl, (fun i hi => by rw [f15 i (by omega)]), trivial⟩ hP hS dX10_worked_100
        · have kc21 := jnle c21 jz_20000 rfl
          refine lv_iload_n hx hb dX10_worked_26 rfl (lv_at hl 2 rfl) ?_
          refine lv_sipush (v := 160) hx hb dX10_worked_27 (by decide) ?_
          refine lv_icmp_lt (tgt := 35) hx hb dX10_worked_30 (by decide) (fun c77 => ?_) (fun c77 => ?_)
          · have kc77 := jlt c77 rfl jz_160
            refine lv_aload_n hx hb dX10_worked_35 rfl (lv_at hl 3 rfl) ?_
            refine va_get (D := D) hx hb hts inlX10 hown hK hP 18 (jc_18 cI cL ad σ9 τ) rfl 4 (by decide) (hts _ kw_4_5) (fun _ h9 => h9) rfl dX10_worked_36 ?_
            refine lv_iload_n hx hb dX10_worked_39 rfl (lv_at hl 2 rfl) ?_
            obtain ⟨x78, ex78⟩ : ∃ y : Int32, y = x5 + 1 := ⟨_, rfl⟩
            have tx78 : x78.toInt = x5.toInt + 1 := (jadd ex78 rfl jz_1 (by omega) (by omega)).trans (by omega)
            refine lv_iinc (v := x78) (lv' := [(1, .int x78), (3, .int x20), (2, .int x6), (0, .ref (ad 18))]) hx hb dX10_worked_40 hl (k := 2) rfl (by rw [ex78]; rfl) (by decide) rfl (fun ls hl => ?_)
            refine lv_iload_n hx hb dX10_worked_43 rfl (lv_at hl 1 rfl) ?_
            refine lv_sipush (v := 10000) hx hb dX10_worked_44 (by decide) ?_
            refine lv_icmp_ge (tgt := 54) hx hb dX10_worked_47 (by decide) (fun c79 => ?_) (fun c79 => ?_)
            · have kc79 := jle c79 jz_10000 rfl
              refine lv_aload_n hx hb dX10_worked_54 rfl (lv_at hl 3 rfl) ?_
              refine va_get (D := D) hx hb hts inlX10 hown hK hP 18 (jc_18 cI cL ad σ9 τ) rfl 3 (by decide) (hts _ kw_4_4) (fun _ h9 => h9) rfl dX10_worked_55 ?_
              refine lv_iload_n hx hb dX10_worked_58 rfl (lv_at hl 1 rfl) ?_
              refine lv_sipush (v := 10000) hx hb dX10_worked_59 (by decide) ?_
              have g80 := jrg (rfl : x20.toInt = x20.toInt)
              refine lv_isub hx hb dX10_worked_62 ?_
              refine lv_topi (fun x81 ex81 => ?_)
              have tx81 : x81.toInt = x20.toInt - 10000 := (jsub ex81 rfl jz_10000 (by omega) (by omega)).trans (by omega)
              refine lv_bipush (v := 7) hx hb dX10_worked_63 (by decide) ?_
              refine lv_iand hx hb dX10_worked_65 ?_
              refine lv_topi (fun x82 ex82 => ?_)
              have gx82 := jrg (rfl : x82.toInt = x82.toInt)
              have g83 : 0 ≤ x82.toInt ∧ x82.toInt ≤ 7 := jmask ex82 3 (by decide) (by decide)
              refine jald hx hb hK hP (jc_20 cI cL ad σ9 τ) (jin rfl (by omega) (by omega)) dX10_worked_66 ?_
              refine lv_topi (fun x84 ex84 => ?_)
              refine jast hx hb hK hP hJ hA hS (jc_21 cI cL ad σ9 τ) (ja_21 cI cL ad σ9 τ _ _) (jin rfl (by omega) (by omega)) dX10_worked_67 (fun σ85 H locs eσ85 hP hS => ?_)
              refine lv_goto (tgt := 259) hx hb dX10_worked_68 (by decide) ?_
              obtain ⟨x86, ex86⟩ : ∃ y : Int32, y = x6 + 1 := ⟨_, rfl⟩
              have tx86 : x86.toInt = x6.toInt + 1 := (jadd ex86 rfl jz_1 (by omega) (by omega)).trans (by omega)
              refine lv_iinc (v := x86) (lv' := [(2, .int x86), (1, .int x78), (3, .int x20), (0, .ref (ad 18))]) hx hb dX10_worked_259 hl (k := 2) rfl (by rw [ex86]; rfl) (by decide) rfl (fun ls hl => ?_)
              refine lv_goto (tgt := 4) hx hb dX10_worked_262 (by decide) ?_
              exact ihlp3 x78 x86 σ85 _ _ ls (by have h90 := tx78; have h91 := tx86; omega) (by have h90 := tx78; have h91 := tx86; omega) (by have h90 := tx78; have h91 := tx86; omega) (by have h90 := tx78; have h91 := tx86; omega) (by have h90 := tx78; have h91 := tx86; omega) (fun i hi => by rw [eσ85, jup_n (by omega), f15 i hi])    hP hS (lv_sub hl [0, 1, 3] rfl)
            · have kc79 := jnle c79 jz_10000 rfl
              refine lv_iload_n hx hb dX10_worked_50 rfl (lv_at hl 1 rfl) ?_
              refine lv_goto (tgt := 67) hx hb dX10_worked_51 (by decide) ?_
              refine jast hx hb hK hP hJ hA hS (jc_21 cI cL ad σ9 τ) (ja_21 cI cL ad σ9 τ _ _) (jin rfl (by omega) (by omega)) dX10_worked_67 (fun σ87 H locs eσ87 hP hS => ?_)
              refine lv_goto (tgt := 259) hx hb dX10_worked_68 (by decide) ?_
              obtain ⟨x88, ex88⟩ : ∃ y : Int32, y = x6 + 1 := ⟨_, rfl⟩
              have tx88 : x88.toInt = x6.toInt + 1 := (jadd ex88 rfl jz_1 (by omega) (by omega)).trans (by omega)
              refine lv_iinc (v := x88) (lv' := [(2, .int x88), (1, .int x78), (3, .int x20), (0, .ref (ad 18))]) hx hb dX10_worked_259 hl (k := 2) rfl (by rw [ex88]; rfl) (by decide) rfl (fun ls hl => ?_)
              refine lv_goto (tgt := 4) hx hb dX10_worked_262 (by decide) ?_
              exact ihlp3 x78 x88 σ87 _ _ ls (by have h90 := tx78; have h91 := tx88; omega) (by have h90 := tx78; have h91 := tx88; omega) (by have h90 := tx78; have h91 := tx88; omega) (by have h90 := tx78; have h91 := tx88; omega) (by have h90 := tx78; have h91 := tx88; omega) (fun i hi => by rw [eσ87, jup_n (by omega), f15 i hi])    hP hS (lv_sub hl [0, 1, 3] rfl)
          · have kc77 := jnlt c77 rfl jz_160
            refine lv_iconst (v := 0) hx hb dX10_worked_33 (by decide) ?_
            exact hret 0 σ9 τ _ _ _ _ rfl ⟨rfl, (fun i hi => by rw [f15 i (by omega)]), trivial⟩ hP hS dX10_worked_34
  exact lp3 1000000 0 0 σ _ _ ls (by have h90 := jz_0; have h91 := jz_0; omega) (by have h90 := jz_0; have h91 := jz_0; omega) (by have h90 := jz_0; have h91 := jz_0; omega) (by have h90 := jz_0; have h91 := jz_0; omega) (by have h90 := jz_0; have h91 := jz_0; omega) (fun _ _ => rfl)   hP hS hl
set_option maxHeartbeats 4000000 in
set_option maxRecDepth 100000 in
theorem c_X10_worked_22 (l : Launch) (D : va_G) (cI cL : ClassId) (ad zz : Nat → Nat) (hJ : jD ad) (σ : Nat → Nat → Int32) (τ : Nat → Nat → Int64) (hI22 : jI22 σ) : jM l yX10_worked cX10_worked 5 (some .int) ({ frames := 1, cells := 0, slots := 0, locals := 22 }) D cI cL ad zz [.ref (ad 22)] σ τ (fun r σ' τ' => τ = τ' ∧ (∀ i : Nat, (i < 25 ∨ 25 < i) → σ' i = σ i) ∧ True) := by
  refine jM.of hJ (by decide +kernel) (nt := .int) rfl (Nat.le_of_ble_eq_true rfl) ?_
  intro p e s m args below meth c Q ls hC hret hl hP
  obtain ⟨hx, hb, hr, hml, hown, hts, hK, -, hlocks, hZ⟩ := hC
  have hown : s.vm.findClass RX10 = some m.cls := hown
  have hS : va_S (jA ad) s.heap s.heap [] := va_S.rf
  have hA : ∀ q, jA ad q → jA ad q := fun _ h => h
  have hl : lv_has ls 5 [(0, .ref (ad 22))] := hl
  obtain ⟨i1, w2⟩ : (0 ≤ (σ 22 0).toInt ∧ (σ 22 0).toInt ≤ 160) ∧ (∀ k : Nat, k < 160 → 0 ≤ (σ 23 k).toInt ∧ (σ 23 k).toInt ≤ 30000) := id hI22
  refine lv_iconst (v := 0) hx hb dX10_worked_0 (by decide) ?_
  refine lv_istore_n (lv' := [(1, .int 0), (0, .ref (ad 22))]) hx hb dX10_worked_1 rfl hl (by decide) rfl (fun ls hl => ?_)
  refine lv_iconst (v := 0) hx hb dX10_worked_2 (by decide) ?_
  refine lv_istore_n (lv' := [(2, .int 0), (1, .int 0), (0, .ref (ad 22))]) hx hb dX10_worked_3 rfl hl (by decide) rfl (fun ls hl => ?_)
  have lp3 : ∀ (n4 : Nat) (x5 : Int32) (x6 : Int32) (σ9 : Nat → Nat → Int32) (H : Heap) (locs : List Loc) (ls : Array Slot), (-x6.toInt + 30001 : Int) < n4 → 0 ≤ x5.toInt → x5.toInt ≤ 160 → 0 ≤ x6.toInt → x6.toInt ≤ 30000 → (∀ i : Nat, (i < 25 ∨ 25 < i) → σ9 i = σ i) → jH D cI cL ad σ9 τ H → va_S (jA ad) s.heap H locs → lv_has ls 5 [(2, .int x6), (1, .int x5), (0, .ref (ad 22))] → W p l e ({ frames := 1, cells := 0, slots := 0, locals := 22 }) s m args below meth c H locs 0 0 Q (F0 m 4 ls []) := by
    intro n4
    induction n4 with
    | zero => intro x5 x6 σ9 H locs ls h10 h11 h12 h13 h14; exact absurd h10 (by omega)
    | succ n4 ihlp3 =>
      intro x5 x6 σ9 H locs ls h10 h11 h12 h13 h14 f15 hP hS hl
      refine lv_iload_n hx hb dX10_worked_4 rfl (lv_at hl 0 rfl) ?_
      refine lv_aload_n hx hb dX10_worked_5 rfl (lv_at hl 2 rfl) ?_
      refine va_get (D := D) hx hb hts inlX10 hown hK hP 22 (jc_22 cI cL ad σ9 τ) rfl 0 (by decide) (hts _ kw_16_20) (fun _ h9 => h9) rfl dX10_worked_6 ?_
      have m16 : σ9 22 0 = (σ 22 0) := (by rw [f15 22 (by omega)])
      refine jtopr m16 ?_
      refine lv_icmp_ge (tgt := 265) hx hb dX10_worked_9 (by decide) (fun c17 => ?_) (fun c17 => ?_)
      · have kc17 := jle c17 rfl rfl
        refine lv_iconst (v := 0) hx hb dX10_worked_265 (by decide) ?_
        exact hret 0 σ9 τ _ _ _ _ rfl ⟨rfl, (fun i hi => by rw [f15 i (by omega)]), trivial⟩ hP hS dX10_worked_266
      · have kc17 := jnle c17 rfl rfl
        refine lv_aload_n hx hb dX10_worked_12 rfl (lv_at hl 2 rfl) ?_
        refine va_get (D := D) hx hb hts inlX10 hown hK hP 22 (jc_22 cI cL ad σ9 τ) rfl 2 (by decide) (hts _ kw_4_3) (fun _ h9 => h9) rfl dX10_worked_13 ?_
        refine lv_iload_n hx hb dX10_worked_16 rfl (lv_at hl 0 rfl) ?_
        refine jald hx hb hK hP (jc_23 cI cL ad σ9 τ) (jin rfl (by omega) (by omega)) dX10_worked_17 ?_
        have w18 : ∀ k : Nat, k < 160 → 0 ≤ (σ9 23 k).toInt ∧ (σ9 23 k).toInt ≤ 30000 := (by rw [f15 23 (by omega)]; exact w2)
        have g19 := w18 _ (jnat (x := x6) rfl (n := 160) (by omega) (by decide))
        refine lv_topi (fun x20 ex20 => ?_)
        rw [← ex20] at g19
        refine lv_istore_n (lv' := [(3, .int x20), (2, .int x6), (1, .int x5), (0, .ref (ad 22))]) hx hb dX10_worked_18 rfl hl (by decide) rfl (fun ls hl => ?_)
        refine lv_iload_n hx hb dX10_worked_19 rfl (lv_at hl 0 rfl) ?_
        refine lv_sipush (v := 20000) hx hb dX10_worked_20 (by decide) ?_
        refine lv_icmp_ge (tgt := 71) hx hb dX10_worked_23 (by decide) (fun c21 => ?_) (fun c21 => ?_)
        · have kc21 := jle c21 jz_20000 rfl
          refine lv_iload_n hx hb dX10_worked_71 rfl (lv_at hl 2 rfl) ?_
          refine lv_iconst (v := 1) hx hb dX10_worked_72 (by decide) ?_
          refine lv_icmp_lt (tgt := 83) hx hb dX10_worked_73 (by decide) (fun c22 => ?_) (fun c22 => ?_)
          · have kc22 := jlt c22 rfl jz_1
            refine lv_iload_n hx hb dX10_worked_83 rfl (lv_at hl 2 rfl) ?_
            refine lv_iconst (v := 1) hx hb dX10_worked_84 (by decide) ?_
            refine lv_icmp_ge (tgt := 92) hx hb dX10_worked_85 (by decide) (fun c => absurd (jle c jz_1 rfl) (by omega)) (fun c23 => ?_)
            have kc23 := jnle c23 jz_1 rfl
            refine lv_iconst (v := 0) hx hb dX10_worked_88 (by decide) ?_
            refine lv_goto (tgt := 100) hx hb dX10_worked_89 (by decide) ?_
            exact hret 0 σ9 τ _ _ _ _ rfl ⟨rfl, (fun i hi => by rw [f15 i (by omega)]), trivial⟩ hP hS dX10_worked_100
          · have kc22 := jnlt c22 rfl jz_1
            refine lv_iload_n hx hb dX10_worked_76 rfl (lv_at hl 0 rfl) ?_
            refine lv_sipush (v := 20059) hx hb dX10_worked_77 (by decide) ?_
            refine lv_icmp_ne (tgt := 101) hx hb dX10_worked_80 (by decide) (fun c24 => ?_) (fun c24 => ?_)
            · have kc24 := jne c24 rfl jz_20059
              refine lv_iload_n hx hb dX10_worked_101 rfl (lv_at hl 0 rfl) ?_
              refine lv_sipush (v := 20063) hx hb dX10_worked_102 (by decide) ?_
              refine lv_icmp_ne (tgt := 160) hx hb dX10_worked_105 (by decide) (fun c25 => ?_) (fun c25 => ?_)
              · have kc25 := jne c25 rfl jz_20063
                refine lv_iload_n hx hb dX10_worked_160 rfl (lv_at hl 0 rfl) ?_
                refine lv_sipush (v := 20033) hx hb dX10_worked_161 (by decide) ?_
                refine lv_icmp_ne (tgt := 194) hx hb dX10_worked_164 (by decide) (fun c26 => ?_) (fun c26 => ?_)
                · have kc26 := jne c26 rfl jz_20033
                  refine lv_iload_n hx hb dX10_worked_194 rfl (lv_at hl 0 rfl) ?_
                  refine lv_sipush (v := 20126) hx hb dX10_worked_195 (by decide) ?_
                  refine lv_icmp_ne (tgt := 221) hx hb dX10_worked_198 (by decide) (fun c27 => ?_) (fun c27 => ?_)
                  · have kc27 := jne c27 rfl jz_20126
                    refine lv_iload_n hx hb dX10_worked_221 rfl (lv_at hl 2 rfl) ?_
                    refine lv_iconst (v := 1) hx hb dX10_worked_222 (by decide) ?_
                    refine lv_icmp_le (tgt := 259) hx hb dX10_worked_223 (by decide) (fun c28 => ?_) (fun c28 => ?_)
                    · have kc28 := jle c28 rfl jz_1
                      obtain ⟨x29, ex29⟩ : ∃ y : Int32, y = x6 + 1 := ⟨_, rfl⟩
                      have tx29 : x29.toInt = x6.toInt + 1 := (jadd ex29 rfl jz_1 (by omega) (by omega)).trans (by omega)
                      refine lv_iinc (v := x29) (lv' := [(2, .int x29), (3, .int x20), (1, .int x5), (0, .ref (ad 22))]) hx hb dX10_worked_259 hl (k := 1) rfl (by rw [ex29]; rfl) (by decide) rfl (fun ls hl => ?_)
                      refine lv_goto (tgt := 4) hx hb dX10_worked_262 (by decide) ?_
                      exact ihlp3 x5 x29 σ9 _ _ ls (by have h91 := tx29; omega) (by have h91 := tx29; omega) (by have h91 := tx29; omega) (by have h91 := tx29; omega) (by have h91 := tx29; omega) (fun i hi => by rw [f15 i hi])    hP hS (lv_sub hl [0, 2, 3] rfl)
                    · have kc28 := jnle c28 rfl jz_1
                      obtain ⟨x30, ex30⟩ : ∃ y : Int32, y = x5 + (-1) := ⟨_, rfl⟩
                      have tx30 : x30.toInt = x5.toInt - 1 := (jadd ex30 rfl jz_m1 (by omega) (by omega)).trans (by omega)
                      refine lv_iinc (v := x30) (lv' := [(1, .int x30), (3, .int x20), (2, .int x6), (0, .ref (ad 22))]) hx hb dX10_worked_226 hl (k := 2) rfl (by rw [ex30]; rfl) (by decide) rfl (fun ls hl => ?_)
                      refine lv_aload_n hx hb dX10_worked_229 rfl (lv_at hl 3 rfl) ?_
                      refine va_get (D := D) hx hb hts inlX10 hown hK hP 22 (jc_22 cI cL ad σ9 τ) rfl 4 (by decide) (hts _ kw_4_5) (fun _ h9 => h9) rfl dX10_worked_230 ?_
                      refine lv_iload_n hx hb dX10_worked_233 rfl (lv_at hl 0 rfl) ?_
                      refine lv_iconst (v := 1) hx hb dX10_worked_234 (by decide) ?_
                      refine lv_isub hx hb dX10_worked_235 ?_
                      refine lv_topi (fun x31 ex31 => ?_)
                      have tx31 : x31.toInt = x5.toInt - 2 := (jsub ex31 tx30 jz_1 (by omega) (by omega)).trans (by omega)
                      refine lv_iload_n hx hb dX10_worked_236 rfl (lv_at hl 1 rfl) ?_
                      refine lv_sipush (v := 20000) hx hb dX10_worked_237 (by decide) ?_
                      have g32 := jrg (rfl : x20.toInt = x20.toInt)
                      refine lv_isub hx hb dX10_worked_240 ?_
                      refine lv_topi (fun x33 ex33 => ?_)
                      have tx33 : x33.toInt = x20.toInt - 20000 := (jsub ex33 rfl jz_20000 (by omega) (by omega)).trans (by omega)
                      refine lv_aload_n hx hb dX10_worked_241 rfl (lv_at hl 3 rfl) ?_
                      refine va_get (D := D) hx hb hts inlX10 hown hK hP 22 (jc_22 cI cL ad σ9 τ) rfl 4 (by decide) (hts _ kw_4_5) (fun _ h9 => h9) rfl dX10_worked_242 ?_
                      refine lv_iload_n hx hb dX10_worked_245 rfl (lv_at hl 0 rfl) ?_
                      refine lv_iconst (v := 1) hx hb dX10_worked_246 (by decide) ?_
                      refine lv_isub hx hb dX10_worked_247 ?_
                      refine lv_topi (fun x34 ex34 => ?_)
                      have tx34 : x34.toInt = x5.toInt - 2 := (jsub ex34 tx30 jz_1 (by omega) (by omega)).trans (by omega)
                      refine jald hx hb hK hP (jc_25 cI cL ad σ9 τ) (jin tx34 (by omega) (by omega)) dX10_worked_248 ?_
                      refine lv_topi (fun x35 ex35 => ?_)
                      refine lv_aload_n hx hb dX10_worked_249 rfl (lv_at hl 3 rfl) ?_
                      refine va_get (D := D) hx hb hts inlX10 hown hK hP 22 (jc_22 cI cL ad σ9 τ) rfl 4 (by decide) (hts _ kw_4_5) (fun _ h9 => h9) rfl dX10_worked_250 ?_
                      refine lv_iload_n hx hb dX10_worked_253 rfl (lv_at hl 0 rfl) ?_
                      refine jald hx hb hK hP (jc_25 cI cL ad σ9 τ) (jin tx30 (by omega) (by omega)) dX10_worked_254 ?_
                      refine lv_topi (fun x36 ex36 => ?_)
                      refine jcallS (As := [.int x33, .int x35, .int x36]) (rest := [.int x31, .ref (ad 25)]) ⟨hx, hb, hml, hown, hts⟩ hK hP hA hS hZ (c_X10_joined l D cI cL ad zz hJ σ9 τ x33 (x20.toInt - 20000) tx33 x35 (x35.toInt) rfl x36 (x36.toInt) rfl) cw_RX10_38 ⟨Nat.le_of_ble_eq_true rfl, Nat.le_of_ble_eq_true rfl⟩ rfl rfl rfl hl.1 rfl (Nat.le_of_ble_eq_true rfl) dX10_worked_255 ⟨Nat.zero_le _, Nat.zero_le _⟩ (fun r38 σ37 τ37 H locs h37 hP hS => ?_)
                      obtain ⟨⟨rfl, rfl⟩, h37⟩ := h37
                      refine jast hx hb hK hP hJ hA hS (jc_25 cI cL ad σ9 τ) (ja_25 cI cL ad σ9 τ _ _) (jin tx31 (by omega) (by omega)) dX10_worked_258 (fun σ39 H locs eσ39 hP hS => ?_)
                      obtain ⟨x40, ex40⟩ : ∃ y : Int32, y = x6 + 1 := ⟨_, rfl⟩
                      have tx40 : x40.toInt = x6.toInt + 1 := (jadd ex40 rfl jz_1 (by omega) (by omega)).trans (by omega)
                      refine lv_iinc (v := x40) (lv' := [(2, .int x40), (1, .int x30), (3, .int x20), (0, .ref (ad 22))]) hx hb dX10_worked_259 hl (k := 2) rfl (by rw [ex40]; rfl) (by decide) rfl (fun ls hl => ?_)
                      refine lv_goto (tgt := 4) hx hb dX10_worked_262 (by decide) ?_
                      exact ihlp3 x30 x40 σ39 _ _ ls (by have h90 := tx30; have h91 := tx40; omega) (by have h90 := tx30; have h91 := tx40; omega) (by have h90 := tx30; have h91 := tx40; omega) (by have h90 := tx30; have h91 := tx40; omega) (by have h90 := tx30; have h91 := tx40; omega) (fun i hi => by rw [eσ39, jup_n (by omega), f15 i hi])    hP hS (lv_sub hl [0, 1, 3] rfl)
                  · have kc27 := jeq c27 rfl jz_20126
                    refine lv_aload_n hx hb dX10_worked_201 rfl (lv_at hl 3 rfl) ?_
                    refine va_get (D := D) hx hb hts inlX10 hown hK hP 22 (jc_22 cI cL ad σ9 τ) rfl 4 (by decide) (hts _ kw_4_5) (fun _ h9 => h9) rfl dX10_worked_202 ?_
                    refine lv_iload_n hx hb dX10_worked_205 rfl (lv_at hl 2 rfl) ?_
                    refine lv_iconst (v := 1) hx hb dX10_worked_206 (by decide) ?_
                    have g41 := jrg (rfl : x5.toInt = x5.toInt)
                    refine lv_isub hx hb dX10_worked_207 ?_
                    refine lv_topi (fun x42 ex42 => ?_)
                    have tx42 : x42.toInt = x5.toInt - 1 := (jsub ex42 rfl jz_1 (by omega) (by omega)).trans (by omega)
                    refine lv_aload_n hx hb dX10_worked_208 rfl (lv_at hl 3 rfl) ?_
                    refine va_get (D := D) hx hb hts inlX10 hown hK hP 22 (jc_22 cI cL ad σ9 τ) rfl 4 (by decide) (hts _ kw_4_5) (fun _ h9 => h9) rfl dX10_worked_209 ?_
                    refine lv_iload_n hx hb dX10_worked_212 rfl (lv_at hl 2 rfl) ?_
                    refine lv_iconst (v := 1) hx hb dX10_worked_213 (by decide) ?_
                    refine lv_isub hx hb dX10_worked_214 ?_
                    refine lv_topi (fun x43 ex43 => ?_)
                    have tx43 : x43.toInt = x5.toInt - 1 := (jsub ex43 rfl jz_1 (by omega) (by omega)).trans (by omega)
                    refine jald hx hb hK hP (jc_25 cI cL ad σ9 τ) (jin tx43 (by omega) (by omega)) dX10_worked_215 ?_
                    refine lv_topi (fun x44 ex44 => ?_)
                    refine lv_ineg hx hb dX10_worked_216 ?_
                    refine lv_topi (fun x45 ex45 => ?_)
                    have gx45 := jrg (rfl : x45.toInt = x45.toInt)
                    refine jast hx hb hK hP hJ hA hS (jc_25 cI cL ad σ9 τ) (ja_25 cI cL ad σ9 τ _ _) (jin tx42 (by omega) (by omega)) dX10_worked_217 (fun σ46 H locs eσ46 hP hS => ?_)
                    refine lv_goto (tgt := 259) hx hb dX10_worked_218 (by decide) ?_
                    obtain ⟨x47, ex47⟩ : ∃ y : Int32, y = x6 + 1 := ⟨_, rfl⟩
                    have tx47 : x47.toInt = x6.toInt + 1 := (jadd ex47 rfl jz_1 (by omega) (by omega)).trans (by omega)
                    refine lv_iinc (v := x47) (lv' := [(2, .int x47), (3, .int x20), (1, .int x5), (0, .ref (ad 22))]) hx hb dX10_worked_259 hl (k := 1) rfl (by rw [ex47]; rfl) (by decide) rfl (fun ls hl => ?_)
                    refine lv_goto (tgt := 4) hx hb dX10_worked_262 (by decide) ?_
                    exact ihlp3 x5 x47 σ46 _ _ ls (by have h91 := tx47; omega) (by have h91 := tx47; omega) (by have h91 := tx47; omega) (by have h91 := tx47; omega) (by have h91 := tx47; omega) (fun i hi => by rw [eσ46, jup_n (by omega), f15 i hi])    hP hS (lv_sub hl [0, 2, 3] rfl)
                · have kc26 := jeq c26 rfl jz_20033
                  refine lv_aload_n hx hb dX10_worked_167 rfl (lv_at hl 3 rfl) ?_
                  refine va_get (D := D) hx hb hts inlX10 hown hK hP 22 (jc_22 cI cL ad σ9 τ) rfl 4 (by decide) (hts _ kw_4_5) (fun _ h9 => h9) rfl dX10_worked_168 ?_
                  refine lv_iload_n hx hb dX10_worked_171 rfl (lv_at hl 2 rfl) ?_
                  refine lv_iconst (v := 1) hx hb dX10_worked_172 (by decide) ?_
                  have g48 := jrg (rfl : x5.toInt = x5.toInt)
                  refine lv_isub hx hb dX10_worked_173 ?_
                  refine lv_topi (fun x49 ex49 => ?_)
                  have tx49 : x49.toInt = x5.toInt - 1 := (jsub ex49 rfl jz_1 (by omega) (by omega)).trans (by omega)
                  refine lv_aload_n hx hb dX10_worked_174 rfl (lv_at hl 3 rfl) ?_
                  refine va_get (D := D) hx hb hts inlX10 hown hK hP 22 (jc_22 cI cL ad σ9 τ) rfl 4 (by decide) (hts _ kw_4_5) (fun _ h9 => h9) rfl dX10_worked_175 ?_
                  refine lv_iload_n hx hb dX10_worked_178 rfl (lv_at hl 2 rfl) ?_
                  refine lv_iconst (v := 1) hx hb dX10_worked_179 (by decide) ?_
                  refine lv_isub hx hb dX10_worked_180 ?_
                  refine lv_topi (fun x50 ex50 => ?_)
                  have tx50 : x50.toInt = x5.toInt - 1 := (jsub ex50 rfl jz_1 (by omega) (by omega)).trans (by omega)
                  refine jald hx hb hK hP (jc_25 cI cL ad σ9 τ) (jin tx50 (by omega) (by omega)) dX10_worked_181 ?_
                  refine lv_topi (fun x51 ex51 => ?_)
                  refine lv_if_ne (tgt := 189) hx hb dX10_worked_182 (by decide) (fun c52 => ?_) (fun c52 => ?_)
                  · have kc52 := jne c52 rfl jz_0
                    refine lv_iconst (v := 0) hx hb dX10_worked_189 (by decide) ?_
                    refine jast hx hb hK hP hJ hA hS (jc_25 cI cL ad σ9 τ) (ja_25 cI cL ad σ9 τ _ _) (jin tx49 (by omega) (by omega)) dX10_worked_190 (fun σ53 H locs eσ53 hP hS => ?_)
                    refine lv_goto (tgt := 259) hx hb dX10_worked_191 (by decide) ?_
                    obtain ⟨x54, ex54⟩ : ∃ y : Int32, y = x6 + 1 := ⟨_, rfl⟩
                    have tx54 : x54.toInt = x6.toInt + 1 := (jadd ex54 rfl jz_1 (by omega) (by omega)).trans (by omega)
                    refine lv_iinc (v := x54) (lv' := [(2, .int x54), (3, .int x20), (1, .int x5), (0, .ref (ad 22))]) hx hb dX10_worked_259 hl (k := 1) rfl (by rw [ex54]; rfl) (by decide) rfl (fun ls hl => ?_)
                    refine lv_goto (tgt := 4) hx hb dX10_worked_262 (by decide) ?_
                    exact ihlp3 x5 x54 σ53 _ _ ls (by have h91 := tx54; omega) (by have h91 := tx54; omega) (by have h91 := tx54; omega) (by have h91 := tx54; omega) (by have h91 := tx54; omega) (fun i hi => by rw [eσ53, jup_n (by omega), f15 i hi])    hP hS (lv_sub hl [0, 2, 3] rfl)
                  · have kc52 := jeq c52 rfl jz_0
                    refine lv_iconst (v := 1) hx hb dX10_worked_185 (by decide) ?_
                    refine lv_goto (tgt := 190) hx hb dX10_worked_186 (by decide) ?_
                    refine jast hx hb hK hP hJ hA hS (jc_25 cI cL ad σ9 τ) (ja_25 cI cL ad σ9 τ _ _) (jin tx49 (by omega) (by omega)) dX10_worked_190 (fun σ55 H locs eσ55 hP hS => ?_)
                    refine lv_goto (tgt := 259) hx hb dX10_worked_191 (by decide) ?_
                    obtain ⟨x56, ex56⟩ : ∃ y : Int32, y = x6 + 1 := ⟨_, rfl⟩
                    have tx56 : x56.toInt = x6.toInt + 1 := (jadd ex56 rfl jz_1 (by omega) (by omega)).trans (by omega)
                    refine lv_iinc (v := x56) (lv' := [(2, .int x56), (3, .int x20), (1, .int x5), (0, .ref (ad 22))]) hx hb dX10_worked_259 hl (k := 1) rfl (by rw [ex56]; rfl) (by decide) rfl (fun ls hl => ?_)
                    refine lv_goto (tgt := 4) hx hb dX10_worked_262 (by decide) ?_
                    exact ihlp3 x5 x56 σ55 _ _ ls (by have h91 := tx56; omega) (by have h91 := tx56; omega) (by have h91 := tx56; omega) (by have h91 := tx56; omega) (by have h91 := tx56; omega) (fun i hi => by rw [eσ55, jup_n (by omega), f15 i hi])    hP hS (lv_sub hl [0, 2, 3] rfl)
              · have kc25 := jeq c25 rfl jz_20063
                refine lv_aload_n hx hb dX10_worked_108 rfl (lv_at hl 3 rfl) ?_
                refine va_get (D := D) hx hb hts inlX10 hown hK hP 22 (jc_22 cI cL ad σ9 τ) rfl 4 (by decide) (hts _ kw_4_5) (fun _ h9 => h9) rfl dX10_worked_109 ?_
                refine lv_iload_n hx hb dX10_worked_112 rfl (lv_at hl 2 rfl) ?_
                refine lv_iconst (v := 1) hx hb dX10_worked_113 (by decide) ?_
                have g57 := jrg (rfl : x5.toInt = x5.toInt)
                refine lv_isub hx hb dX10_worked_114 ?_
                refine lv_topi (fun x58 ex58 => ?_)
                have tx58 : x58.toInt = x5.toInt - 1 := (jsub ex58 rfl jz_1 (by omega) (by omega)).trans (by omega)
                refine jald hx hb hK hP (jc_25 cI cL ad σ9 τ) (jin tx58 (by omega) (by omega)) dX10_worked_115 ?_
                refine lv_topi (fun x59 ex59 => ?_)
                refine lv_if_eq (tgt := 123) hx hb dX10_worked_116 (by decide) (fun c60 => ?_) (fun c60 => ?_)
                · have kc60 := jeq c60 rfl jz_0
                  refine lv_iconst (v := 0) hx hb dX10_worked_123 (by decide) ?_
                  refine lv_istore (lv' := [(4, .int 0), (3, .int x20), (2, .int x6), (1, .int x5), (0, .ref (ad 22))]) hx hb dX10_worked_124 hl (by decide) rfl (fun ls hl => ?_)
                  refine lv_iconst (v := 0) hx hb dX10_worked_126 (by decide) ?_
                  refine lv_istore_n (lv' := [(1, .int 0), (4, .int 0), (3, .int x20), (2, .int x6), (0, .ref (ad 22))]) hx hb dX10_worked_127 rfl hl (by decide) rfl (fun ls hl => ?_)
                  obtain ⟨x61, ex61⟩ : ∃ y : Int32, y = x6 + 1 := ⟨_, rfl⟩
                  have tx61 : x61.toInt = x6.toInt + 1 := (jadd ex61 rfl jz_1 (by omega) (by omega)).trans (by omega)
                  refine lv_iinc (v := x61) (lv' := [(2, .int x61), (1, .int 0), (4, .int 0), (3, .int x20), (0, .ref (ad 22))]) hx hb dX10_worked_128 hl (k := 3) rfl (by rw [ex61]; rfl) (by decide) rfl (fun ls hl => ?_)
                  refine lv_iload hx hb dX10_worked_131 (lv_at hl 2 rfl) ?_
                  refine lv_if_ne (tgt := 157) hx hb dX10_worked_133 (by decide) (fun c => absurd (by decide) c) (fun _ => ?_)
                  refine lv_iload_n hx hb dX10_worked_136 rfl (lv_at hl 0 rfl) ?_
                  refine lv_aload_n hx hb dX10_worked_137 rfl (lv_at hl 4 rfl) ?_
                  refine va_get (D := D) hx hb hts inlX10 hown hK hP 22 (jc_22 cI cL ad σ9 τ) rfl 0 (by decide) (hts _ kw_16_20) (fun _ h9 => h9) rfl dX10_worked_138 ?_
                  refine jtopr m16 ?_
                  refine lv_icmp_ge (tgt := 157) hx hb dX10_worked_141 (by decide) (fun c62 => ?_) (fun c62 => ?_)
                  · have kc62 := jle c62 rfl tx61
                    refine lv_goto (tgt := 259) hx hb dX10_worked_157 (by decide) ?_
                    obtain ⟨x63, ex63⟩ : ∃ y : Int32, y = x61 + 1 := ⟨_, rfl⟩
                    have tx63 : x63.toInt = x6.toInt + 2 := (jadd ex63 tx61 jz_1 (by omega) (by omega)).trans (by omega)
                    refine lv_iinc (v := x63) (lv' := [(2, .int x63), (1, .int 0), (4, .int 0), (3, .int x20), (0, .ref (ad 22))]) hx hb dX10_worked_259 hl (k := 0) rfl (by rw [ex63]; rfl) (by decide) rfl (fun ls hl => ?_)
                    refine lv_goto (tgt := 4) hx hb dX10_worked_262 (by decide) ?_
                    exact ihlp3 0 x63 σ9 _ _ ls (by have h90 := jz_0; have h91 := tx63; omega) (by have h90 := jz_0; have h91 := tx63; omega) (by have h90 := jz_0; have h91 := tx63; omega) (by have h90 := jz_0; have h91 := tx63; omega) (by have h90 := jz_0; have h91 := tx63; omega) (fun i hi => by rw [f15 i hi])    hP hS (lv_sub hl [0, 1, 4] rfl)
                  · have kc62 := jnle c62 rfl tx61
                    refine lv_iload_n hx hb dX10_worked_144 rfl (lv_at hl 0 rfl) ?_
                    refine lv_aload_n hx hb dX10_worked_145 rfl (lv_at hl 4 rfl) ?_
                    refine va_get (D := D) hx hb hts inlX10 hown hK hP 22 (jc_22 cI cL ad σ9 τ) rfl 2 (by decide) (hts _ kw_4_3) (fun _ h9 => h9) rfl dX10_worked_146 ?_
                    refine lv_iload_n hx hb dX10_worked_149 rfl (lv_at hl 0 rfl) ?_
                    refine jald hx hb hK hP (jc_23 cI cL ad σ9 τ) (jin tx61 (by omega) (by omega)) dX10_worked_150 ?_
                    have g64 := w18 _ (jnat (x := x61) tx61 (n := 160) (by omega) (by decide))
                    refine lv_topi (fun x65 ex65 => ?_)
                    rw [← ex65] at g64
                    refine lv_iconst (v := 1) hx hb dX10_worked_151 (by decide) ?_
                    have g66 := jrg (rfl : x65.toInt = x65.toInt)
                    refine lv_isub hx hb dX10_worked_152 ?_
                    refine lv_topi (fun x67 ex67 => ?_)
                    have tx67 : x67.toInt = x65.toInt - 1 := (jsub ex67 rfl jz_1 (by omega) (by omega)).trans (by omega)
                    refine va_mmax hx hb (hml.trans hl.1.symm) hown (hts _ kw_22_21) (hts _ kw_21_0) (hts _ kw_21_1) (hts _ kw_21_2) (Nat.le_of_ble_eq_true rfl) (Nat.le_of_ble_eq_true rfl) (Nat.le_of_ble_eq_true rfl) (Nat.le_of_ble_eq_true rfl) dX10_worked_153 ?_
                    refine lv_topi (fun x68 ex68 => ?_)
                    have g69 := jmax ex68 tx61 tx67
                    refine lv_istore_n (lv' := [(2, .int x68), (1, .int 0), (4, .int 0), (3, .int x20), (0, .ref (ad 22))]) hx hb dX10_worked_156 rfl hl (by decide) rfl (fun ls hl => ?_)
                    refine lv_goto (tgt := 259) hx hb dX10_worked_157 (by decide) ?_
                    obtain ⟨x70, ex70⟩ : ∃ y : Int32, y = x68 + 1 := ⟨_, rfl⟩
                    have tx70 : x70.toInt = x68.toInt + 1 := (jadd ex70 rfl jz_1 (by omega) (by omega)).trans (by omega)
                    refine lv_iinc (v := x70) (lv' := [(2, .int x70), (1, .int 0), (4, .int 0), (3, .int x20), (0, .ref (ad 22))]) hx hb dX10_worked_259 hl (k := 0) rfl (by rw [ex70]; rfl) (by decide) rfl (fun ls hl => ?_)
                    refine lv_goto (tgt := 4) hx hb dX10_worked_262 (by decide) ?_
                    exact ihlp3 0 x70 σ9 _ _ ls (by have h90 := jz_0; have h91 := tx70; omega) (by have h90 := jz_0; have h91 := tx70; omega) (by have h90 := jz_0; have h91 := tx70; omega) (by have h90 := jz_0; have h91 := tx70; omega) (by have h90 := jz_0; have h91 := tx70; omega) (fun i hi => by rw [f15 i hi])    hP hS (lv_sub hl [0, 1, 4] rfl)
                · have kc60 := jne c60 rfl jz_0
                  refine lv_iconst (v := 1) hx hb dX10_worked_119 (by decide) ?_
                  refine lv_goto (tgt := 124) hx hb dX10_worked_120 (by decide) ?_
                  refine lv_istore (lv' := [(4, .int 1), (3, .int x20), (2, .int x6), (1, .int x5), (0, .ref (ad 22))]) hx hb dX10_worked_124 hl (by decide) rfl (fun ls hl => ?_)
                  refine lv_iconst (v := 0) hx hb dX10_worked_126 (by decide) ?_
                  refine lv_istore_n (lv' := [(1, .int 0), (4, .int 1), (3, .int x20), (2, .int x6), (0, .ref (ad 22))]) hx hb dX10_worked_127 rfl hl (by decide) rfl (fun ls hl => ?_)
                  obtain ⟨x71, ex71⟩ : ∃ y : Int32, y = x6 + 1 := ⟨_, rfl⟩
                  have tx71 : x71.toInt = x6.toInt + 1 := (jadd ex71 rfl jz_1 (by omega) (by omega)).trans (by omega)
                  refine lv_iinc (v := x71) (lv' := [(2, .int x71), (1, .int 0), (4, .int 1), (3, .int x20), (0, .ref (ad 22))]) hx hb dX10_worked_128 hl (k := 3) rfl (by rw [ex71]; rfl) (by decide) rfl (fun ls hl => ?_)
                  refine lv_iload hx hb dX10_worked_131 (lv_at hl 2 rfl) ?_
                  refine lv_if_ne (tgt := 157) hx hb dX10_worked_133 (by decide) (fun _ => ?_) (fun c => absurd c (by decide))
                  refine lv_goto (tgt := 259) hx hb dX10_worked_157 (by decide) ?_
                  obtain ⟨x72, ex72⟩ : ∃ y : Int32, y = x71 + 1 := ⟨_, rfl⟩
                  have tx72 : x72.toInt = x6.toInt + 2 := (jadd ex72 tx71 jz_1 (by omega) (by omega)).trans (by omega)
                  refine lv_iinc (v := x72) (lv' := [(2, .int x72), (1, .int 0), (4, .int 1), (3, .int x20), (0, .ref (ad 22))]) hx hb dX10_worked_259 hl (k := 0) rfl (by rw [ex72]; rfl) (by decide) rfl (fun ls hl => ?_)
                  refine lv_goto (tgt := 4) hx hb dX10_worked_262 (by decide) ?_
                  exact ihlp3 0 x72 σ9 _ _ ls (by have h90 := jz_0; have h91 := tx72; omega) (by have h90 := jz_0; have h91 := tx72; omega) (by have h90 := jz_0; have h91 := tx72; omega) (by have h90 := jz_0; have h91 := tx72; omega) (by have h90 := jz_0; have h91 := tx72; omega) (fun i hi => by rw [f15 i hi])    hP hS (lv_sub hl [0, 1, 4] rfl)
            · have kc24 := jeq c24 rfl jz_20059
              refine lv_iload_n hx hb dX10_worked_83 rfl (lv_at hl 2 rfl) ?_
              refine lv_iconst (v := 1) hx hb dX10_worked_84 (by decide) ?_
              refine lv_icmp_ge (tgt := 92) hx hb dX10_worked_85 (by decide) (fun c73 => ?_) (fun c => absurd (jnle c jz_1 rfl) (by omega))
              have kc73 := jle c73 jz_1 rfl
              refine lv_aload_n hx hb dX10_worked_92 rfl (lv_at hl 3 rfl) ?_
              refine va_get (D := D) hx hb hts inlX10 hown hK hP 22 (jc_22 cI cL ad σ9 τ) rfl 4 (by decide) (hts _ kw_4_5) (fun _ h9 => h9) rfl dX10_worked_93 ?_
              refine lv_iload_n hx hb dX10_worked_96 rfl (lv_at hl 2 rfl) ?_
              refine lv_iconst (v := 1) hx hb dX10_worked_97 (by decide) ?_
              have g74 := jrg (rfl : x5.toInt = x5.toInt)
              refine lv_isub hx hb dX10_worked_98 ?_
              refine lv_topi (fun x75 ex75 => ?_)
              have tx75 : x75.toInt = x5.toInt - 1 := (jsub ex75 rfl jz_1 (by omega) (by omega)).trans (by omega)
              refine jald hx hb hK hP (jc_25 cI cL ad σ9 τ) (jin tx75 (by omega) (by omega)) dX10_worked_99 ?_
              refine lv_topi (fun x76 ex76 => ?_)
              exact hret x76 σ9 τ _ _ _ _ rfl ⟨rfl, (fun i hi => by rw [f15 i (by omega)]), trivial⟩ hP hS dX10_worked_100
        · have kc21 := jnle c21 jz_20000 rfl
          refine lv_iload_n hx hb dX10_worked_26 rfl (lv_at hl 2 rfl) ?_
          refine lv_sipush (v := 160) hx hb dX10_worked_27 (by decide) ?_
          refine lv_icmp_lt (tgt := 35) hx hb dX10_worked_30 (by decide) (fun c77 => ?_) (fun c77 => ?_)
          · have kc77 := jlt c77 rfl jz_160
            refine lv_aload_n hx hb dX10_worked_35 rfl (lv_at hl 3 rfl) ?_
            refine va_get (D := D) hx hb hts inlX10 hown hK hP 22 (jc_22 cI cL ad σ9 τ) rfl 4 (by decide) (hts _ kw_4_5) (fun _ h9 => h9) rfl dX10_worked_36 ?_
            refine lv_iload_n hx hb dX10_worked_39 rfl (lv_at hl 2 rfl) ?_
            obtain ⟨x78, ex78⟩ : ∃ y : Int32, y = x5 + 1 := ⟨_, rfl⟩
            have tx78 : x78.toInt = x5.toInt + 1 := (jadd ex78 rfl jz_1 (by omega) (by omega)).trans (by omega)
            refine lv_iinc (v := x78) (lv' := [(1, .int x78), (3, .int x20), (2, .int x6), (0, .ref (ad 22))]) hx hb dX10_worked_40 hl (k := 2) rfl (by rw [ex78]; rfl) (by decide) rfl (fun ls hl => ?_)
            refine lv_iload_n hx hb dX10_worked_43 rfl (lv_at hl 1 rfl) ?_
            refine lv_sipush (v := 10000) hx hb dX10_worked_44 (by decide) ?_
            refine lv_icmp_ge (tgt := 54) hx hb dX10_worked_47 (by decide) (fun c79 => ?_) (fun c79 => ?_)
            · have kc79 := jle c79 jz_10000 rfl
              refine lv_aload_n hx hb dX10_worked_54 rfl (lv_at hl 3 rfl) ?_
              refine va_get (D := D) hx hb hts inlX10 hown hK hP 22 (jc_22 cI cL ad σ9 τ) rfl 3 (by decide) (hts _ kw_4_4) (fun _ h9 => h9) rfl dX10_worked_55 ?_
              refine lv_iload_n hx hb dX10_worked_58 rfl (lv_at hl 1 rfl) ?_
              refine lv_sipush (v := 10000) hx hb dX10_worked_59 (by decide) ?_
              have g80 := jrg (rfl : x20.toInt = x20.toInt)
              refine lv_isub hx hb dX10_worked_62 ?_
              refine lv_topi (fun x81 ex81 => ?_)
              have tx81 : x81.toInt = x20.toInt - 10000 := (jsub ex81 rfl jz_10000 (by omega) (by omega)).trans (by omega)
              refine lv_bipush (v := 7) hx hb dX10_worked_63 (by decide) ?_
              refine lv_iand hx hb dX10_worked_65 ?_
              refine lv_topi (fun x82 ex82 => ?_)
              have gx82 := jrg (rfl : x82.toInt = x82.toInt)
              have g83 : 0 ≤ x82.toInt ∧ x82.toInt ≤ 7 := jmask ex82 3 (by decide) (by decide)
              refine jald hx hb hK hP (jc_24 cI cL ad σ9 τ) (jin rfl (by omega) (by omega)) dX10_worked_66 ?_
              refine lv_topi (fun x84 ex84 => ?_)
              refine jast hx hb hK hP hJ hA hS (jc_25 cI cL ad σ9 τ) (ja_25 cI cL ad σ9 τ _ _) (jin rfl (by omega) (by omega)) dX10_worked_67 (fun σ85 H locs eσ85 hP hS => ?_)
              refine lv_goto (tgt := 259) hx hb dX10_worked_68 (by decide) ?_
              obtain ⟨x86, ex86⟩ : ∃ y : Int32, y = x6 + 1 := ⟨_, rfl⟩
              have tx86 : x86.toInt = x6.toInt + 1 := (jadd ex86 rfl jz_1 (by omega) (by omega)).trans (by omega)
              refine lv_iinc (v := x86) (lv' := [(2, .int x86), (1, .int x78), (3, .int x20), (0, .ref (ad 22))]) hx hb dX10_worked_259 hl (k := 2) rfl (by rw [ex86]; rfl) (by decide) rfl (fun ls hl => ?_)
              refine lv_goto (tgt := 4) hx hb dX10_worked_262 (by decide) ?_
              exact ihlp3 x78 x86 σ85 _ _ ls (by have h90 := tx78; have h91 := tx86; omega) (by have h90 := tx78; have h91 := tx86; omega) (by have h90 := tx78; have h91 := tx86; omega) (by have h90 := tx78; have h91 := tx86; omega) (by have h90 := tx78; have h91 := tx86; omega) (fun i hi => by rw [eσ85, jup_n (by omega), f15 i hi])    hP hS (lv_sub hl [0, 1, 3] rfl)
            · have kc79 := jnle c79 jz_10000 rfl
              refine lv_iload_n hx hb dX10_worked_50 rfl (lv_at hl 1 rfl) ?_
              refine lv_goto (tgt := 67) hx hb dX10_worked_51 (by decide) ?_
              refine jast hx hb hK hP hJ hA hS (jc_25 cI cL ad σ9 τ) (ja_25 cI cL ad σ9 τ _ _) (jin rfl (by omega) (by omega)) dX10_worked_67 (fun σ87 H locs eσ87 hP hS => ?_)
              refine lv_goto (tgt := 259) hx hb dX10_worked_68 (by decide) ?_
              obtain ⟨x88, ex88⟩ : ∃ y : Int32, y = x6 + 1 := ⟨_, rfl⟩
              have tx88 : x88.toInt = x6.toInt + 1 := (jadd ex88 rfl jz_1 (by omega) (by omega)).trans (by omega)
              refine lv_iinc (v := x88) (lv' := [(2, .int x88), (1, .int x78), (3, .int x20), (0, .ref (ad 22))]) hx hb dX10_worked_259 hl (k := 2) rfl (by rw [ex88]; rfl) (by decide) rfl (fun ls hl => ?_)
              refine lv_goto (tgt := 4) hx hb dX10_worked_262 (by decide) ?_
              exact ihlp3 x78 x88 σ87 _ _ ls (by have h90 := tx78; have h91 := tx88; omega) (by have h90 := tx78; have h91 := tx88; omega) (by have h90 := tx78; have h91 := tx88; omega) (by have h90 := tx78; have h91 := tx88; omega) (by have h90 := tx78; have h91 := tx88; omega) (fun i hi => by rw [eσ87, jup_n (by omega), f15 i hi])    hP hS (lv_sub hl [0, 1, 3] rfl)
          · have kc77 := jnlt c77 rfl jz_160
            refine lv_iconst (v := 0) hx hb dX10_worked_33 (by decide) ?_
            exact hret 0 σ9 τ _ _ _ _ rfl ⟨rfl, (fun i hi => by rw [f15 i (by omega)]), trivial⟩ hP hS dX10_worked_34
  exact lp3 1000000 0 0 σ _ _ ls (by have h90 := jz_0; have h91 := jz_0; omega) (by have h90 := jz_0; have h91 := jz_0; omega) (by have h90 := jz_0; have h91 := jz_0; omega) (by have h90 := jz_0; have h91 := jz_0; omega) (by have h90 := jz_0; have h91 := jz_0; omega) (fun _ _ => rfl)   hP hS hl
set_option maxHeartbeats 4000000 in
set_option maxRecDepth 100000 in
theorem c_X10_uses_22 (l : Launch) (D : va_G) (cI cL : ClassId) (ad zz : Nat → Nat) (hJ : jD ad) (σ : Nat → Nat → Int32) (τ : Nat → Nat → Int64) (a1 : Int32) (A1 : Int) (t1 : a1.toInt = A1) : jM l yX10_uses cX10_uses 2 (some .boolean) ({ frames := 0, cells := 0, slots := 0, locals := 0 }) D cI cL ad zz [.ref (ad 22), .int a1] σ τ (fun r σ' τ' => (σ = σ' ∧ τ = τ') ∧ True) := by
  refine jM.of hJ (by decide +kernel) (nt := .boolean) rfl (Nat.le_of_ble_eq_true rfl) ?_
  intro p e s m args below meth c Q ls hC hret hl hP
  obtain ⟨hx, hb, hr, hml, hown, hts, hK, -, hlocks, hZ⟩ := hC
  have hown : s.vm.findClass RX10 = some m.cls := hown
  have hS : va_S (jA ad) s.heap s.heap [] := va_S.rf
  have hA : ∀ q, jA ad q → jA ad q := fun _ h => h
  have hl : lv_has ls 2 [(0, .ref (ad 22)), (1, .int a1)] := hl
  have g1 := jrg t1
  refine lv_aload_n hx hb dX10_uses_0 rfl (lv_at hl 0 rfl) ?_
  refine va_get (D := D) hx hb hts inlX10 hown hK hP 22 (jc_22 cI cL ad σ τ) rfl 1 (by decide) (hts _ kw_16_21) (fun _ h9 => h9) rfl dX10_uses_1 ?_
  refine lv_iload_n hx hb dX10_uses_4 rfl (lv_at hl 1 rfl) ?_
  refine lv_ishr hx hb dX10_uses_5 ?_
  refine lv_topi (fun x1 ex1 => ?_)
  have gx1 := jrg (rfl : x1.toInt = x1.toInt)
  refine lv_iconst (v := 1) hx hb dX10_uses_6 (by decide) ?_
  refine lv_iand hx hb dX10_uses_7 ?_
  refine lv_topi (fun x2 ex2 => ?_)
  have gx2 := jrg (rfl : x2.toInt = x2.toInt)
  have g3 : 0 ≤ x2.toInt ∧ x2.toInt ≤ 1 := jmask ex2 1 (by decide) (by decide)
  refine lv_if_eq (tgt := 15) hx hb dX10_uses_8 (by decide) (fun c4 => ?_) (fun c4 => ?_)
  · have kc4 := jeq c4 rfl jz_0
    refine lv_iconst (v := 0) hx hb dX10_uses_15 (by decide) ?_
    exact hret 0 σ τ _ _ _ _ rfl ⟨⟨rfl, rfl⟩, trivial⟩ hP hS dX10_uses_16
  · have kc4 := jne c4 rfl jz_0
    refine lv_iconst (v := 1) hx hb dX10_uses_11 (by decide) ?_
    refine lv_goto (tgt := 16) hx hb dX10_uses_12 (by decide) ?_
    exact hret 1 σ τ _ _ _ _ rfl ⟨⟨rfl, rfl⟩, trivial⟩ hP hS dX10_uses_16
set_option maxHeartbeats 4000000 in
set_option maxRecDepth 100000 in
theorem c_X7_take_9 (l : Launch) (D : va_G) (cI cL : ClassId) (ad zz : Nat → Nat) (hJ : jD ad) (σ : Nat → Nat → Int32) (τ : Nat → Nat → Int64) (a1 : Int32) (A1 : Int) (t1 : a1.toInt = A1) (a2 : Int32) (A2 : Int) (t2 : a2.toInt = A2) (hI9 : jI9 σ) (hp0 : 1 ≤ A1 ∧ A1 ≤ 4) : jM l yX7_take cX7_take 4 (some .int) ({ frames := 0, cells := 0, slots := 0, locals := 0 }) D cI cL ad zz [.ref (ad 9), .int a1, .int a2] σ τ (fun r σ' τ' => τ = τ' ∧ (∀ i : Nat, (i < 9 ∨ 10 < i) → σ' i = σ i) ∧ (∀ k : Nat, (k < 0 ∨ 0 < k) → σ' 9 k = σ 9 k) ∧ (jI9 σ') ∧ True) := by
  refine jM.of hJ (by decide +kernel) (nt := .int) rfl (Nat.le_of_ble_eq_true rfl) ?_
  intro p e s m args below meth c Q ls hC hret hl hP
  obtain ⟨hx, hb, hr, hml, hown, hts, hK, -, hlocks, hZ⟩ := hC
  have hown : s.vm.findClass RX7 = some m.cls := hown
  have hS : va_S (jA ad) s.heap s.heap [] := va_S.rf
  have hA : ∀ q, jA ad q → jA ad q := fun _ h => h
  have hl : lv_has ls 4 [(0, .ref (ad 9)), (1, .int a1), (2, .int a2)] := hl
  have g1 := jrg t1
  have g2 := jrg t2
  obtain ⟨i1, w2, w3⟩ : (0 ≤ (σ 9 0).toInt ∧ (σ 9 0).toInt ≤ 80) ∧ (∀ k : Nat, k < 80 → 0 ≤ (σ 10 k).toInt ∧ (σ 10 k).toInt ≤ 255) ∧ (∀ k : Nat, k < 8 → 0 ≤ (σ 11 k).toInt ∧ (σ 11 k).toInt ≤ 3) := id hI9
  refine lv_iconst (v := 0) hx hb dX7_take_0 (by decide) ?_
  refine lv_istore_n (lv' := [(3, .int 0), (0, .ref (ad 9)), (1, .int a1), (2, .int a2)]) hx hb dX7_take_1 rfl hl (by decide) rfl (fun ls hl => ?_)
  have lp4 : ∀ (n5 : Nat) (x6 : Int32) (σ7 : Nat → Nat → Int32) (H : Heap) (locs : List Loc) (ls : Array Slot), (-x6.toInt + 4 : Int) < n5 → 0 ≤ x6.toInt → x6.toInt ≤ 4 → 0 ≤ (σ7 9 0).toInt ∧ (σ7 9 0).toInt ≤ 80 → (∀ i : Nat, (i < 9 ∨ 10 < i) → σ7 i = σ i) → (∀ k : Nat, (k < 0 ∨ 0 < k) → σ7 9 k = σ 9 k) → (∀ k : Nat, k < 80 → 0 ≤ (σ7 10 k).toInt ∧ (σ7 10 k).toInt ≤ 255) → jH D cI cL ad σ7 τ H → va_S (jA ad) s.heap H locs → lv_has ls 4 [(3, .int x6), (0, .ref (ad 9)), (1, .int a1), (2, .int a2)] → W p l e ({ frames := 0, cells := 0, slots := 0, locals := 0 }) s m args below meth c H locs 0 0 Q (F0 m 2 ls []) := by
    intro n5
    induction n5 with
    | zero => intro x6 σ7 H locs ls h8 h9 h10 h11; exact absurd h8 (by omega)
    | succ n5 ihlp4 =>
      intro x6 σ7 H locs ls h8 h9 h10 h11 f12 f13 w14 hP hS hl
      refine lv_iload_n hx hb dX7_take_2 rfl (lv_at hl 0 rfl) ?_
      refine lv_iload_n hx hb dX7_take_3 rfl (lv_at hl 2 rfl) ?_
      refine lv_icmp_ge (tgt := 53) hx hb dX7_take_4 (by decide) (fun c15 => ?_) (fun c15 => ?_)
      · have kc15 := jle c15 t1 rfl
        refine lv_aload_n hx hb dX7_take_53 rfl (lv_at hl 1 rfl) ?_
        refine va_get (D := D) hx hb hts inlX7 hown hK hP 9 (jc_9 cI cL ad σ7 τ) rfl 0 (by decide) (hts _ kw_13_0) (fun _ h9 => h9) rfl dX7_take_54 ?_
        have w16 : ∀ k : Nat, k < 8 → 0 ≤ (σ7 11 k).toInt ∧ (σ7 11 k).toInt ≤ 3 := (by rw [f12 11 (by omega)]; exact w3)
        have I17 : jI9 σ7 := ⟨(by omega), w14, w16⟩
        exact hret (σ7 9 0) σ7 τ _ _ _ _ rfl ⟨rfl, (fun i hi => by rw [f12 i (by omega)]), (fun k hk => by rw [f13 k (by omega)]), I17, trivial⟩ hP hS dX7_take_57
      · have kc15 := jnle c15 t1 rfl
        refine lv_iload_n hx hb dX7_take_7 rfl (lv_at hl 0 rfl) ?_
        refine lv_iconst (v := 4) hx hb dX7_take_8 (by decide) ?_
        refine lv_icmp_ge (tgt := 53) hx hb dX7_take_9 (by decide) (fun c => absurd (jle c jz_4 rfl) (by omega)) (fun c18 => ?_)
        have kc18 := jnle c18 jz_4 rfl
        refine lv_aload_n hx hb dX7_take_12 rfl (lv_at hl 1 rfl) ?_
        refine va_get (D := D) hx hb hts inlX7 hown hK hP 9 (jc_9 cI cL ad σ7 τ) rfl 0 (by decide) (hts _ kw_13_0) (fun _ h9 => h9) rfl dX7_take_13 ?_
        refine lv_bipush (v := 80) hx hb dX7_take_16 (by decide) ?_
        refine lv_icmp_ge (tgt := 53) hx hb dX7_take_18 (by decide) (fun c19 => ?_) (fun c19 => ?_)
        · have kc19 := jle c19 jz_80 rfl
          refine lv_aload_n hx hb dX7_take_53 rfl (lv_at hl 1 rfl) ?_
          refine va_get (D := D) hx hb hts inlX7 hown hK hP 9 (jc_9 cI cL ad σ7 τ) rfl 0 (by decide) (hts _ kw_13_0) (fun _ h9 => h9) rfl dX7_take_54 ?_
          have w20 : ∀ k : Nat, k < 8 → 0 ≤ (σ7 11 k).toInt ∧ (σ7 11 k).toInt ≤ 3 := (by rw [f12 11 (by omega)]; exact w3)
          have I21 : jI9 σ7 := ⟨(by omega), w14, w20⟩
          exact hret (σ7 9 0) σ7 τ _ _ _ _ rfl ⟨rfl, (fun i hi => by rw [f12 i (by omega)]), (fun k hk => by rw [f13 k (by omega)]), I21, trivial⟩ hP hS dX7_take_57
        · have kc19 := jnle c19 jz_80 rfl
          refine lv_aload_n hx hb dX7_take_21 rfl (lv_at hl 1 rfl) ?_
          refine va_get (D := D) hx hb hts inlX7 hown hK hP 9 (jc_9 cI cL ad σ7 τ) rfl 3 (by decide) (hts _ kw_3_20) (fun _ h9 => h9) rfl dX7_take_22 ?_
          refine lv_aload_n hx hb dX7_take_25 rfl (lv_at hl 1 rfl) ?_
          refine lv_dup hx hb dX7_take_26 rfl ?_
          refine va_get (D := D) hx hb hts inlX7 hown hK hP 9 (jc_9 cI cL ad σ7 τ) rfl 0 (by decide) (hts _ kw_13_0) (fun _ h9 => h9) rfl dX7_take_27 ?_
          refine lv_dup_x1 hx hb dX7_take_30 rfl rfl ?_
          refine lv_iconst (v := 1) hx hb dX7_take_31 (by decide) ?_
          have g22 := jrg (rfl : (σ7 9 0).toInt = (σ7 9 0).toInt)
          refine lv_iadd hx hb dX7_take_32 ?_
          refine lv_topi (fun x23 ex23 => ?_)
          have tx23 : x23.toInt = (σ7 9 0).toInt + 1 := (jadd ex23 rfl jz_1 (by omega) (by omega)).trans (by omega)
          refine jput (ty := .int) hx hb hts inlX7 tyX7 tyX7_ok nmX7 hown hK hP hJ hA hS (jc_9 cI cL ad σ7 τ) rfl (k := 0) (by decide) (Nat.le_of_ble_eq_true rfl) (jp_9_0 cI cL ad σ7 τ x23) (hts _ kw_13_0) (fun _ h9 => h9) rfl (by decide +kernel) rfl rfl dX7_take_33 (fun σ24 H locs eσ24 hP hS => ?_)
          refine lv_iload_n hx hb dX7_take_36 rfl (lv_at hl 3 rfl) ?_
          refine lv_bipush (v := 8) hx hb dX7_take_37 (by decide) ?_
          refine lv_iload_n hx hb dX7_take_39 rfl (lv_at hl 0 rfl) ?_
          have g25 := jrg (rfl : x6.toInt = x6.toInt)
          refine lv_imul hx hb dX7_take_40 ?_
          refine lv_topi (fun x26 ex26 => ?_)
          have tx26 : x26.toInt = 8 * x6.toInt := (jmul ex26 jz_8 rfl (by omega) (by omega)).trans (by omega)
          refine lv_iushr hx hb dX7_take_41 rfl ?_
          refine lv_topi (fun x27 ex27 => ?_)
          have gx27 := jrg (rfl : x27.toInt = x27.toInt)
          refine lv_sipush (v := 255) hx hb dX7_take_42 (by decide) ?_
          refine lv_iand hx hb dX7_take_45 ?_
          refine lv_topi (fun x28 ex28 => ?_)
          have gx28 := jrg (rfl : x28.toInt = x28.toInt)
          have g29 : 0 ≤ x28.toInt ∧ x28.toInt ≤ 255 := jmask ex28 8 (by decide) (by decide)
          refine jast hx hb hK hP hJ hA hS (jc_10 cI cL ad σ24 τ) (ja_10 cI cL ad σ24 τ _ _) (jin rfl (by omega) (by omega)) dX7_take_46 (fun σ30 H locs eσ30 hP hS => ?_)
          obtain ⟨x31, ex31⟩ : ∃ y : Int32, y = x6 + 1 := ⟨_, rfl⟩
          have tx31 : x31.toInt = x6.toInt + 1 := (jadd ex31 rfl jz_1 (by omega) (by omega)).trans (by omega)
          refine lv_iinc (v := x31) (lv' := [(3, .int x31), (0, .ref (ad 9)), (1, .int a1), (2, .int a2)]) hx hb dX7_take_47 hl (k := 0) rfl (by rw [ex31]; rfl) (by decide) rfl (fun ls hl => ?_)
          refine lv_goto (tgt := 2) hx hb dX7_take_50 (by decide) ?_
          have z32 : (σ30 9 0).toInt = (σ7 9 0).toInt + 1 := by rw [(show σ30 9 0 = x23 from (by rw [eσ30, jup_n (by decide)]; exact (by rw [eσ24]; exact jup_s)))]; exact tx23
          have w33 : ∀ k : Nat, k < 80 → 0 ≤ (σ30 10 k).toInt ∧ (σ30 10 k).toInt ≤ 255 := (by rw [eσ30]; exact jrr_up (by rw [eσ24, jup_n (by decide)]; exact w14) (by omega) (by omega))
          exact ihlp4 x31 σ30 _ _ ls (by have h90 := tx31; omega) (by have h90 := tx31; omega) (by have h90 := tx31; omega) (by have h90 := tx31; omega) (fun i hi => by rw [eσ30, jup_n (by omega), eσ24, jup_n (by omega), f12 i hi]) (fun k hk => by rw [eσ30, jup_n (by decide), eσ24, jup_k (by omega), f13 k hk])  w33 hP hS (lv_sub hl [0, 1, 2, 3] rfl)
  exact lp4 1000000 0 σ _ _ ls (by have h90 := jz_0; omega) (by have h90 := jz_0; omega) (by have h90 := jz_0; omega) (by have h90 := jz_0; omega) (fun _ _ => rfl) (fun _ _ => rfl)  w2 hP hS hl
set_option maxHeartbeats 4000000 in
set_option maxRecDepth 100000 in
theorem c_X7_begin_9 (l : Launch) (D : va_G) (cI cL : ClassId) (ad zz : Nat → Nat) (hJ : jD ad) (σ : Nat → Nat → Int32) (τ : Nat → Nat → Int64) (hI9 : jI9 σ) : jMv l yX7_begin cX7_begin 1 none ({ frames := 0, cells := 0, slots := 0, locals := 0 }) D cI cL ad zz [.ref (ad 9)] σ τ (fun σ' τ' => τ = τ' ∧ (∀ i : Nat, (i < 9 ∨ 9 < i) → σ' i = σ i) ∧ (∀ k : Nat, (k < 1 ∨ 1 < k) ∧ (k < 2 ∨ 2 < k) → σ' 9 k = σ 9 k) ∧ (jI9 σ') ∧ (jI91 σ') ∧ (jI92 σ') ∧ True) := by
  refine jMv.of hJ (by decide +kernel) rfl (Nat.le_of_ble_eq_true rfl) ?_
  intro p e s m args below meth c Q ls hC hret hl hP
  obtain ⟨hx, hb, hr, hml, hown, hts, hK, -, hlocks, hZ⟩ := hC
  have hown : s.vm.findClass RX7 = some m.cls := hown
  have hS : va_S (jA ad) s.heap s.heap [] := va_S.rf
  have hA : ∀ q, jA ad q → jA ad q := fun _ h => h
  have hl : lv_has ls 1 [(0, .ref (ad 9))] := hl
  obtain ⟨i1, w2, w3⟩ : (0 ≤ (σ 9 0).toInt ∧ (σ 9 0).toInt ≤ 80) ∧ (∀ k : Nat, k < 80 → 0 ≤ (σ 10 k).toInt ∧ (σ 10 k).toInt ≤ 255) ∧ (∀ k : Nat, k < 8 → 0 ≤ (σ 11 k).toInt ∧ (σ 11 k).toInt ≤ 3) := id hI9
  refine lv_aload_n hx hb dX7_begin_0 rfl (lv_at hl 0 rfl) ?_
  refine lv_iconst (v := 0) hx hb dX7_begin_1 (by decide) ?_
  refine jput (ty := .int) hx hb hts inlX7 tyX7 tyX7_ok nmX7 hown hK hP hJ hA hS (jc_9 cI cL ad σ τ) rfl (k := 1) (by decide) (Nat.le_of_ble_eq_true rfl) (jp_9_1 cI cL ad σ τ 0) (hts _ kw_13_17) (fun _ h9 => h9) rfl (by decide +kernel) rfl rfl dX7_begin_2 (fun σ4 H locs eσ4 hP hS => ?_)
  refine lv_aload_n hx hb dX7_begin_5 rfl (lv_at hl 0 rfl) ?_
  refine lv_iconst (v := (-1)) hx hb dX7_begin_6 (by decide) ?_
  refine jput (ty := .int) hx hb hts inlX7 tyX7 tyX7_ok nmX7 hown hK hP hJ hA hS (jc_9 cI cL ad σ4 τ) rfl (k := 2) (by decide) (Nat.le_of_ble_eq_true rfl) (jp_9_2 cI cL ad σ4 τ (-1)) (hts _ kw_14_6) (fun _ h9 => h9) rfl (by decide +kernel) rfl rfl dX7_begin_7 (fun σ5 H locs eσ5 hP hS => ?_)
  have z6 : (σ5 9 0).toInt = (σ 9 0).toInt := by rw [(show σ5 9 0 = (σ 9 0) from (by rw [eσ5, jup_k (by decide)]; exact (by rw [eσ4, jup_k (by decide)])))]
  have w7 : ∀ k : Nat, k < 80 → 0 ≤ (σ5 10 k).toInt ∧ (σ5 10 k).toInt ≤ 255 := (by rw [eσ5, jup_n (by decide)]; exact (by rw [eσ4, jup_n (by decide)]; exact w2))
  have w8 : ∀ k : Nat, k < 8 → 0 ≤ (σ5 11 k).toInt ∧ (σ5 11 k).toInt ≤ 3 := (by rw [eσ5, jup_n (by decide)]; exact (by rw [eσ4, jup_n (by decide)]; exact w3))
  have I9 : jI9 σ5 := ⟨(by omega), w7, w8⟩
  have z10 : (σ5 9 1).toInt = 0 := by rw [(show σ5 9 1 = 0 from (by rw [eσ5, jup_k (by decide)]; exact (by rw [eσ4]; exact jup_s)))]; exact jz_0
  have I11 : jI91 σ5 := ⟨(by omega), (by omega)⟩
  have z12 : (σ5 9 2).toInt = (-1) := by rw [(show σ5 9 2 = (-1) from (by rw [eσ5]; exact jup_s))]; exact jz_m1
  have I13 : jI92 σ5 := (show (-1) ≤ (σ5 9 2).toInt by omega)
  exact hret σ5 τ _ _ _ _ ⟨rfl, (fun i hi => by rw [eσ5, jup_n (by omega), eσ4, jup_n (by omega)]), (fun k hk => by rw [eσ5, jup_k (by omega), eσ4, jup_k (by omega)]), I9, I11, I13, trivial⟩ hP hS dX7_begin_10
set_option maxHeartbeats 4000000 in
set_option maxRecDepth 100000 in
theorem c_X7_isDigit (l : Launch) (D : va_G) (cI cL : ClassId) (ad zz : Nat → Nat) (hJ : jD ad) (σ : Nat → Nat → Int32) (τ : Nat → Nat → Int64) (a1 : Int32) (A1 : Int) (t1 : a1.toInt = A1) : jM l yX7_isDigit cX7_isDigit 1 (some .boolean) ({ frames := 0, cells := 0, slots := 0, locals := 0 }) D cI cL ad zz [.int a1] σ τ (fun r σ' τ' => (σ = σ' ∧ τ = τ') ∧ ((r = 1 ∧ (48 ≤ A1 ∧ A1 ≤ 57)) ∨ (r = 0 ∧ ((A1 < 48) ∨ (57 < A1))))) := by
  refine jM.of hJ (by decide +kernel) (nt := .boolean) rfl (Nat.le_of_ble_eq_true rfl) ?_
  intro p e s m args below meth c Q ls hC hret hl hP
  obtain ⟨hx, hb, hr, hml, hown, hts, hK, -, hlocks, hZ⟩ := hC
  have hown : s.vm.findClass RX7 = some m.cls := hown
  have hS : va_S (jA ad) s.heap s.heap [] := va_S.rf
  have hA : ∀ q, jA ad q → jA ad q := fun _ h => h
  have hl : lv_has ls 1 [(0, .int a1)] := hl
  have g1 := jrg t1
  refine lv_iload_n hx hb dX7_isDigit_0 rfl (lv_at hl 0 rfl) ?_
  refine lv_bipush (v := 48) hx hb dX7_isDigit_1 (by decide) ?_
  refine lv_icmp_lt (tgt := 16) hx hb dX7_isDigit_3 (by decide) (fun c1 => ?_) (fun c1 => ?_)
  · have kc1 := jlt c1 t1 jz_48
    refine lv_iconst (v := 0) hx hb dX7_isDigit_16 (by decide) ?_
    exact hret 0 σ τ _ _ _ _ rfl ⟨⟨rfl, rfl⟩, Or.inr (⟨rfl, (by have h9 := jz_0; omega)⟩)⟩ hP hS dX7_isDigit_17
  · have kc1 := jnlt c1 t1 jz_48
    refine lv_iload_n hx hb dX7_isDigit_6 rfl (lv_at hl 0 rfl) ?_
    refine lv_bipush (v := 57) hx hb dX7_isDigit_7 (by decide) ?_
    refine lv_icmp_gt (tgt := 16) hx hb dX7_isDigit_9 (by decide) (fun c2 => ?_) (fun c2 => ?_)
    · have kc2 := jlt c2 jz_57 t1
      refine lv_iconst (v := 0) hx hb dX7_isDigit_16 (by decide) ?_
      exact hret 0 σ τ _ _ _ _ rfl ⟨⟨rfl, rfl⟩, Or.inr (⟨rfl, (by have h9 := jz_0; omega)⟩)⟩ hP hS dX7_isDigit_17
    · have kc2 := jnlt c2 jz_57 t1
      refine lv_iconst (v := 1) hx hb dX7_isDigit_12 (by decide) ?_
      refine lv_goto (tgt := 17) hx hb dX7_isDigit_13 (by decide) ?_
      exact hret 1 σ τ _ _ _ _ rfl ⟨⟨rfl, rfl⟩, Or.inl ⟨rfl, (by have h9 := jz_1; omega)⟩⟩ hP hS dX7_isDigit_17
set_option maxHeartbeats 4000000 in
set_option maxRecDepth 100000 in
theorem c_X7_sign_9 (l : Launch) (D : va_G) (cI cL : ClassId) (ad zz : Nat → Nat) (hJ : jD ad) (σ : Nat → Nat → Int32) (τ : Nat → Nat → Int64) (hI9 : jI9 σ) : jM l yX7_sign cX7_sign 1 (some .int) ({ frames := 0, cells := 0, slots := 0, locals := 0 }) D cI cL ad zz [.ref (ad 9)] σ τ (fun r σ' τ' => (σ = σ' ∧ τ = τ') ∧ ((r = (σ 10 (σ 9 1).toNatClampNeg) ∧ (0 ≤ (σ 10 (σ 9 1).toNatClampNeg).toInt ∧ (σ 10 (σ 9 1).toNatClampNeg).toInt ≤ 255) ∧ (0 ≤ (σ 9 1).toInt ∧ (σ 9 1).toInt < (σ 9 0).toInt)) ∨ (r = (-1) ∧ (((σ 9 1).toInt < 0) ∨ ((σ 9 0).toInt ≤ (σ 9 1).toInt))))) := by
  refine jM.of hJ (by decide +kernel) (nt := .int) rfl (Nat.le_of_ble_eq_true rfl) ?_
  intro p e s m args below meth c Q ls hC hret hl hP
  obtain ⟨hx, hb, hr, hml, hown, hts, hK, -, hlocks, hZ⟩ := hC
  have hown : s.vm.findClass RX7 = some m.cls := hown
  have hS : va_S (jA ad) s.heap s.heap [] := va_S.rf
  have hA : ∀ q, jA ad q → jA ad q := fun _ h => h
  have hl : lv_has ls 1 [(0, .ref (ad 9))] := hl
  obtain ⟨i1, w2, w3⟩ : (0 ≤ (σ 9 0).toInt ∧ (σ 9 0).toInt ≤ 80) ∧ (∀ k : Nat, k < 80 → 0 ≤ (σ 10 k).toInt ∧ (σ 10 k).toInt ≤ 255) ∧ (∀ k : Nat, k < 8 → 0 ≤ (σ 11 k).toInt ∧ (σ 11 k).toInt ≤ 3) := id hI9
  refine lv_aload_n hx hb dX7_sign_0 rfl (lv_at hl 0 rfl) ?_
  refine va_get (D := D) hx hb hts inlX7 hown hK hP 9 (jc_9 cI cL ad σ τ) rfl 1 (by decide) (hts _ kw_13_17) (fun _ h9 => h9) rfl dX7_sign_1 ?_
  refine lv_if_lt (tgt := 30) hx hb dX7_sign_4 (by decide) (fun c4 => ?_) (fun c4 => ?_)
  · have kc4 := jlt c4 rfl jz_0
    refine lv_iconst (v := (-1)) hx hb dX7_sign_30 (by decide) ?_
    exact hret (-1) σ τ _ _ _ _ rfl ⟨⟨rfl, rfl⟩, Or.inr (⟨rfl, (by have h9 := jz_m1; omega)⟩)⟩ hP hS dX7_sign_31
  · have kc4 := jnlt c4 rfl jz_0
    refine lv_aload_n hx hb dX7_sign_7 rfl (lv_at hl 0 rfl) ?_
    refine va_get (D := D) hx hb hts inlX7 hown hK hP 9 (jc_9 cI cL ad σ τ) rfl 1 (by decide) (hts _ kw_13_17) (fun _ h9 => h9) rfl dX7_sign_8 ?_
    refine lv_aload_n hx hb dX7_sign_11 rfl (lv_at hl 0 rfl) ?_
    refine va_get (D := D) hx hb hts inlX7 hown hK hP 9 (jc_9 cI cL ad σ τ) rfl 0 (by decide) (hts _ kw_13_0) (fun _ h9 => h9) rfl dX7_sign_12 ?_
    refine lv_icmp_ge (tgt := 30) hx hb dX7_sign_15 (by decide) (fun c5 => ?_) (fun c5 => ?_)
    · have kc5 := jle c5 rfl rfl
      refine lv_iconst (v := (-1)) hx hb dX7_sign_30 (by decide) ?_
      exact hret (-1) σ τ _ _ _ _ rfl ⟨⟨rfl, rfl⟩, Or.inr (⟨rfl, (by have h9 := jz_m1; omega)⟩)⟩ hP hS dX7_sign_31
    · have kc5 := jnle c5 rfl rfl
      refine lv_aload_n hx hb dX7_sign_18 rfl (lv_at hl 0 rfl) ?_
      refine va_get (D := D) hx hb hts inlX7 hown hK hP 9 (jc_9 cI cL ad σ τ) rfl 3 (by decide) (hts _ kw_3_20) (fun _ h9 => h9) rfl dX7_sign_19 ?_
      refine lv_aload_n hx hb dX7_sign_22 rfl (lv_at hl 0 rfl) ?_
      refine va_get (D := D) hx hb hts inlX7 hown hK hP 9 (jc_9 cI cL ad σ τ) rfl 1 (by decide) (hts _ kw_13_17) (fun _ h9 => h9) rfl dX7_sign_23 ?_
      refine jald hx hb hK hP (jc_10 cI cL ad σ τ) (jin rfl (by omega) (by omega)) dX7_sign_26 ?_
      have g6 := w2 _ (jnat (x := (σ 9 1)) rfl (n := 80) (by omega) (by decide))
      refine jtopr (y := (σ 10 (σ 9 1).toNatClampNeg)) rfl ?_
      refine lv_goto (tgt := 31) hx hb dX7_sign_27 (by decide) ?_
      exact hret (σ 10 (σ 9 1).toNatClampNeg) σ τ _ _ _ _ rfl ⟨⟨rfl, rfl⟩, Or.inl ⟨rfl, (by omega), (by omega)⟩⟩ hP hS dX7_sign_31
set_option maxHeartbeats 4000000 in
set_option maxRecDepth 100000 in
theorem c_X7_fail_9 (l : Launch) (D : va_G) (cI cL : ClassId) (ad zz : Nat → Nat) (hJ : jD ad) (σ : Nat → Nat → Int32) (τ : Nat → Nat → Int64) (a1 : Int32) (A1 : Int) (t1 : a1.toInt = A1) (hI92 : jI92 σ) (hp0 : 0 ≤ A1) : jMv l yX7_fail cX7_fail 2 none ({ frames := 0, cells := 0, slots := 0, locals := 0 }) D cI cL ad zz [.ref (ad 9), .int a1] σ τ (fun σ' τ' => τ = τ' ∧ (∀ i : Nat, (i < 9 ∨ 9 < i) → σ' i = σ i) ∧ (∀ k : Nat, (k < 2 ∨ 2 < k) → σ' 9 k = σ 9 k) ∧ (0 ≤ (σ' 9 2).toInt) ∧ True) := by
  refine jMv.of hJ (by decide +kernel) rfl (Nat.le_of_ble_eq_true rfl) ?_
  intro p e s m args below meth c Q ls hC hret hl hP
  obtain ⟨hx, hb, hr, hml, hown, hts, hK, -, hlocks, hZ⟩ := hC
  have hown : s.vm.findClass RX7 = some m.cls := hown
  have hS : va_S (jA ad) s.heap s.heap [] := va_S.rf
  have hA : ∀ q, jA ad q → jA ad q := fun _ h => h
  have hl : lv_has ls 2 [(0, .ref (ad 9)), (1, .int a1)] := hl
  have g1 := jrg t1
  have i1 : (-1) ≤ (σ 9 2).toInt := hI92
  refine lv_aload_n hx hb dX7_fail_0 rfl (lv_at hl 0 rfl) ?_
  refine va_get (D := D) hx hb hts inlX7 hown hK hP 9 (jc_9 cI cL ad σ τ) rfl 2 (by decide) (hts _ kw_14_6) (fun _ h9 => h9) rfl dX7_fail_1 ?_
  refine lv_iconst (v := (-1)) hx hb dX7_fail_4 (by decide) ?_
  refine lv_icmp_ne (tgt := 13) hx hb dX7_fail_5 (by decide) (fun c2 => ?_) (fun c2 => ?_)
  · have kc2 := jne c2 rfl jz_m1
    exact hret σ τ _ _ _ _ ⟨rfl, (fun _ _ => rfl), (fun _ _ => rfl), (by omega), trivial⟩ hP hS dX7_fail_13
  · have kc2 := jeq c2 rfl jz_m1
    refine lv_aload_n hx hb dX7_fail_8 rfl (lv_at hl 0 rfl) ?_
    refine lv_iload_n hx hb dX7_fail_9 rfl (lv_at hl 1 rfl) ?_
    refine jput (ty := .int) hx hb hts inlX7 tyX7 tyX7_ok nmX7 hown hK hP hJ hA hS (jc_9 cI cL ad σ τ) rfl (k := 2) (by decide) (Nat.le_of_ble_eq_true rfl) (jp_9_2 cI cL ad σ τ a1) (hts _ kw_14_6) (fun _ h9 => h9) rfl (by decide +kernel) rfl rfl dX7_fail_10 (fun σ3 H locs eσ3 hP hS => ?_)
    have z4 : (σ3 9 2).toInt = A1 := by rw [(show σ3 9 2 = a1 from (by rw [eσ3]; exact jup_s))]; exact t1
    exact hret σ3 τ _ _ _ _ ⟨rfl, (fun i hi => by rw [eσ3, jup_n (by omega)]), (fun k hk => by rw [eσ3, jup_k (by omega)]), (by omega), trivial⟩ hP hS dX7_fail_13
set_option maxHeartbeats 4000000 in
set_option maxRecDepth 100000 in
theorem c_X7_end_9 (l : Launch) (D : va_G) (cI cL : ClassId) (ad zz : Nat → Nat) (hJ : jD ad) (σ : Nat → Nat → Int32) (τ : Nat → Nat → Int64) (hI9 : jI9 σ) (hI91 : jI91 σ) (hI92 : jI92 σ) : jM l yX7_end cX7_end 1 (some .int) ({ frames := 0, cells := 0, slots := 0, locals := 0 }) D cI cL ad zz [.ref (ad 9)] σ τ (fun r σ' τ' => τ = τ' ∧ (∀ i : Nat, (i < 9 ∨ 9 < i) → σ' i = σ i) ∧ (∀ k : Nat, (k < 0 ∨ 0 < k) ∧ (k < 2 ∨ 2 < k) → σ' 9 k = σ 9 k) ∧ (jI9 σ') ∧ (jI92 σ') ∧ ((r = (-1) ∧ ((σ 9 2).toInt = (-1))) ∨ (True ∧ (0 ≤ r.toInt)))) := by
  refine jM.of hJ (by decide +kernel) (nt := .int) rfl (Nat.le_of_ble_eq_true rfl) ?_
  intro p e s m args below meth c Q ls hC hret hl hP
  obtain ⟨hx, hb, hr, hml, hown, hts, hK, -, hlocks, hZ⟩ := hC
  have hown : s.vm.findClass RX7 = some m.cls := hown
  have hS : va_S (jA ad) s.heap s.heap [] := va_S.rf
  have hA : ∀ q, jA ad q → jA ad q := fun _ h => h
  have hl : lv_has ls 1 [(0, .ref (ad 9))] := hl
  obtain ⟨i1, w2, w3⟩ : (0 ≤ (σ 9 0).toInt ∧ (σ 9 0).toInt ≤ 80) ∧ (∀ k : Nat, k < 80 → 0 ≤ (σ 10 k).toInt ∧ (σ 10 k).toInt ≤ 255) ∧ (∀ k : Nat, k < 8 → 0 ≤ (σ 11 k).toInt ∧ (σ 11 k).toInt ≤ 3) := id hI9
  obtain ⟨i4, i5⟩ : (0 ≤ (σ 9 1).toInt) ∧ ((σ 9 1).toInt ≤ (σ 9 0).toInt) := id hI91
  have i6 : (-1) ≤ (σ 9 2).toInt := hI92
  refine lv_aload_n hx hb dX7_end_0 rfl (lv_at hl 0 rfl) ?_
  refine va_get (D := D) hx hb hts inlX7 hown hK hP 9 (jc_9 cI cL ad σ τ) rfl 2 (by decide) (hts _ kw_14_6) (fun _ h9 => h9) rfl dX7_end_1 ?_
  refine lv_iconst (v := (-1)) hx hb dX7_end_4 (by decide) ?_
  refine lv_icmp_ne (tgt := 27) hx hb dX7_end_5 (by decide) (fun c7 => ?_) (fun c7 => ?_)
  · have kc7 := jne c7 rfl jz_m1
    refine lv_aload_n hx hb dX7_end_27 rfl (lv_at hl 0 rfl) ?_
    refine lv_iconst (v := 0) hx hb dX7_end_28 (by decide) ?_
    refine jput (ty := .int) hx hb hts inlX7 tyX7 tyX7_ok nmX7 hown hK hP hJ hA hS (jc_9 cI cL ad σ τ) rfl (k := 0) (by decide) (Nat.le_of_ble_eq_true rfl) (jp_9_0 cI cL ad σ τ 0) (hts _ kw_13_0) (fun _ h9 => h9) rfl (by decide +kernel) rfl rfl dX7_end_29 (fun σ8 H locs eσ8 hP hS => ?_)
    refine lv_aload_n hx hb dX7_end_32 rfl (lv_at hl 0 rfl) ?_
    refine va_get (D := D) hx hb hts inlX7 hown hK hP 9 (jc_9 cI cL ad σ8 τ) rfl 2 (by decide) (hts _ kw_14_6) (fun _ h9 => h9) rfl dX7_end_33 ?_
    have m9 : σ8 9 2 = (σ 9 2) := (by rw [eσ8, jup_k (by decide)])
    refine jtopr m9 ?_
    have z10 : (σ8 9 0).toInt = 0 := by rw [(show σ8 9 0 = 0 from (by rw [eσ8]; exact jup_s))]; exact jz_0
    have w11 : ∀ k : Nat, k < 80 → 0 ≤ (σ8 10 k).toInt ∧ (σ8 10 k).toInt ≤ 255 := (by rw [eσ8, jup_n (by decide)]; exact w2)
    have w12 : ∀ k : Nat, k < 8 → 0 ≤ (σ8 11 k).toInt ∧ (σ8 11 k).toInt ≤ 3 := (by rw [eσ8, jup_n (by decide)]; exact w3)
    have I13 : jI9 σ8 := ⟨(by omega), w11, w12⟩
    have z14 : (σ8 9 2).toInt = (σ 9 2).toInt := by rw [(show σ8 9 2 = (σ 9 2) from m9)]
    have I15 : jI92 σ8 := (show (-1) ≤ (σ8 9 2).toInt by omega)
    exact hret (σ 9 2) σ8 τ _ _ _ _ rfl ⟨rfl, (fun i hi => by rw [eσ8, jup_n (by omega)]), (fun k hk => by rw [eσ8, jup_k (by omega)]), I13, I15, Or.inr (⟨trivial, (by omega)⟩)⟩ hP hS dX7_end_36
  · have kc7 := jeq c7 rfl jz_m1
    refine lv_aload_n hx hb dX7_end_8 rfl (lv_at hl 0 rfl) ?_
    refine va_get (D := D) hx hb hts inlX7 hown hK hP 9 (jc_9 cI cL ad σ τ) rfl 1 (by decide) (hts _ kw_13_17) (fun _ h9 => h9) rfl dX7_end_9 ?_
    refine lv_aload_n hx hb dX7_end_12 rfl (lv_at hl 0 rfl) ?_
    refine va_get (D := D) hx hb hts inlX7 hown hK hP 9 (jc_9 cI cL ad σ τ) rfl 0 (by decide) (hts _ kw_13_0) (fun _ h9 => h9) rfl dX7_end_13 ?_
    refine lv_icmp_ge (tgt := 27) hx hb dX7_end_16 (by decide) (fun c16 => ?_) (fun c16 => ?_)
    · have kc16 := jle c16 rfl rfl
      refine lv_aload_n hx hb dX7_end_27 rfl (lv_at hl 0 rfl) ?_
      refine lv_iconst (v := 0) hx hb dX7_end_28 (by decide) ?_
      refine jput (ty := .int) hx hb hts inlX7 tyX7 tyX7_ok nmX7 hown hK hP hJ hA hS (jc_9 cI cL ad σ τ) rfl (k := 0) (by decide) (Nat.le_of_ble_eq_true rfl) (jp_9_0 cI cL ad σ τ 0) (hts _ kw_13_0) (fun _ h9 => h9) rfl (by decide +kernel) rfl rfl dX7_end_29 (fun σ17 H locs eσ17 hP hS => ?_)
      refine lv_aload_n hx hb dX7_end_32 rfl (lv_at hl 0 rfl) ?_
      refine va_get (D := D) hx hb hts inlX7 hown hK hP 9 (jc_9 cI cL ad σ17 τ) rfl 2 (by decide) (hts _ kw_14_6) (fun _ h9 => h9) rfl dX7_end_33 ?_
      have m18 : σ17 9 2 = (σ 9 2) := (by rw [eσ17, jup_k (by decide)])
      refine jtopr m18 ?_
      have z19 : (σ17 9 0).toInt = 0 := by rw [(show σ17 9 0 = 0 from (by rw [eσ17]; exact jup_s))]; exact jz_0
      have w20 : ∀ k : Nat, k < 80 → 0 ≤ (σ17 10 k).toInt ∧ (σ17 10 k).toInt ≤ 255 := (by rw [eσ17, jup_n (by decide)]; exact w2)
      have w21 : ∀ k : Nat, k < 8 → 0 ≤ (σ17 11 k).toInt ∧ (σ17 11 k).toInt ≤ 3 := (by rw [eσ17, jup_n (by decide)]; exact w3)
      have I22 : jI9 σ17 := ⟨(by omega), w20, w21⟩
      have z23 : (σ17 9 2).toInt = (σ 9 2).toInt := by rw [(show σ17 9 2 = (σ 9 2) from m18)]
      have I24 : jI92 σ17 := (show (-1) ≤ (σ17 9 2).toInt by omega)
      exact hret (σ 9 2) σ17 τ _ _ _ _ rfl ⟨rfl, (fun i hi => by rw [eσ17, jup_n (by omega)]), (fun k hk => by rw [eσ17, jup_k (by omega)]), I22, I24, Or.inl ⟨jsame rfl jz_m1 (by omega), (by omega)⟩⟩ hP hS dX7_end_36
    · have kc16 := jnle c16 rfl rfl
      refine lv_aload_n hx hb dX7_end_19 rfl (lv_at hl 0 rfl) ?_
      refine lv_aload_n hx hb dX7_end_20 rfl (lv_at hl 0 rfl) ?_
      refine va_get (D := D) hx hb hts inlX7 hown hK hP 9 (jc_9 cI cL ad σ τ) rfl 1 (by decide) (hts _ kw_13_17) (fun _ h9 => h9) rfl dX7_end_21 ?_
      refine jput (ty := .int) hx hb hts inlX7 tyX7 tyX7_ok nmX7 hown hK hP hJ hA hS (jc_9 cI cL ad σ τ) rfl (k := 2) (by decide) (Nat.le_of_ble_eq_true rfl) (jp_9_2 cI cL ad σ τ (σ 9 1)) (hts _ kw_14_6) (fun _ h9 => h9) rfl (by decide +kernel) rfl rfl dX7_end_24 (fun σ25 H locs eσ25 hP hS => ?_)
      refine lv_aload_n hx hb dX7_end_27 rfl (lv_at hl 0 rfl) ?_
      refine lv_iconst (v := 0) hx hb dX7_end_28 (by decide) ?_
      refine jput (ty := .int) hx hb hts inlX7 tyX7 tyX7_ok nmX7 hown hK hP hJ hA hS (jc_9 cI cL ad σ25 τ) rfl (k := 0) (by decide) (Nat.le_of_ble_eq_true rfl) (jp_9_0 cI cL ad σ25 τ 0) (hts _ kw_13_0) (fun _ h9 => h9) rfl (by decide +kernel) rfl rfl dX7_end_29 (fun σ26 H locs eσ26 hP hS => ?_)
      refine lv_aload_n hx hb dX7_end_32 rfl (lv_at hl 0 rfl) ?_
      refine va_get (D := D) hx hb hts inlX7 hown hK hP 9 (jc_9 cI cL ad σ26 τ) rfl 2 (by decide) (hts _ kw_14_6) (fun _ h9 => h9) rfl dX7_end_33 ?_
      have m27 : σ26 9 2 = (σ 9 1) := (by rw [eσ26, jup_k (by decide)]; exact (by rw [eσ25]; exact jup_s))
      refine jtopr m27 ?_
      have z28 : (σ26 9 0).toInt = 0 := by rw [(show σ26 9 0 = 0 from (by rw [eσ26]; exact jup_s))]; exact jz_0
      have w29 : ∀ k : Nat, k < 80 → 0 ≤ (σ26 10 k).toInt ∧ (σ26 10 k).toInt ≤ 255 := (by rw [eσ26, jup_n (by decide)]; exact (by rw [eσ25, jup_n (by decide)]; exact w2))
      have w30 : ∀ k : Nat, k < 8 → 0 ≤ (σ26 11 k).toInt ∧ (σ26 11 k).toInt ≤ 3 := (by rw [eσ26, jup_n (by decide)]; exact (by rw [eσ25, jup_n (by decide)]; exact w3))
      have I31 : jI9 σ26 := ⟨(by omega), w29, w30⟩
      have z32 : (σ26 9 2).toInt = (σ 9 1).toInt := by rw [(show σ26 9 2 = (σ 9 1) from m27)]
      have I33 : jI92 σ26 := (show (-1) ≤ (σ26 9 2).toInt by omega)
      exact hret (σ 9 1) σ26 τ _ _ _ _ rfl ⟨rfl, (fun i hi => by rw [eσ26, jup_n (by omega), eσ25, jup_n (by omega)]), (fun k hk => by rw [eσ26, jup_k (by omega), eσ25, jup_k (by omega)]), I31, I33, Or.inr (⟨trivial, (by omega)⟩)⟩ hP hS dX7_end_36
set_option maxHeartbeats 4000000 in
set_option maxRecDepth 100000 in
theorem c_X7_skip_9 (l : Launch) (D : va_G) (cI cL : ClassId) (ad zz : Nat → Nat) (hJ : jD ad) (σ : Nat → Nat → Int32) (τ : Nat → Nat → Int64) (a1 : Int32) (A1 : Int) (t1 : a1.toInt = A1) (hI9 : jI9 σ) (hI91 : jI91 σ) (hI92 : jI92 σ) (hp0 : 0 ≤ A1) : jM l yX7_skip cX7_skip 2 (some .boolean) ({ frames := 1, cells := 0, slots := 0, locals := 20 }) D cI cL ad zz [.ref (ad 9), .int a1] σ τ (fun r σ' τ' => τ = τ' ∧ (∀ i : Nat, (i < 9 ∨ 9 < i) → σ' i = σ i) ∧ (∀ k : Nat, (k < 1 ∨ 1 < k) → σ' 9 k = σ 9 k) ∧ (jI9 σ') ∧ (jI91 σ') ∧ (jI92 σ') ∧ True) := by
  refine jM.of hJ (by decide +kernel) (nt := .boolean) rfl (Nat.le_of_ble_eq_true rfl) ?_
  intro p e s m args below meth c Q ls hC hret hl hP
  obtain ⟨hx, hb, hr, hml, hown, hts, hK, -, hlocks, hZ⟩ := hC
  have hown : s.vm.findClass RX7 = some m.cls := hown
  have hS : va_S (jA ad) s.heap s.heap [] := va_S.rf
  have hA : ∀ q, jA ad q → jA ad q := fun _ h => h
  have hl : lv_has ls 2 [(0, .ref (ad 9)), (1, .int a1)] := hl
  have g1 := jrg t1
  obtain ⟨i1, w2, w3⟩ : (0 ≤ (σ 9 0).toInt ∧ (σ 9 0).toInt ≤ 80) ∧ (∀ k : Nat, k < 80 → 0 ≤ (σ 10 k).toInt ∧ (σ 10 k).toInt ≤ 255) ∧ (∀ k : Nat, k < 8 → 0 ≤ (σ 11 k).toInt ∧ (σ 11 k).toInt ≤ 3) := id hI9
  obtain ⟨i4, i5⟩ : (0 ≤ (σ 9 1).toInt) ∧ ((σ 9 1).toInt ≤ (σ 9 0).toInt) := id hI91
  have i6 : (-1) ≤ (σ 9 2).toInt := hI92
  refine lv_aload_n hx hb dX7_skip_0 rfl (lv_at hl 0 rfl) ?_
  refine va_get (D := D) hx hb hts inlX7 hown hK hP 9 (jc_9 cI cL ad σ τ) rfl 2 (by decide) (hts _ kw_14_6) (fun _ h9 => h9) rfl dX7_skip_1 ?_
  refine lv_iconst (v := (-1)) hx hb dX7_skip_4 (by decide) ?_
  refine lv_icmp_ne (tgt := 16) hx hb dX7_skip_5 (by decide) (fun c7 => ?_) (fun c7 => ?_)
  · have kc7 := jne c7 rfl jz_m1
    refine lv_iconst (v := 0) hx hb dX7_skip_16 (by decide) ?_
    have I8 : jI9 σ := ⟨(by omega), w2, w3⟩
    have I9 : jI91 σ := ⟨(by omega), (by omega)⟩
    have I10 : jI92 σ := (show (-1) ≤ (σ 9 2).toInt by omega)
    exact hret 0 σ τ _ _ _ _ rfl ⟨rfl, (fun _ _ => rfl), (fun _ _ => rfl), I8, I9, I10, trivial⟩ hP hS dX7_skip_17
  · have kc7 := jeq c7 rfl jz_m1
    refine lv_aload_n hx hb dX7_skip_8 rfl (lv_at hl 0 rfl) ?_
    have I11 : jI9 σ := ⟨(by omega), w2, w3⟩
    refine jcallV (As := []) (rest := []) ⟨hx, hb, hml, hown, hts⟩ hK hP hA hS hZ (c_X7_sign_9 l D cI cL ad zz hJ σ τ I11) cw_RX7_35 (jc_9 cI cL ad σ τ) rfl ⟨Nat.le_of_ble_eq_true rfl, Nat.le_of_ble_eq_true rfl⟩ rfl rfl rfl hl.1 rfl (Nat.le_of_ble_eq_true rfl) dX7_skip_9 ⟨Nat.zero_le _, Nat.zero_le _⟩ (fun r13 σ12 τ12 H locs h12 hP hS => ?_)
    obtain ⟨⟨rfl, rfl⟩, h12⟩ := h12
    rcases h12 with h14 | h15
    · obtain ⟨q18, k16, k17⟩ := h14
      have q19 : r13 = (σ 10 (σ 9 1).toNatClampNeg) := q18.trans rfl
      have q19 := q19.symm
      subst q19
      refine lv_iload_n hx hb dX7_skip_12 rfl (lv_at hl 1 rfl) ?_
      refine lv_icmp_eq (tgt := 18) hx hb dX7_skip_13 (by decide) (fun c20 => ?_) (fun c20 => ?_)
      · have kc20 := jeq c20 rfl t1
        refine lv_aload_n hx hb dX7_skip_18 rfl (lv_at hl 0 rfl) ?_
        refine lv_dup hx hb dX7_skip_19 rfl ?_
        refine va_get (D := D) hx hb hts inlX7 hown hK hP 9 (jc_9 cI cL ad σ τ) rfl 1 (by decide) (hts _ kw_13_17) (fun _ h9 => h9) rfl dX7_skip_20 ?_
        refine lv_iconst (v := 1) hx hb dX7_skip_23 (by decide) ?_
        have g21 := jrg (rfl : (σ 9 1).toInt = (σ 9 1).toInt)
        refine lv_iadd hx hb dX7_skip_24 ?_
        refine lv_topi (fun x22 ex22 => ?_)
        have tx22 : x22.toInt = (σ 9 1).toInt + 1 := (jadd ex22 rfl jz_1 (by omega) (by omega)).trans (by omega)
        refine jput (ty := .int) hx hb hts inlX7 tyX7 tyX7_ok nmX7 hown hK hP hJ hA hS (jc_9 cI cL ad σ τ) rfl (k := 1) (by decide) (Nat.le_of_ble_eq_true rfl) (jp_9_1 cI cL ad σ τ x22) (hts _ kw_13_17) (fun _ h9 => h9) rfl (by decide +kernel) rfl rfl dX7_skip_25 (fun σ23 H locs eσ23 hP hS => ?_)
        refine lv_iconst (v := 1) hx hb dX7_skip_28 (by decide) ?_
        have z24 : (σ23 9 0).toInt = (σ 9 0).toInt := by rw [(show σ23 9 0 = (σ 9 0) from (by rw [eσ23, jup_k (by decide)]))]
        have w25 : ∀ k : Nat, k < 80 → 0 ≤ (σ23 10 k).toInt ∧ (σ23 10 k).toInt ≤ 255 := (by rw [eσ23, jup_n (by decide)]; exact w2)
        have w26 : ∀ k : Nat, k < 8 → 0 ≤ (σ23 11 k).toInt ∧ (σ23 11 k).toInt ≤ 3 := (by rw [eσ23, jup_n (by decide)]; exact w3)
        have I27 : jI9 σ23 := ⟨(by omega), w25, w26⟩
        have z28 : (σ23 9 1).toInt = (σ 9 1).toInt + 1 := by rw [(show σ23 9 1 = x22 from (by rw [eσ23]; exact jup_s))]; exact tx22
        have I29 : jI91 σ23 := ⟨(by omega), (by omega)⟩
        have z30 : (σ23 9 2).toInt = (σ 9 2).toInt := by rw [(show σ23 9 2 = (σ 9 2) from (by rw [eσ23, jup_k (by decide)]))]
        have I31 : jI92 σ23 := (show (-1) ≤ (σ23 9 2).toInt by omega)
        exact hret 1 σ23 τ _ _ _ _ rfl ⟨rfl, (fun i hi => by rw [eσ23, jup_n (by omega)]), (fun k hk => by rw [eσ23, jup_k (by omega)]), I27, I29, I31, trivial⟩ hP hS dX7_skip_29
      · have kc20 := jne c20 rfl t1
        refine lv_iconst (v := 0) hx hb dX7_skip_16 (by decide) ?_
        have I32 : jI91 σ := ⟨(by omega), (by omega)⟩
        have I33 : jI92 σ := (show (-1) ≤ (σ 9 2).toInt by omega)
        exact hret 0 σ τ _ _ _ _ rfl ⟨rfl, (fun _ _ => rfl), (fun _ _ => rfl), I11, I32, I33, trivial⟩ hP hS dX7_skip_17
    · obtain ⟨q35, k34⟩ := h15
      have q35 := q35.symm
      subst q35
      refine lv_iload_n hx hb dX7_skip_12 rfl (lv_at hl 1 rfl) ?_
      refine lv_icmp_eq (tgt := 18) hx hb dX7_skip_13 (by decide) (fun c => absurd (jeq c jz_m1 t1) (by omega)) (fun c36 => ?_)
      have kc36 := jne c36 jz_m1 t1
      refine lv_iconst (v := 0) hx hb dX7_skip_16 (by decide) ?_
      have I37 : jI91 σ := ⟨(by omega), (by omega)⟩
      have I38 : jI92 σ := (show (-1) ≤ (σ 9 2).toInt by omega)
      exact hret 0 σ τ _ _ _ _ rfl ⟨rfl, (fun _ _ => rfl), (fun _ _ => rfl), I11, I37, I38, trivial⟩ hP hS dX7_skip_17
set_option maxHeartbeats 4000000 in
set_option maxRecDepth 100000 in
theorem c_X7_number_2 (l : Launch) (D : va_G) (cI cL : ClassId) (ad zz : Nat → Nat) (hJ : jD ad) (σ : Nat → Nat → Int32) (τ : Nat → Nat → Int64) (hI9 : jI9 σ) (hI91 : jI91 σ) (hI92 : jI92 σ) : jM l yX7_number cX7_number 4 (some .int) ({ frames := 1, cells := 0, slots := 0, locals := 21 }) D cI cL ad zz [.ref (ad 9), .int 2] σ τ (fun r σ' τ' => τ = τ' ∧ (∀ i : Nat, (i < 9 ∨ 9 < i) → σ' i = σ i) ∧ (∀ k : Nat, (k < 1 ∨ 1 < k) ∧ (k < 2 ∨ 2 < k) → σ' 9 k = σ 9 k) ∧ (jI9 σ') ∧ (jI91 σ') ∧ (jI92 σ') ∧ ((0 ≤ (σ 9 2).toInt ∧ 0 ≤ (σ' 9 2).toInt) ∨ ((σ 9 2).toInt = (-1))) ∧ ((True ∧ (0 ≤ r.toInt ∧ r.toInt ≤ 99)))) := by
  refine jM.of hJ (by decide +kernel) (nt := .int) rfl (Nat.le_of_ble_eq_true rfl) ?_
  intro p e s m args below meth c Q ls hC hret hl hP
  obtain ⟨hx, hb, hr, hml, hown, hts, hK, -, hlocks, hZ⟩ := hC
  have hown : s.vm.findClass RX7 = some m.cls := hown
  have hS : va_S (jA ad) s.heap s.heap [] := va_S.rf
  have hA : ∀ q, jA ad q → jA ad q := fun _ h => h
  have hl : lv_has ls 4 [(0, .ref (ad 9)), (1, .int 2)] := hl
  obtain ⟨i1, w2, w3⟩ : (0 ≤ (σ 9 0).toInt ∧ (σ 9 0).toInt ≤ 80) ∧ (∀ k : Nat, k < 80 → 0 ≤ (σ 10 k).toInt ∧ (σ 10 k).toInt ≤ 255) ∧ (∀ k : Nat, k < 8 → 0 ≤ (σ 11 k).toInt ∧ (σ 11 k).toInt ≤ 3) := id hI9
  obtain ⟨i4, i5⟩ : (0 ≤ (σ 9 1).toInt) ∧ ((σ 9 1).toInt ≤ (σ 9 0).toInt) := id hI91
  have i6 : (-1) ≤ (σ 9 2).toInt := hI92
  refine lv_aload_n hx hb dX7_number_0 rfl (lv_at hl 0 rfl) ?_
  have I7 : jI9 σ := ⟨(by omega), w2, w3⟩
  refine jcallV (As := []) (rest := []) ⟨hx, hb, hml, hown, hts⟩ hK hP hA hS hZ (c_X7_sign_9 l D cI cL ad zz hJ σ τ I7) cw_RX7_35 (jc_9 cI cL ad σ τ) rfl ⟨Nat.le_of_ble_eq_true rfl, Nat.le_of_ble_eq_true rfl⟩ rfl rfl rfl hl.1 rfl (Nat.le_of_ble_eq_true rfl) dX7_number_1 ⟨Nat.zero_le _, Nat.zero_le _⟩ (fun r9 σ8 τ8 H locs h8 hP hS => ?_)
  obtain ⟨⟨rfl, rfl⟩, h8⟩ := h8
  rcases h8 with h10 | h11
  · obtain ⟨q14, k12, k13⟩ := h10
    have q15 : r9 = (σ 10 (σ 9 1).toNatClampNeg) := q14.trans rfl
    have q15 := q15.symm
    subst q15
    refine jcallS (As := [.int (σ 10 (σ 9 1).toNatClampNeg)]) (rest := []) ⟨hx, hb, hml, hown, hts⟩ hK hP hA hS hZ (c_X7_isDigit l D cI cL ad zz hJ σ τ (σ 10 (σ 9 1).toNatClampNeg) ((σ 10 (σ 9 1).toNatClampNeg).toInt) rfl) cw_RX7_39 ⟨Nat.le_of_ble_eq_true rfl, Nat.le_of_ble_eq_true rfl⟩ rfl rfl rfl hl.1 rfl (Nat.le_of_ble_eq_true rfl) dX7_number_4 ⟨Nat.zero_le _, Nat.zero_le _⟩ (fun r17 σ16 τ16 H locs h16 hP hS => ?_)
    obtain ⟨⟨rfl, rfl⟩, h16⟩ := h16
    rcases h16 with h18 | h19
    · obtain ⟨q21, k20⟩ := h18
      have q21 := q21.symm
      subst q21
      refine lv_if_ne (tgt := 18) hx hb dX7_number_7 (by decide) (fun _ => ?_) (fun c => absurd c (by decide))
      refine lv_iconst (v := 0) hx hb dX7_number_18 (by decide) ?_
      refine lv_istore_n (lv' := [(2, .int 0), (0, .ref (ad 9)), (1, .int 2)]) hx hb dX7_number_19 rfl hl (by decide) rfl (fun ls hl => ?_)
      refine lv_iconst (v := 0) hx hb dX7_number_20 (by decide) ?_
      refine lv_istore_n (lv' := [(3, .int 0), (2, .int 0), (0, .ref (ad 9)), (1, .int 2)]) hx hb dX7_number_21 rfl hl (by decide) rfl (fun ls hl => ?_)
      refine lv_iload_n hx hb dX7_number_22 rfl (lv_at hl 0 rfl) ?_
      refine lv_iload_n hx hb dX7_number_23 rfl (lv_at hl 3 rfl) ?_
      refine lv_icmp_ge (tgt := 68) hx hb dX7_number_24 (by decide) (fun c => absurd c (by decide)) (fun _ => ?_)
      refine lv_aload_n hx hb dX7_number_27 rfl (lv_at hl 2 rfl) ?_
      refine jcallV (As := []) (rest := []) ⟨hx, hb, hml, hown, hts⟩ hK hP hA hS hZ (c_X7_sign_9 l D cI cL ad zz hJ σ τ I7) cw_RX7_35 (jc_9 cI cL ad σ τ) rfl ⟨Nat.le_of_ble_eq_true rfl, Nat.le_of_ble_eq_true rfl⟩ rfl rfl rfl hl.1 rfl (Nat.le_of_ble_eq_true rfl) dX7_number_28 ⟨Nat.zero_le _, Nat.zero_le _⟩ (fun r23 σ22 τ22 H locs h22 hP hS => ?_)
      obtain ⟨⟨rfl, rfl⟩, h22⟩ := h22
      rcases h22 with h24 | h25
      · obtain ⟨q28, k26, k27⟩ := h24
        have q29 : r23 = (σ 10 (σ 9 1).toNatClampNeg) := q28.trans rfl
        have q29 := q29.symm
        subst q29
        refine jcallS (As := [.int (σ 10 (σ 9 1).toNatClampNeg)]) (rest := []) ⟨hx, hb, hml, hown, hts⟩ hK hP hA hS hZ (c_X7_isDigit l D cI cL ad zz hJ σ τ (σ 10 (σ 9 1).toNatClampNeg) ((σ 10 (σ 9 1).toNatClampNeg).toInt) rfl) cw_RX7_39 ⟨Nat.le_of_ble_eq_true rfl, Nat.le_of_ble_eq_true rfl⟩ rfl rfl rfl hl.1 rfl (Nat.le_of_ble_eq_true rfl) dX7_number_31 ⟨Nat.zero_le _, Nat.zero_le _⟩ (fun r31 σ30 τ30 H locs h30 hP hS => ?_)
        obtain ⟨⟨rfl, rfl⟩, h30⟩ := h30
        rcases h30 with h32 | h33
        · obtain ⟨q35, k34⟩ := h32
          have q35 := q35.symm
          subst q35
          refine lv_if_eq (tgt := 68) hx hb dX7_number_34 (by decide) (fun c => absurd c (by decide)) (fun _ => ?_)
          refine lv_iload_n hx hb dX7_number_37 rfl (lv_at hl 1 rfl) ?_
          refine lv_bipush (v := 10) hx hb dX7_number_38 (by decide) ?_
          refine lv_imul hx hb dX7_number_40 ?_
          refine jtopr (y := 0) (by decide) ?_
          refine lv_aload_n hx hb dX7_number_41 rfl (lv_at hl 2 rfl) ?_
          refine va_get (D := D) hx hb hts inlX7 hown hK hP 9 (jc_9 cI cL ad σ τ) rfl 3 (by decide) (hts _ kw_3_20) (fun _ h9 => h9) rfl dX7_number_42 ?_
          refine lv_aload_n hx hb dX7_number_45 rfl (lv_at hl 2 rfl) ?_
          refine lv_dup hx hb dX7_number_46 rfl ?_
          refine va_get (D := D) hx hb hts inlX7 hown hK hP 9 (jc_9 cI cL ad σ τ) rfl 1 (by decide) (hts _ kw_13_17) (fun _ h9 => h9) rfl dX7_number_47 ?_
          refine lv_dup_x1 hx hb dX7_number_50 rfl rfl ?_
          refine lv_iconst (v := 1) hx hb dX7_number_51 (by decide) ?_
          have g36 := jrg (rfl : (σ 9 1).toInt = (σ 9 1).toInt)
          refine lv_iadd hx hb dX7_number_52 ?_
          refine lv_topi (fun x37 ex37 => ?_)
          have tx37 : x37.toInt = (σ 9 1).toInt + 1 := (jadd ex37 rfl jz_1 (by omega) (by omega)).trans (by omega)
          refine jput (ty := .int) hx hb hts inlX7 tyX7 tyX7_ok nmX7 hown hK hP hJ hA hS (jc_9 cI cL ad σ τ) rfl (k := 1) (by decide) (Nat.le_of_ble_eq_true rfl) (jp_9_1 cI cL ad σ τ x37) (hts _ kw_13_17) (fun _ h9 => h9) rfl (by decide +kernel) rfl rfl dX7_number_53 (fun σ38 H locs eσ38 hP hS => ?_)
          refine jald hx hb hK hP (jc_10 cI cL ad σ38 τ) (jin rfl (by omega) (by omega)) dX7_number_56 ?_
          refine jtopr (y := (σ 10 (σ 9 1).toNatClampNeg)) (by rw [eσ38, jup_n (by decide)]) ?_
          refine lv_iadd hx hb dX7_number_57 ?_
          refine jtopr (y := (σ 10 (σ 9 1).toNatClampNeg)) (by rw [Int32.zero_add]) ?_
          refine lv_bipush (v := 48) hx hb dX7_number_58 (by decide) ?_
          have g39 := jrg (rfl : (σ 10 (σ 9 1).toNatClampNeg).toInt = (σ 10 (σ 9 1).toNatClampNeg).toInt)
          refine lv_isub hx hb dX7_number_60 ?_
          refine lv_topi (fun x40 ex40 => ?_)
          have tx40 : x40.toInt = (σ 10 (σ 9 1).toNatClampNeg).toInt - 48 := (jsub ex40 rfl jz_48 (by omega) (by omega)).trans (by omega)
          refine lv_istore_n (lv' := [(2, .int x40), (3, .int 0), (0, .ref (ad 9)), (1, .int 2)]) hx hb dX7_number_61 rfl hl (by decide) rfl (fun ls hl => ?_)
          refine lv_iinc (v := 1) (lv' := [(3, .int 1), (2, .int x40), (0, .ref (ad 9)), (1, .int 2)]) hx hb dX7_number_62 hl (k := 1) rfl (by decide) (by decide) rfl (fun ls hl => ?_)
          refine lv_goto (tgt := 22) hx hb dX7_number_65 (by decide) ?_
          refine lv_iload_n hx hb dX7_number_22 rfl (lv_at hl 0 rfl) ?_
          refine lv_iload_n hx hb dX7_number_23 rfl (lv_at hl 3 rfl) ?_
          refine lv_icmp_ge (tgt := 68) hx hb dX7_number_24 (by decide) (fun c => absurd c (by decide)) (fun _ => ?_)
          refine lv_aload_n hx hb dX7_number_27 rfl (lv_at hl 2 rfl) ?_
          have z41 : (σ38 9 0).toInt = (σ 9 0).toInt := by rw [(show σ38 9 0 = (σ 9 0) from (by rw [eσ38, jup_k (by decide)]))]
          have w42 : ∀ k : Nat, k < 80 → 0 ≤ (σ38 10 k).toInt ∧ (σ38 10 k).toInt ≤ 255 := (by rw [eσ38, jup_n (by decide)]; exact w2)
          have w43 : ∀ k : Nat, k < 8 → 0 ≤ (σ38 11 k).toInt ∧ (σ38 11 k).toInt ≤ 3 := (by rw [eσ38, jup_n (by decide)]; exact w3)
          have I44 : jI9 σ38 := ⟨(by omega), w42, w43⟩
          have z45 : (σ38 9 1).toInt = (σ 9 1).toInt + 1 := by rw [(show σ38 9 1 = x37 from (by rw [eσ38]; exact jup_s))]; exact tx37
          refine jcallV (As := []) (rest := []) ⟨hx, hb, hml, hown, hts⟩ hK hP hA hS hZ (c_X7_sign_9 l D cI cL ad zz hJ σ38 τ I44) cw_RX7_35 (jc_9 cI cL ad σ38 τ) rfl ⟨Nat.le_of_ble_eq_true rfl, Nat.le_of_ble_eq_true rfl⟩ rfl rfl rfl hl.1 rfl (Nat.le_of_ble_eq_true rfl) dX7_number_28 ⟨Nat.zero_le _, Nat.zero_le _⟩ (fun r47 σ46 τ46 H locs h46 hP hS => ?_)
          obtain ⟨⟨rfl, rfl⟩, h46⟩ := h46
          rcases h46 with h48 | h49
          · obtain ⟨q52, k50, k51⟩ := h48
            have q53 : r47 = (σ 10 x37.toNatClampNeg) := q52.trans (by rw [(show σ38 9 1 = x37 from (by rw [eσ38]; exact jup_s)), eσ38, jup_n (by decide)])
            have q53e : (σ38 10 (σ38 9 1).toNatClampNeg).toInt = (σ 10 x37.toNatClampNeg).toInt := by rw [← q52, ← q53]
            have q53 := q53.symm
            subst q53
            refine jcallS (As := [.int (σ 10 x37.toNatClampNeg)]) (rest := []) ⟨hx, hb, hml, hown, hts⟩ hK hP hA hS hZ (c_X7_isDigit l D cI cL ad zz hJ σ38 τ (σ 10 x37.toNatClampNeg) ((σ 10 x37.toNatClampNeg).toInt) rfl) cw_RX7_39 ⟨Nat.le_of_ble_eq_true rfl, Nat.le_of_ble_eq_true rfl⟩ rfl rfl rfl hl.1 rfl (Nat.le_of_ble_eq_true rfl) dX7_number_31 ⟨Nat.zero_le _, Nat.zero_le _⟩ (fun r55 σ54 τ54 H locs h54 hP hS => ?_)
            obtain ⟨⟨rfl, rfl⟩, h54⟩ := h54
            rcases h54 with h56 | h57
            · obtain ⟨q59, k58⟩ := h56
              have q59 := q59.symm
              subst q59
              refine lv_if_eq (tgt := 68) hx hb dX7_number_34 (by decide) (fun c => absurd c (by decide)) (fun _ => ?_)
              refine lv_iload_n hx hb dX7_number_37 rfl (lv_at hl 1 rfl) ?_
              refine lv_bipush (v := 10) hx hb dX7_number_38 (by decide) ?_
              refine lv_imul hx hb dX7_number_40 ?_
              refine lv_topi (fun x60 ex60 => ?_)
              have tx60 : x60.toInt = 10 * (σ 10 (σ 9 1).toNatClampNeg).toInt - 480 := (jmul ex60 tx40 jz_10 (by omega) (by omega)).trans (by omega)
              refine lv_aload_n hx hb dX7_number_41 rfl (lv_at hl 2 rfl) ?_
              refine va_get (D := D) hx hb hts inlX7 hown hK hP 9 (jc_9 cI cL ad σ38 τ) rfl 3 (by decide) (hts _ kw_3_20) (fun _ h9 => h9) rfl dX7_number_42 ?_
              refine lv_aload_n hx hb dX7_number_45 rfl (lv_at hl 2 rfl) ?_
              refine lv_dup hx hb dX7_number_46 rfl ?_
              refine va_get (D := D) hx hb hts inlX7 hown hK hP 9 (jc_9 cI cL ad σ38 τ) rfl 1 (by decide) (hts _ kw_13_17) (fun _ h9 => h9) rfl dX7_number_47 ?_
              have m61 : σ38 9 1 = x37 := (by rw [eσ38]; exact jup_s)
              refine jtopr m61 ?_
              refine lv_dup_x1 hx hb dX7_number_50 rfl rfl ?_
              refine lv_iconst (v := 1) hx hb dX7_number_51 (by decide) ?_
              refine lv_iadd hx hb dX7_number_52 ?_
              refine lv_topi (fun x62 ex62 => ?_)
              have tx62 : x62.toInt = (σ 9 1).toInt + 2 := (jadd ex62 tx37 jz_1 (by omega) (by omega)).trans (by omega)
              refine jput (ty := .int) hx hb hts inlX7 tyX7 tyX7_ok nmX7 hown hK hP hJ hA hS (jc_9 cI cL ad σ38 τ) rfl (k := 1) (by decide) (Nat.le_of_ble_eq_true rfl) (jp_9_1 cI cL ad σ38 τ x62) (hts _ kw_13_17) (fun _ h9 => h9) rfl (by decide +kernel) rfl rfl dX7_number_53 (fun σ63 H locs eσ63 hP hS => ?_)
              refine jald hx hb hK hP (jc_10 cI cL ad σ63 τ) (jin tx37 (by omega) (by omega)) dX7_number_56 ?_
              refine jtopr (y := (σ 10 x37.toNatClampNeg)) (by rw [eσ63, jup_n (by decide), eσ38, jup_n (by decide)]) ?_
              have g64 := jrg (rfl : (σ 10 x37.toNatClampNeg).toInt = (σ 10 x37.toNatClampNeg).toInt)
              refine lv_iadd hx hb dX7_number_57 ?_
              refine lv_topi (fun x65 ex65 => ?_)
              have tx65 : x65.toInt = 10 * (σ 10 (σ 9 1).toNatClampNeg).toInt + (σ 10 x37.toNatClampNeg).toInt - 480 := (jadd ex65 tx60 rfl (by omega) (by omega)).trans (by omega)
              refine lv_bipush (v := 48) hx hb dX7_number_58 (by decide) ?_
              refine lv_isub hx hb dX7_number_60 ?_
              refine lv_topi (fun x66 ex66 => ?_)
              have tx66 : x66.toInt = 10 * (σ 10 (σ 9 1).toNatClampNeg).toInt + (σ 10 x37.toNatClampNeg).toInt - 528 := (jsub ex66 tx65 jz_48 (by omega) (by omega)).trans (by omega)
              refine lv_istore_n (lv' := [(2, .int x66), (3, .int 1), (0, .ref (ad 9)), (1, .int 2)]) hx hb dX7_number_61 rfl hl (by decide) rfl (fun ls hl => ?_)
              refine lv_iinc (v := 2) (lv' := [(3, .int 2), (2, .int x66), (0, .ref (ad 9)), (1, .int 2)]) hx hb dX7_number_62 hl (k := 1) rfl (by decide) (by decide) rfl (fun ls hl => ?_)
              refine lv_goto (tgt := 22) hx hb dX7_number_65 (by decide) ?_
              refine lv_iload_n hx hb dX7_number_22 rfl (lv_at hl 0 rfl) ?_
              refine lv_iload_n hx hb dX7_number_23 rfl (lv_at hl 3 rfl) ?_
              refine lv_icmp_ge (tgt := 68) hx hb dX7_number_24 (by decide) (fun _ => ?_) (fun c => absurd (by decide) c)
              refine lv_iload_n hx hb dX7_number_68 rfl (lv_at hl 1 rfl) ?_
              have z67 : (σ63 9 0).toInt = (σ 9 0).toInt := by rw [(show σ63 9 0 = (σ 9 0) from (by rw [eσ63, jup_k (by decide)]; exact (by rw [eσ38, jup_k (by decide)])))]
              have w68 : ∀ k : Nat, k < 80 → 0 ≤ (σ63 10 k).toInt ∧ (σ63 10 k).toInt ≤ 255 := (by rw [eσ63, jup_n (by decide)]; exact w42)
              have w69 : ∀ k : Nat, k < 8 → 0 ≤ (σ63 11 k).toInt ∧ (σ63 11 k).toInt ≤ 3 := (by rw [eσ63, jup_n (by decide)]; exact w43)
              have I70 : jI9 σ63 := ⟨(by omega), w68, w69⟩
              have z71 : (σ63 9 1).toInt = (σ 9 1).toInt + 2 := by rw [(show σ63 9 1 = x62 from (by rw [eσ63]; exact jup_s))]; exact tx62
              have I72 : jI91 σ63 := ⟨(by omega), (by omega)⟩
              have z73 : (σ63 9 2).toInt = (σ 9 2).toInt := by rw [(show σ63 9 2 = (σ 9 2) from (by rw [eσ63, jup_k (by decide)]; exact (by rw [eσ38, jup_k (by decide)])))]
              have I74 : jI92 σ63 := (show (-1) ≤ (σ63 9 2).toInt by omega)
              exact hret x66 σ63 τ _ _ _ _ rfl ⟨rfl, (fun i hi => by rw [eσ63, jup_n (by omega), eσ38, jup_n (by omega)]), (fun k hk => by rw [eσ63, jup_k (by omega), eσ38, jup_k (by omega)]), I70, I72, I74, (by omega), ⟨trivial, (by have h9 := tx66; omega)⟩⟩ hP hS dX7_number_69
            · obtain ⟨q76, k75⟩ := h57
              have q76 := q76.symm
              subst q76
              refine lv_if_eq (tgt := 68) hx hb dX7_number_34 (by decide) (fun _ => ?_) (fun c => absurd (by decide) c)
              refine lv_iload_n hx hb dX7_number_68 rfl (lv_at hl 1 rfl) ?_
              have I77 : jI91 σ38 := ⟨(by omega), (by omega)⟩
              have z78 : (σ38 9 2).toInt = (σ 9 2).toInt := by rw [(show σ38 9 2 = (σ 9 2) from (by rw [eσ38, jup_k (by decide)]))]
              have I79 : jI92 σ38 := (show (-1) ≤ (σ38 9 2).toInt by omega)
              exact hret x40 σ38 τ _ _ _ _ rfl ⟨rfl, (fun i hi => by rw [eσ38, jup_n (by omega)]), (fun k hk => by rw [eσ38, jup_k (by omega)]), I44, I77, I79, (by omega), ⟨trivial, (by have h9 := tx40; omega)⟩⟩ hP hS dX7_number_69
          · obtain ⟨q81, k80⟩ := h49
            have q81 := q81.symm
            subst q81
            refine jcallS (As := [.int (-1)]) (rest := []) ⟨hx, hb, hml, hown, hts⟩ hK hP hA hS hZ (c_X7_isDigit l D cI cL ad zz hJ σ38 τ (-1) ((-1)) jz_m1) cw_RX7_39 ⟨Nat.le_of_ble_eq_true rfl, Nat.le_of_ble_eq_true rfl⟩ rfl rfl rfl hl.1 rfl (Nat.le_of_ble_eq_true rfl) dX7_number_31 ⟨Nat.zero_le _, Nat.zero_le _⟩ (fun r83 σ82 τ82 H locs h82 hP hS => ?_)
            obtain ⟨⟨rfl, rfl⟩, h82⟩ := h82
            rcases h82 with h84 | h85
            · obtain ⟨q87, k86⟩ := h84
              exact absurd (by omega : False) id
            · obtain ⟨q89, k88⟩ := h85
              have q89 := q89.symm
              subst q89
              refine lv_if_eq (tgt := 68) hx hb dX7_number_34 (by decide) (fun _ => ?_) (fun c => absurd (by decide) c)
              refine lv_iload_n hx hb dX7_number_68 rfl (lv_at hl 1 rfl) ?_
              have I90 : jI91 σ38 := ⟨(by omega), (by omega)⟩
              have z91 : (σ38 9 2).toInt = (σ 9 2).toInt := by rw [(show σ38 9 2 = (σ 9 2) from (by rw [eσ38, jup_k (by decide)]))]
              have I92 : jI92 σ38 := (show (-1) ≤ (σ38 9 2).toInt by omega)
              exact hret x40 σ38 τ _ _ _ _ rfl ⟨rfl, (fun i hi => by rw [eσ38, jup_n (by omega)]), (fun k hk => by rw [eσ38, jup_k (by omega)]), I44, I90, I92, (by omega), ⟨trivial, (by have h9 := tx40; omega)⟩⟩ hP hS dX7_number_69
        · obtain ⟨q94, k93⟩ := h33
          exact absurd (by omega : False) id
      · obtain ⟨q96, k95⟩ := h25
        exact absurd (by omega : False) id
    · obtain ⟨q98, k97⟩ := h19
      have q98 := q98.symm
      subst q98
      refine lv_if_ne (tgt := 18) hx hb dX7_number_7 (by decide) (fun c => absurd (by decide) c) (fun _ => ?_)
      refine lv_aload_n hx hb dX7_number_10 rfl (lv_at hl 0 rfl) ?_
      refine lv_aload_n hx hb dX7_number_11 rfl (lv_at hl 0 rfl) ?_
      refine va_get (D := D) hx hb hts inlX7 hown hK hP 9 (jc_9 cI cL ad σ τ) rfl 1 (by decide) (hts _ kw_13_17) (fun _ h9 => h9) rfl dX7_number_12 ?_
      have I99 : jI92 σ := (show (-1) ≤ (σ 9 2).toInt by omega)
      refine jcallVv (As := [.int (σ 9 1)]) (rest := []) ⟨hx, hb, hml, hown, hts⟩ hK hP hA hS hZ (c_X7_fail_9 l D cI cL ad zz hJ σ τ (σ 9 1) ((σ 9 1).toInt) rfl I99 (by omega)) cw_RX7_43 (jc_9 cI cL ad σ τ) rfl ⟨Nat.le_of_ble_eq_true rfl, Nat.le_of_ble_eq_true rfl⟩ rfl rfl rfl hl.1 rfl (Nat.le_of_ble_eq_true rfl) dX7_number_15 ⟨Nat.zero_le _, Nat.zero_le _⟩ (fun σ100 τ100 H locs h100 hP hS => ?_)
      obtain ⟨rfl, f102, f103, h100⟩ := h100
      obtain ⟨k104, h100⟩ := h100
      refine lv_iconst (v := 0) hx hb dX7_number_18 (by decide) ?_
      refine lv_istore_n (lv' := [(2, .int 0), (0, .ref (ad 9)), (1, .int 2)]) hx hb dX7_number_19 rfl hl (by decide) rfl (fun ls hl => ?_)
      refine lv_iconst (v := 0) hx hb dX7_number_20 (by decide) ?_
      refine lv_istore_n (lv' := [(3, .int 0), (2, .int 0), (0, .ref (ad 9)), (1, .int 2)]) hx hb dX7_number_21 rfl hl (by decide) rfl (fun ls hl => ?_)
      refine lv_iload_n hx hb dX7_number_22 rfl (lv_at hl 0 rfl) ?_
      refine lv_iload_n hx hb dX7_number_23 rfl (lv_at hl 3 rfl) ?_
      refine lv_icmp_ge (tgt := 68) hx hb dX7_number_24 (by decide) (fun c => absurd c (by decide)) (fun _ => ?_)
      refine lv_aload_n hx hb dX7_number_27 rfl (lv_at hl 2 rfl) ?_
      have z105 : (σ100 9 0).toInt = (σ 9 0).toInt := by rw [(show σ100 9 0 = (σ 9 0) from (by rw [f103 0 (by omega)]))]
      have w106 : ∀ k : Nat, k < 80 → 0 ≤ (σ100 10 k).toInt ∧ (σ100 10 k).toInt ≤ 255 := (by rw [f102 10 (by omega)]; exact w2)
      have w107 : ∀ k : Nat, k < 8 → 0 ≤ (σ100 11 k).toInt ∧ (σ100 11 k).toInt ≤ 3 := (by rw [f102 11 (by omega)]; exact w3)
      have I108 : jI9 σ100 := ⟨(by omega), w106, w107⟩
      have z109 : (σ100 9 1).toInt = (σ 9 1).toInt := by rw [(show σ100 9 1 = (σ 9 1) from (by rw [f103 1 (by omega)]))]
      refine jcallV (As := []) (rest := []) ⟨hx, hb, hml, hown, hts⟩ hK hP hA hS hZ (c_X7_sign_9 l D cI cL ad zz hJ σ100 τ I108) cw_RX7_35 (jc_9 cI cL ad σ100 τ) rfl ⟨Nat.le_of_ble_eq_true rfl, Nat.le_of_ble_eq_true rfl⟩ rfl rfl rfl hl.1 rfl (Nat.le_of_ble_eq_true rfl) dX7_number_28 ⟨Nat.zero_le _, Nat.zero_le _⟩ (fun r111 σ110 τ110 H locs h110 hP hS => ?_)
      obtain ⟨⟨rfl, rfl⟩, h110⟩ := h110
      rcases h110 with h112 | h113
      · obtain ⟨q116, k114, k115⟩ := h112
        have q117 : r111 = (σ 10 (σ 9 1).toNatClampNeg) := q116.trans (by rw [(show σ100 9 1 = (σ 9 1) from (by rw [f103 1 (by omega)])), f102 10 (by omega)])
        have q117e : (σ100 10 (σ100 9 1).toNatClampNeg).toInt = (σ 10 (σ 9 1).toNatClampNeg).toInt := by rw [← q116, ← q117]
        have q117 := q117.symm
        subst q117
        refine jcallS (As := [.int (σ 10 (σ 9 1).toNatClampNeg)]) (rest := []) ⟨hx, hb, hml, hown, hts⟩ hK hP hA hS hZ (c_X7_isDigit l D cI cL ad zz hJ σ100 τ (σ 10 (σ 9 1).toNatClampNeg) ((σ 10 (σ 9 1).toNatClampNeg).toInt) rfl) cw_RX7_39 ⟨Nat.le_of_ble_eq_true rfl, Nat.le_of_ble_eq_true rfl⟩ rfl rfl rfl hl.1 rfl (Nat.le_of_ble_eq_true rfl) dX7_number_31 ⟨Nat.zero_le _, Nat.zero_le _⟩ (fun r119 σ118 τ118 H locs h118 hP hS => ?_)
        obtain ⟨⟨rfl, rfl⟩, h118⟩ := h118
        rcases h118 with h120 | h121
        · obtain ⟨q123, k122⟩ := h120
          exact absurd (by omega : False) id
        · obtain ⟨q125, k124⟩ := h121
          have q125 := q125.symm
          subst q125
          refine lv_if_eq (tgt := 68) hx hb dX7_number_34 (by decide) (fun _ => ?_) (fun c => absurd (by decide) c)
          refine lv_iload_n hx hb dX7_number_68 rfl (lv_at hl 1 rfl) ?_
          have I126 : jI91 σ100 := ⟨(by omega), (by omega)⟩
          have I127 : jI92 σ100 := (show (-1) ≤ (σ100 9 2).toInt by omega)
          exact hret 0 σ100 τ _ _ _ _ rfl ⟨rfl, (fun i hi => by rw [f102 i (by omega)]), (fun k hk => by rw [f103 k (by omega)]), I108, I126, I127, (by omega), ⟨trivial, (by have h9 := jz_0; omega)⟩⟩ hP hS dX7_number_69
      · obtain ⟨q129, k128⟩ := h113
        have q129 := q129.symm
        subst q129
        refine jcallS (As := [.int (-1)]) (rest := []) ⟨hx, hb, hml, hown, hts⟩ hK hP hA hS hZ (c_X7_isDigit l D cI cL ad zz hJ σ100 τ (-1) ((-1)) jz_m1) cw_RX7_39 ⟨Nat.le_of_ble_eq_true rfl, Nat.le_of_ble_eq_true rfl⟩ rfl rfl rfl hl.1 rfl (Nat.le_of_ble_eq_true rfl) dX7_number_31 ⟨Nat.zero_le _, Nat.zero_le _⟩ (fun r131 σ130 τ130 H locs h130 hP hS => ?_)
        obtain ⟨⟨rfl, rfl⟩, h130⟩ := h130
        rcases h130 with h132 | h133
        · obtain ⟨q135, k134⟩ := h132
          exact absurd (by omega : False) id
        · obtain ⟨q137, k136⟩ := h133
          have q137 := q137.symm
          subst q137
          refine lv_if_eq (tgt := 68) hx hb dX7_number_34 (by decide) (fun _ => ?_) (fun c => absurd (by decide) c)
          refine lv_iload_n hx hb dX7_number_68 rfl (lv_at hl 1 rfl) ?_
          have I138 : jI91 σ100 := ⟨(by omega), (by omega)⟩
          have I139 : jI92 σ100 := (show (-1) ≤ (σ100 9 2).toInt by omega)
          exact hret 0 σ100 τ _ _ _ _ rfl ⟨rfl, (fun i hi => by rw [f102 i (by omega)]), (fun k hk => by rw [f103 k (by omega)]), I108, I138, I139, (by omega), ⟨trivial, (by have h9 := jz_0; omega)⟩⟩ hP hS dX7_number_69
  · obtain ⟨q141, k140⟩ := h11
    have q141 := q141.symm
    subst q141
    refine jcallS (As := [.int (-1)]) (rest := []) ⟨hx, hb, hml, hown, hts⟩ hK hP hA hS hZ (c_X7_isDigit l D cI cL ad zz hJ σ τ (-1) ((-1)) jz_m1) cw_RX7_39 ⟨Nat.le_of_ble_eq_true rfl, Nat.le_of_ble_eq_true rfl⟩ rfl rfl rfl hl.1 rfl (Nat.le_of_ble_eq_true rfl) dX7_number_4 ⟨Nat.zero_le _, Nat.zero_le _⟩ (fun r143 σ142 τ142 H locs h142 hP hS => ?_)
    obtain ⟨⟨rfl, rfl⟩, h142⟩ := h142
    rcases h142 with h144 | h145
    · obtain ⟨q147, k146⟩ := h144
      exact absurd (by omega : False) id
    · obtain ⟨q149, k148⟩ := h145
      have q149 := q149.symm
      subst q149
      refine lv_if_ne (tgt := 18) hx hb dX7_number_7 (by decide) (fun c => absurd (by decide) c) (fun _ => ?_)
      refine lv_aload_n hx hb dX7_number_10 rfl (lv_at hl 0 rfl) ?_
      refine lv_aload_n hx hb dX7_number_11 rfl (lv_at hl 0 rfl) ?_
      refine va_get (D := D) hx hb hts inlX7 hown hK hP 9 (jc_9 cI cL ad σ τ) rfl 1 (by decide) (hts _ kw_13_17) (fun _ h9 => h9) rfl dX7_number_12 ?_
      have I150 : jI92 σ := (show (-1) ≤ (σ 9 2).toInt by omega)
      refine jcallVv (As := [.int (σ 9 1)]) (rest := []) ⟨hx, hb, hml, hown, hts⟩ hK hP hA hS hZ (c_X7_fail_9 l D cI cL ad zz hJ σ τ (σ 9 1) ((σ 9 1).toInt) rfl I150 (by omega)) cw_RX7_43 (jc_9 cI cL ad σ τ) rfl ⟨Nat.le_of_ble_eq_true rfl, Nat.le_of_ble_eq_true rfl⟩ rfl rfl rfl hl.1 rfl (Nat.le_of_ble_eq_true rfl) dX7_number_15 ⟨Nat.zero_le _, Nat.zero_le _⟩ (fun σ151 τ151 H locs h151 hP hS => ?_)
      obtain ⟨rfl, f153, f154, h151⟩ := h151
      obtain ⟨k155, h151⟩ := h151
      refine lv_iconst (v := 0) hx hb dX7_number_18 (by decide) ?_
      refine lv_istore_n (lv' := [(2, .int 0), (0, .ref (ad 9)), (1, .int 2)]) hx hb dX7_number_19 rfl hl (by decide) rfl (fun ls hl => ?_)
      refine lv_iconst (v := 0) hx hb dX7_number_20 (by decide) ?_
      refine lv_istore_n (lv' := [(3, .int 0), (2, .int 0), (0, .ref (ad 9)), (1, .int 2)]) hx hb dX7_number_21 rfl hl (by decide) rfl (fun ls hl => ?_)
      refine lv_iload_n hx hb dX7_number_22 rfl (lv_at hl 0 rfl) ?_
      refine lv_iload_n hx hb dX7_number_23 rfl (lv_at hl 3 rfl) ?_
      refine lv_icmp_ge (tgt := 68) hx hb dX7_number_24 (by decide) (fun c => absurd c (by decide)) (fun _ => ?_)
      refine lv_aload_n hx hb dX7_number_27 rfl (lv_at hl 2 rfl) ?_
      have z156 : (σ151 9 0).toInt = (σ 9 0).toInt := by rw [(show σ151 9 0 = (σ 9 0) from (by rw [f154 0 (by omega)]))]
      have w157 : ∀ k : Nat, k < 80 → 0 ≤ (σ151 10 k).toInt ∧ (σ151 10 k).toInt ≤ 255 := (by rw [f153 10 (by omega)]; exact w2)
      have w158 : ∀ k : Nat, k < 8 → 0 ≤ (σ151 11 k).toInt ∧ (σ151 11 k).toInt ≤ 3 := (by rw [f153 11 (by omega)]; exact w3)
      have I159 : jI9 σ151 := ⟨(by omega), w157, w158⟩
      have z160 : (σ151 9 1).toInt = (σ 9 1).toInt := by rw [(show σ151 9 1 = (σ 9 1) from (by rw [f154 1 (by omega)]))]
      refine jcallV (As := []) (rest := []) ⟨hx, hb, hml, hown, hts⟩ hK hP hA hS hZ (c_X7_sign_9 l D cI cL ad zz hJ σ151 τ I159) cw_RX7_35 (jc_9 cI cL ad σ151 τ) rfl ⟨Nat.le_of_ble_eq_true rfl, Nat.le_of_ble_eq_true rfl⟩ rfl rfl rfl hl.1 rfl (Nat.le_of_ble_eq_true rfl) dX7_number_28 ⟨Nat.zero_le _, Nat.zero_le _⟩ (fun r162 σ161 τ161 H locs h161 hP hS => ?_)
      obtain ⟨⟨rfl, rfl⟩, h161⟩ := h161
      rcases h161 with h163 | h164
      · obtain ⟨q167, k165, k166⟩ := h163
        have q168 : r162 = (σ 10 (σ 9 1).toNatClampNeg) := q167.trans (by rw [(show σ151 9 1 = (σ 9 1) from (by rw [f154 1 (by omega)])), f153 10 (by omega)])
        have q168e : (σ151 10 (σ151 9 1).toNatClampNeg).toInt = (σ 10 (σ 9 1).toNatClampNeg).toInt := by rw [← q167, ← q168]
        have q168 := q168.symm
        subst q168
        refine jcallS (As := [.int (σ 10 (σ 9 1).toNatClampNeg)]) (rest := []) ⟨hx, hb, hml, hown, hts⟩ hK hP hA hS hZ (c_X7_isDigit l D cI cL ad zz hJ σ151 τ (σ 10 (σ 9 1).toNatClampNeg) ((σ 10 (σ 9 1).toNatClampNeg).toInt) rfl) cw_RX7_39 ⟨Nat.le_of_ble_eq_true rfl, Nat.le_of_ble_eq_true rfl⟩ rfl rfl rfl hl.1 rfl (Nat.le_of_ble_eq_true rfl) dX7_number_31 ⟨Nat.zero_le _, Nat.zero_le _⟩ (fun r170 σ169 τ169 H locs h169 hP hS => ?_)
        obtain ⟨⟨rfl, rfl⟩, h169⟩ := h169
        rcases h169 with h171 | h172
        · obtain ⟨q174, k173⟩ := h171
          have q174 := q174.symm
          subst q174
          refine lv_if_eq (tgt := 68) hx hb dX7_number_34 (by decide) (fun c => absurd c (by decide)) (fun _ => ?_)
          refine lv_iload_n hx hb dX7_number_37 rfl (lv_at hl 1 rfl) ?_
          refine lv_bipush (v := 10) hx hb dX7_number_38 (by decide) ?_
          refine lv_imul hx hb dX7_number_40 ?_
          refine jtopr (y := 0) (by decide) ?_
          refine lv_aload_n hx hb dX7_number_41 rfl (lv_at hl 2 rfl) ?_
          refine va_get (D := D) hx hb hts inlX7 hown hK hP 9 (jc_9 cI cL ad σ151 τ) rfl 3 (by decide) (hts _ kw_3_20) (fun _ h9 => h9) rfl dX7_number_42 ?_
          refine lv_aload_n hx hb dX7_number_45 rfl (lv_at hl 2 rfl) ?_
          refine lv_dup hx hb dX7_number_46 rfl ?_
          refine va_get (D := D) hx hb hts inlX7 hown hK hP 9 (jc_9 cI cL ad σ151 τ) rfl 1 (by decide) (hts _ kw_13_17) (fun _ h9 => h9) rfl dX7_number_47 ?_
          have m175 : σ151 9 1 = (σ 9 1) := (by rw [f154 1 (by omega)])
          refine jtopr m175 ?_
          refine lv_dup_x1 hx hb dX7_number_50 rfl rfl ?_
          refine lv_iconst (v := 1) hx hb dX7_number_51 (by decide) ?_
          have g176 := jrg (rfl : (σ 9 1).toInt = (σ 9 1).toInt)
          refine lv_iadd hx hb dX7_number_52 ?_
          refine lv_topi (fun x177 ex177 => ?_)
          have tx177 : x177.toInt = (σ 9 1).toInt + 1 := (jadd ex177 rfl jz_1 (by omega) (by omega)).trans (by omega)
          refine jput (ty := .int) hx hb hts inlX7 tyX7 tyX7_ok nmX7 hown hK hP hJ hA hS (jc_9 cI cL ad σ151 τ) rfl (k := 1) (by decide) (Nat.le_of_ble_eq_true rfl) (jp_9_1 cI cL ad σ151 τ x177) (hts _ kw_13_17) (fun _ h9 => h9) rfl (by decide +kernel) rfl rfl dX7_number_53 (fun σ178 H locs eσ178 hP hS => ?_)
          refine jald hx hb hK hP (jc_10 cI cL ad σ178 τ) (jin rfl (by omega) (by omega)) dX7_number_56 ?_
          refine jtopr (y := (σ 10 (σ 9 1).toNatClampNeg)) (by rw [eσ178, jup_n (by decide), f153 10 (by omega)]) ?_
          refine lv_iadd hx hb dX7_number_57 ?_
          refine jtopr (y := (σ 10 (σ 9 1).toNatClampNeg)) (by rw [Int32.zero_add]) ?_
          refine lv_bipush (v := 48) hx hb dX7_number_58 (by decide) ?_
          have g179 := jrg (rfl : (σ 10 (σ 9 1).toNatClampNeg).toInt = (σ 10 (σ 9 1).toNatClampNeg).toInt)
          refine lv_isub hx hb dX7_number_60 ?_
          refine lv_topi (fun x180 ex180 => ?_)
          have tx180 : x180.toInt = (σ 10 (σ 9 1).toNatClampNeg).toInt - 48 := (jsub ex180 rfl jz_48 (by omega) (by omega)).trans (by omega)
          refine lv_istore_n (lv' := [(2, .int x180), (3, .int 0), (0, .ref (ad 9)), (1, .int 2)]) hx hb dX7_number_61 rfl hl (by decide) rfl (fun ls hl => ?_)
          refine lv_iinc (v := 1) (lv' := [(3, .int 1), (2, .int x180), (0, .ref (ad 9)), (1, .int 2)]) hx hb dX7_number_62 hl (k := 1) rfl (by decide) (by decide) rfl (fun ls hl => ?_)
          refine lv_goto (tgt := 22) hx hb dX7_number_65 (by decide) ?_
          refine lv_iload_n hx hb dX7_number_22 rfl (lv_at hl 0 rfl) ?_
          refine lv_iload_n hx hb dX7_number_23 rfl (lv_at hl 3 rfl) ?_
          refine lv_icmp_ge (tgt := 68) hx hb dX7_number_24 (by decide) (fun c => absurd c (by decide)) (fun _ => ?_)
          refine lv_aload_n hx hb dX7_number_27 rfl (lv_at hl 2 rfl) ?_
          have z181 : (σ178 9 0).toInt = (σ 9 0).toInt := by rw [(show σ178 9 0 = (σ 9 0) from (by rw [eσ178, jup_k (by decide)]; exact (by rw [f154 0 (by omega)])))]
          have w182 : ∀ k : Nat, k < 80 → 0 ≤ (σ178 10 k).toInt ∧ (σ178 10 k).toInt ≤ 255 := (by rw [eσ178, jup_n (by decide)]; exact w157)
          have w183 : ∀ k : Nat, k < 8 → 0 ≤ (σ178 11 k).toInt ∧ (σ178 11 k).toInt ≤ 3 := (by rw [eσ178, jup_n (by decide)]; exact w158)
          have I184 : jI9 σ178 := ⟨(by omega), w182, w183⟩
          have z185 : (σ178 9 1).toInt = (σ 9 1).toInt + 1 := by rw [(show σ178 9 1 = x177 from (by rw [eσ178]; exact jup_s))]; exact tx177
          refine jcallV (As := []) (rest := []) ⟨hx, hb, hml, hown, hts⟩ hK hP hA hS hZ (c_X7_sign_9 l D cI cL ad zz hJ σ178 τ I184) cw_RX7_35 (jc_9 cI cL ad σ178 τ) rfl ⟨Nat.le_of_ble_eq_true rfl, Nat.le_of_ble_eq_true rfl⟩ rfl rfl rfl hl.1 rfl (Nat.le_of_ble_eq_true rfl) dX7_number_28 ⟨Nat.zero_le _, Nat.zero_le _⟩ (fun r187 σ186 τ186 H locs h186 hP hS => ?_)
          obtain ⟨⟨rfl, rfl⟩, h186⟩ := h186
          rcases h186 with h188 | h189
          · obtain ⟨q192, k190, k191⟩ := h188
            exact absurd (by omega : False) id
          · obtain ⟨q194, k193⟩ := h189
            have q194 := q194.symm
            subst q194
            refine jcallS (As := [.int (-1)]) (rest := []) ⟨hx, hb, hml, hown, hts⟩ hK hP hA hS hZ (c_X7_isDigit l D cI cL ad zz hJ σ178 τ (-1) ((-1)) jz_m1) cw_RX7_39 ⟨Nat.le_of_ble_eq_true rfl, Nat.le_of_ble_eq_true rfl⟩ rfl rfl rfl hl.1 rfl (Nat.le_of_ble_eq_true rfl) dX7_number_31 ⟨Nat.zero_le _, Nat.zero_le _⟩ (fun r196 σ195 τ195 H locs h195 hP hS => ?_)
            obtain ⟨⟨rfl, rfl⟩, h195⟩ := h195
            rcases h195 with h197 | h198
            · obtain ⟨q200, k199⟩ := h197
              exact absurd (by omega : False) id
            · obtain ⟨q202, k201⟩ := h198
              have q202 := q202.symm
              subst q202
              refine lv_if_eq (tgt := 68) hx hb dX7_number_34 (by decide) (fun _ => ?_) (fun c => absurd (by decide) c)
              refine lv_iload_n hx hb dX7_number_68 rfl (lv_at hl 1 rfl) ?_
              have I203 : jI91 σ178 := ⟨(by omega), (by omega)⟩
              have z204 : (σ178 9 2).toInt = (σ151 9 2).toInt := by rw [(show σ178 9 2 = (σ151 9 2) from (by rw [eσ178, jup_k (by decide)]))]
              have I205 : jI92 σ178 := (show (-1) ≤ (σ178 9 2).toInt by omega)
              exact hret x180 σ178 τ _ _ _ _ rfl ⟨rfl, (fun i hi => by rw [eσ178, jup_n (by omega), f153 i (by omega)]), (fun k hk => by rw [eσ178, jup_k (by omega), f154 k (by omega)]), I184, I203, I205, (by omega), ⟨trivial, (by have h9 := tx180; omega)⟩⟩ hP hS dX7_number_69
        · obtain ⟨q207, k206⟩ := h172
          have q207 := q207.symm
          subst q207
          refine lv_if_eq (tgt := 68) hx hb dX7_number_34 (by decide) (fun _ => ?_) (fun c => absurd (by decide) c)
          refine lv_iload_n hx hb dX7_number_68 rfl (lv_at hl 1 rfl) ?_
          have I208 : jI91 σ151 := ⟨(by omega), (by omega)⟩
          have I209 : jI92 σ151 := (show (-1) ≤ (σ151 9 2).toInt by omega)
          exact hret 0 σ151 τ _ _ _ _ rfl ⟨rfl, (fun i hi => by rw [f153 i (by omega)]), (fun k hk => by rw [f154 k (by omega)]), I159, I208, I209, (by omega), ⟨trivial, (by have h9 := jz_0; omega)⟩⟩ hP hS dX7_number_69
      · obtain ⟨q211, k210⟩ := h164
        have q211 := q211.symm
        subst q211
        refine jcallS (As := [.int (-1)]) (rest := []) ⟨hx, hb, hml, hown, hts⟩ hK hP hA hS hZ (c_X7_isDigit l D cI cL ad zz hJ σ151 τ (-1) ((-1)) jz_m1) cw_RX7_39 ⟨Nat.le_of_ble_eq_true rfl, Nat.le_of_ble_eq_true rfl⟩ rfl rfl rfl hl.1 rfl (Nat.le_of_ble_eq_true rfl) dX7_number_31 ⟨Nat.zero_le _, Nat.zero_le _⟩ (fun r213 σ212 τ212 H locs h212 hP hS => ?_)
        obtain ⟨⟨rfl, rfl⟩, h212⟩ := h212
        rcases h212 with h214 | h215
        · obtain ⟨q217, k216⟩ := h214
          exact absurd (by omega : False) id
        · obtain ⟨q219, k218⟩ := h215
          have q219 := q219.symm
          subst q219
          refine lv_if_eq (tgt := 68) hx hb dX7_number_34 (by decide) (fun _ => ?_) (fun c => absurd (by decide) c)
          refine lv_iload_n hx hb dX7_number_68 rfl (lv_at hl 1 rfl) ?_
          have I220 : jI91 σ151 := ⟨(by omega), (by omega)⟩
          have I221 : jI92 σ151 := (show (-1) ≤ (σ151 9 2).toInt by omega)
          exact hret 0 σ151 τ _ _ _ _ rfl ⟨rfl, (fun i hi => by rw [f153 i (by omega)]), (fun k hk => by rw [f154 k (by omega)]), I159, I220, I221, (by omega), ⟨trivial, (by have h9 := jz_0; omega)⟩⟩ hP hS dX7_number_69
set_option maxHeartbeats 4000000 in
set_option maxRecDepth 100000 in
theorem c_X7_number_3 (l : Launch) (D : va_G) (cI cL : ClassId) (ad zz : Nat → Nat) (hJ : jD ad) (σ : Nat → Nat → Int32) (τ : Nat → Nat → Int64) (hI9 : jI9 σ) (hI91 : jI91 σ) (hI92 : jI92 σ) : jM l yX7_number cX7_number 4 (some .int) ({ frames := 1, cells := 0, slots := 0, locals := 21 }) D cI cL ad zz [.ref (ad 9), .int 3] σ τ (fun r σ' τ' => τ = τ' ∧ (∀ i : Nat, (i < 9 ∨ 9 < i) → σ' i = σ i) ∧ (∀ k : Nat, (k < 1 ∨ 1 < k) ∧ (k < 2 ∨ 2 < k) → σ' 9 k = σ 9 k) ∧ (jI9 σ') ∧ (jI91 σ') ∧ (jI92 σ') ∧ ((0 ≤ (σ 9 2).toInt ∧ 0 ≤ (σ' 9 2).toInt) ∨ ((σ 9 2).toInt = (-1))) ∧ ((True ∧ (0 ≤ r.toInt ∧ r.toInt ≤ 999)))) := by
  refine jM.of hJ (by decide +kernel) (nt := .int) rfl (Nat.le_of_ble_eq_true rfl) ?_
  intro p e s m args below meth c Q ls hC hret hl hP
  obtain ⟨hx, hb, hr, hml, hown, hts, hK, -, hlocks, hZ⟩ := hC
  have hown : s.vm.findClass RX7 = some m.cls := hown
  have hS : va_S (jA ad) s.heap s.heap [] := va_S.rf
  have hA : ∀ q, jA ad q → jA ad q := fun _ h => h
  have hl : lv_has ls 4 [(0, .ref (ad 9)), (1, .int 3)] := hl
  obtain ⟨i1, w2, w3⟩ : (0 ≤ (σ 9 0).toInt ∧ (σ 9 0).toInt ≤ 80) ∧ (∀ k : Nat, k < 80 → 0 ≤ (σ 10 k).toInt ∧ (σ 10 k).toInt ≤ 255) ∧ (∀ k : Nat, k < 8 → 0 ≤ (σ 11 k).toInt ∧ (σ 11 k).toInt ≤ 3) := id hI9
  obtain ⟨i4, i5⟩ : (0 ≤ (σ 9 1).toInt) ∧ ((σ 9 1).toInt ≤ (σ 9 0).toInt) := id hI91
  have i6 : (-1) ≤ (σ 9 2).toInt := hI92
  refine lv_aload_n hx hb dX7_number_0 rfl (lv_at hl 0 rfl) ?_
  have I7 : jI9 σ := ⟨(by omega), w2, w3⟩
  refine jcallV (As := []) (rest := []) ⟨hx, hb, hml, hown, hts⟩ hK hP hA hS hZ (c_X7_sign_9 l D cI cL ad zz hJ σ τ I7) cw_RX7_35 (jc_9 cI cL ad σ τ) rfl ⟨Nat.le_of_ble_eq_true rfl, Nat.le_of_ble_eq_true rfl⟩ rfl rfl rfl hl.1 rfl (Nat.le_of_ble_eq_true rfl) dX7_number_1 ⟨Nat.zero_le _, Nat.zero_le _⟩ (fun r9 σ8 τ8 H locs h8 hP hS => ?_)
  obtain ⟨⟨rfl, rfl⟩, h8⟩ := h8
  rcases h8 with h10 | h11
  · obtain ⟨q14, k12, k13⟩ := h10
    have q15 : r9 = (σ 10 (σ 9 1).toNatClampNeg) := q14.trans rfl
    have q15 := q15.symm
    subst q15
    refine jcallS (As := [.int (σ 10 (σ 9 1).toNatClampNeg)]) (rest := []) ⟨hx, hb, hml, hown, hts⟩ hK hP hA hS hZ (c_X7_isDigit l D cI cL ad zz hJ σ τ (σ 10 (σ 9 1).toNatClampNeg) ((σ 10 (σ 9 1).toNatClampNeg).toInt) rfl) cw_RX7_39 ⟨Nat.le_of_ble_eq_true rfl, Nat.le_of_ble_eq_true rfl⟩ rfl rfl rfl hl.1 rfl (Nat.le_of_ble_eq_true rfl) dX7_number_4 ⟨Nat.zero_le _, Nat.zero_le _⟩ (fun r17 σ16 τ16 H locs h16 hP hS => ?_)
    obtain ⟨⟨rfl, rfl⟩, h16⟩ := h16
    rcases h16 with h18 | h19
    · obtain ⟨q21, k20⟩ := h18
      have q21 := q21.symm
      subst q21
      refine lv_if_ne (tgt := 18) hx hb dX7_number_7 (by decide) (fun _ => ?_) (fun c => absurd c (by decide))
      refine lv_iconst (v := 0) hx hb dX7_number_18 (by decide) ?_
      refine lv_istore_n (lv' := [(2, .int 0), (0, .ref (ad 9)), (1, .int 3)]) hx hb dX7_number_19 rfl hl (by decide) rfl (fun ls hl => ?_)
      refine lv_iconst (v := 0) hx hb dX7_number_20 (by decide) ?_
      refine lv_istore_n (lv' := [(3, .int 0), (2, .int 0), (0, .ref (ad 9)), (1, .int 3)]) hx hb dX7_number_21 rfl hl (by decide) rfl (fun ls hl => ?_)
      refine lv_iload_n hx hb dX7_number_22 rfl (lv_at hl 0 rfl) ?_
      refine lv_iload_n hx hb dX7_number_23 rfl (lv_at hl 3 rfl) ?_
      refine lv_icmp_ge (tgt := 68) hx hb dX7_number_24 (by decide) (fun c => absurd c (by decide)) (fun _ => ?_)
      refine lv_aload_n hx hb dX7_number_27 rfl (lv_at hl 2 rfl) ?_
      refine jcallV (As := []) (rest := []) ⟨hx, hb, hml, hown, hts⟩ hK hP hA hS hZ (c_X7_sign_9 l D cI cL ad zz hJ σ τ I7) cw_RX7_35 (jc_9 cI cL ad σ τ) rfl ⟨Nat.le_of_ble_eq_true rfl, Nat.le_of_ble_eq_true rfl⟩ rfl rfl rfl hl.1 rfl (Nat.le_of_ble_eq_true rfl) dX7_number_28 ⟨Nat.zero_le _, Nat.zero_le _⟩ (fun r23 σ22 τ22 H locs h22 hP hS => ?_)
      obtain ⟨⟨rfl, rfl⟩, h22⟩ := h22
      rcases h22 with h24 | h25
      · obtain ⟨q28, k26, k27⟩ := h24
        have q29 : r23 = (σ 10 (σ 9 1).toNatClampNeg) := q28.trans rfl
        have q29 := q29.symm
        subst q29
        refine jcallS (As := [.int (σ 10 (σ 9 1).toNatClampNeg)]) (rest := []) ⟨hx, hb, hml, hown, hts⟩ hK hP hA hS hZ (c_X7_isDigit l D cI cL ad zz hJ σ τ (σ 10 (σ 9 1).toNatClampNeg) ((σ 10 (σ 9 1).toNatClampNeg).toInt) rfl) cw_RX7_39 ⟨Nat.le_of_ble_eq_true rfl, Nat.le_of_ble_eq_true rfl⟩ rfl rfl rfl hl.1 rfl (Nat.le_of_ble_eq_true rfl) dX7_number_31 ⟨Nat.zero_le _, Nat.zero_le _⟩ (fun r31 σ30 τ30 H locs h30 hP hS => ?_)
        obtain ⟨⟨rfl, rfl⟩, h30⟩ := h30
        rcases h30 with h32 | h33
        · obtain ⟨q35, k34⟩ := h32
          have q35 := q35.symm
          subst q35
          refine lv_if_eq (tgt := 68) hx hb dX7_number_34 (by decide) (fun c => absurd c (by decide)) (fun _ => ?_)
          refine lv_iload_n hx hb dX7_number_37 rfl (lv_at hl 1 rfl) ?_
          refine lv_bipush (v := 10) hx hb dX7_number_38 (by decide) ?_
          refine lv_imul hx hb dX7_number_40 ?_
          refine jtopr (y := 0) (by decide) ?_
          refine lv_aload_n hx hb dX7_number_41 rfl (lv_at hl 2 rfl) ?_
          refine va_get (D := D) hx hb hts inlX7 hown hK hP 9 (jc_9 cI cL ad σ τ) rfl 3 (by decide) (hts _ kw_3_20) (fun _ h9 => h9) rfl dX7_number_42 ?_
          refine lv_aload_n hx hb dX7_number_45 rfl (lv_at hl 2 rfl) ?_
          refine lv_dup hx hb dX7_number_46 rfl ?_
          refine va_get (D := D) hx hb hts inlX7 hown hK hP 9 (jc_9 cI cL ad σ τ) rfl 1 (by decide) (hts _ kw_13_17) (fun _ h9 => h9) rfl dX7_number_47 ?_
          refine lv_dup_x1 hx hb dX7_number_50 rfl rfl ?_
          refine lv_iconst (v := 1) hx hb dX7_number_51 (by decide) ?_
          have g36 := jrg (rfl : (σ 9 1).toInt = (σ 9 1).toInt)
          refine lv_iadd hx hb dX7_number_52 ?_
          refine lv_topi (fun x37 ex37 => ?_)
          have tx37 : x37.toInt = (σ 9 1).toInt + 1 := (jadd ex37 rfl jz_1 (by omega) (by omega)).trans (by omega)
          refine jput (ty := .int) hx hb hts inlX7 tyX7 tyX7_ok nmX7 hown hK hP hJ hA hS (jc_9 cI cL ad σ τ) rfl (k := 1) (by decide) (Nat.le_of_ble_eq_true rfl) (jp_9_1 cI cL ad σ τ x37) (hts _ kw_13_17) (fun _ h9 => h9) rfl (by decide +kernel) rfl rfl dX7_number_53 (fun σ38 H locs eσ38 hP hS => ?_)
          refine jald hx hb hK hP (jc_10 cI cL ad σ38 τ) (jin rfl (by omega) (by omega)) dX7_number_56 ?_
          refine jtopr (y := (σ 10 (σ 9 1).toNatClampNeg)) (by rw [eσ38, jup_n (by decide)]) ?_
          refine lv_iadd hx hb dX7_number_57 ?_
          refine jtopr (y := (σ 10 (σ 9 1).toNatClampNeg)) (by rw [Int32.zero_add]) ?_
          refine lv_bipush (v := 48) hx hb dX7_number_58 (by decide) ?_
          have g39 := jrg (rfl : (σ 10 (σ 9 1).toNatClampNeg).toInt = (σ 10 (σ 9 1).toNatClampNeg).toInt)
          refine lv_isub hx hb dX7_number_60 ?_
          refine lv_topi (fun x40 ex40 => ?_)
          have tx40 : x40.toInt = (σ 10 (σ 9 1).toNatClampNeg).toInt - 48 := (jsub ex40 rfl jz_48 (by omega) (by omega)).trans (by omega)
          refine lv_istore_n (lv' := [(2, .int x40), (3, .int 0), (0, .ref (ad 9)), (1, .int 3)]) hx hb dX7_number_61 rfl hl (by decide) rfl (fun ls hl => ?_)
          refine lv_iinc (v := 1) (lv' := [(3, .int 1), (2, .int x40), (0, .ref (ad 9)), (1, .int 3)]) hx hb dX7_number_62 hl (k := 1) rfl (by decide) (by decide) rfl (fun ls hl => ?_)
          refine lv_goto (tgt := 22) hx hb dX7_number_65 (by decide) ?_
          refine lv_iload_n hx hb dX7_number_22 rfl (lv_at hl 0 rfl) ?_
          refine lv_iload_n hx hb dX7_number_23 rfl (lv_at hl 3 rfl) ?_
          refine lv_icmp_ge (tgt := 68) hx hb dX7_number_24 (by decide) (fun c => absurd c (by decide)) (fun _ => ?_)
          refine lv_aload_n hx hb dX7_number_27 rfl (lv_at hl 2 rfl) ?_
          have z41 : (σ38 9 0).toInt = (σ 9 0).toInt := by rw [(show σ38 9 0 = (σ 9 0) from (by rw [eσ38, jup_k (by decide)]))]
          have w42 : ∀ k : Nat, k < 80 → 0 ≤ (σ38 10 k).toInt ∧ (σ38 10 k).toInt ≤ 255 := (by rw [eσ38, jup_n (by decide)]; exact w2)
          have w43 : ∀ k : Nat, k < 8 → 0 ≤ (σ38 11 k).toInt ∧ (σ38 11 k).toInt ≤ 3 := (by rw [eσ38, jup_n (by decide)]; exact w3)
          have I44 : jI9 σ38 := ⟨(by omega), w42, w43⟩
          have z45 : (σ38 9 1).toInt = (σ 9 1).toInt + 1 := by rw [(show σ38 9 1 = x37 from (by rw [eσ38]; exact jup_s))]; exact tx37
          refine jcallV (As := []) (rest := []) ⟨hx, hb, hml, hown, hts⟩ hK hP hA hS hZ (c_X7_sign_9 l D cI cL ad zz hJ σ38 τ I44) cw_RX7_35 (jc_9 cI cL ad σ38 τ) rfl ⟨Nat.le_of_ble_eq_true rfl, Nat.le_of_ble_eq_true rfl⟩ rfl rfl rfl hl.1 rfl (Nat.le_of_ble_eq_true rfl) dX7_number_28 ⟨Nat.zero_le _, Nat.zero_le _⟩ (fun r47 σ46 τ46 H locs h46 hP hS => ?_)
          obtain ⟨⟨rfl, rfl⟩, h46⟩ := h46
          rcases h46 with h48 | h49
          · obtain ⟨q52, k50, k51⟩ := h48
            have q53 : r47 = (σ 10 x37.toNatClampNeg) := q52.trans (by rw [(show σ38 9 1 = x37 from (by rw [eσ38]; exact jup_s)), eσ38, jup_n (by decide)])
            have q53e : (σ38 10 (σ38 9 1).toNatClampNeg).toInt = (σ 10 x37.toNatClampNeg).toInt := by rw [← q52, ← q53]
            have q53 := q53.symm
            subst q53
            refine jcallS (As := [.int (σ 10 x37.toNatClampNeg)]) (rest := []) ⟨hx, hb, hml, hown, hts⟩ hK hP hA hS hZ (c_X7_isDigit l D cI cL ad zz hJ σ38 τ (σ 10 x37.toNatClampNeg) ((σ 10 x37.toNatClampNeg).toInt) rfl) cw_RX7_39 ⟨Nat.le_of_ble_eq_true rfl, Nat.le_of_ble_eq_true rfl⟩ rfl rfl rfl hl.1 rfl (Nat.le_of_ble_eq_true rfl) dX7_number_31 ⟨Nat.zero_le _, Nat.zero_le _⟩ (fun r55 σ54 τ54 H locs h54 hP hS => ?_)
            obtain ⟨⟨rfl, rfl⟩, h54⟩ := h54
            rcases h54 with h56 | h57
            · obtain ⟨q59, k58⟩ := h56
              have q59 := q59.symm
              subst q59
              refine lv_if_eq (tgt := 68) hx hb dX7_number_34 (by decide) (fun c => absurd c (by decide)) (fun _ => ?_)
              refine lv_iload_n hx hb dX7_number_37 rfl (lv_at hl 1 rfl) ?_
              refine lv_bipush (v := 10) hx hb dX7_number_38 (by decide) ?_
              refine lv_imul hx hb dX7_number_40 ?_
              refine lv_topi (fun x60 ex60 => ?_)
              have tx60 : x60.toInt = 10 * (σ 10 (σ 9 1).toNatClampNeg).toInt - 480 := (jmul ex60 tx40 jz_10 (by omega) (by omega)).trans (by omega)
              refine lv_aload_n hx hb dX7_number_41 rfl (lv_at hl 2 rfl) ?_
              refine va_get (D := D) hx hb hts inlX7 hown hK hP 9 (jc_9 cI cL ad σ38 τ) rfl 3 (by decide) (hts _ kw_3_20) (fun _ h9 => h9) rfl dX7_number_42 ?_
              refine lv_aload_n hx hb dX7_number_45 rfl (lv_at hl 2 rfl) ?_
              refine lv_dup hx hb dX7_number_46 rfl ?_
              refine va_get (D := D) hx hb hts inlX7 hown hK hP 9 (jc_9 cI cL ad σ38 τ) rfl 1 (by decide) (hts _ kw_13_17) (fun _ h9 => h9) rfl dX7_number_47 ?_
              have m61 : σ38 9 1 = x37 := (by rw [eσ38]; exact jup_s)
              refine jtopr m61 ?_
              refine lv_dup_x1 hx hb dX7_number_50 rfl rfl ?_
              refine lv_iconst (v := 1) hx hb dX7_number_51 (by decide) ?_
              refine lv_iadd hx hb dX7_number_52 ?_
              refine lv_topi (fun x62 ex62 => ?_)
              have tx62 : x62.toInt = (σ 9 1).toInt + 2 := (jadd ex62 tx37 jz_1 (by omega) (by omega)).trans (by omega)
              refine jput (ty := .int) hx hb hts inlX7 tyX7 tyX7_ok nmX7 hown hK hP hJ hA hS (jc_9 cI cL ad σ38 τ) rfl (k := 1) (by decide) (Nat.le_of_ble_eq_true rfl) (jp_9_1 cI cL ad σ38 τ x62) (hts _ kw_13_17) (fun _ h9 => h9) rfl (by decide +kernel) rfl rfl dX7_number_53 (fun σ63 H locs eσ63 hP hS => ?_)
              refine jald hx hb hK hP (jc_10 cI cL ad σ63 τ) (jin tx37 (by omega) (by omega)) dX7_number_56 ?_
              refine jtopr (y := (σ 10 x37.toNatClampNeg)) (by rw [eσ63, jup_n (by decide), eσ38, jup_n (by decide)]) ?_
              have g64 := jrg (rfl : (σ 10 x37.toNatClampNeg).toInt = (σ 10 x37.toNatClampNeg).toInt)
              refine lv_iadd hx hb dX7_number_57 ?_
              refine lv_topi (fun x65 ex65 => ?_)
              have tx65 : x65.toInt = 10 * (σ 10 (σ 9 1).toNatClampNeg).toInt + (σ 10 x37.toNatClampNeg).toInt - 480 := (jadd ex65 tx60 rfl (by omega) (by omega)).trans (by omega)
              refine lv_bipush (v := 48) hx hb dX7_number_58 (by decide) ?_
              refine lv_isub hx hb dX7_number_60 ?_
              refine lv_topi (fun x66 ex66 => ?_)
              have tx66 : x66.toInt = 10 * (σ 10 (σ 9 1).toNatClampNeg).toInt + (σ 10 x37.toNatClampNeg).toInt - 528 := (jsub ex66 tx65 jz_48 (by omega) (by omega)).trans (by omega)
              refine lv_istore_n (lv' := [(2, .int x66), (3, .int 1), (0, .ref (ad 9)), (1, .int 3)]) hx hb dX7_number_61 rfl hl (by decide) rfl (fun ls hl => ?_)
              refine lv_iinc (v := 2) (lv' := [(3, .int 2), (2, .int x66), (0, .ref (ad 9)), (1, .int 3)]) hx hb dX7_number_62 hl (k := 1) rfl (by decide) (by decide) rfl (fun ls hl => ?_)
              refine lv_goto (tgt := 22) hx hb dX7_number_65 (by decide) ?_
              refine lv_iload_n hx hb dX7_number_22 rfl (lv_at hl 0 rfl) ?_
              refine lv_iload_n hx hb dX7_number_23 rfl (lv_at hl 3 rfl) ?_
              refine lv_icmp_ge (tgt := 68) hx hb dX7_number_24 (by decide) (fun c => absurd c (by decide)) (fun _ => ?_)
              refine lv_aload_n hx hb dX7_number_27 rfl (lv_at hl 2 rfl) ?_
              have z67 : (σ63 9 0).toInt = (σ 9 0).toInt := by rw [(show σ63 9 0 = (σ 9 0) from (by rw [eσ63, jup_k (by decide)]; exact (by rw [eσ38, jup_k (by decide)])))]
              have w68 : ∀ k : Nat, k < 80 → 0 ≤ (σ63 10 k).toInt ∧ (σ63 10 k).toInt ≤ 255 := (by rw [eσ63, jup_n (by decide)]; exact w42)
              have w69 : ∀ k : Nat, k < 8 → 0 ≤ (σ63 11 k).toInt ∧ (σ63 11 k).toInt ≤ 3 := (by rw [eσ63, jup_n (by decide)]; exact w43)
              have I70 : jI9 σ63 := ⟨(by omega), w68, w69⟩
              have z71 : (σ63 9 1).toInt = (σ 9 1).toInt + 2 := by rw [(show σ63 9 1 = x62 from (by rw [eσ63]; exact jup_s))]; exact tx62
              refine jcallV (As := []) (rest := []) ⟨hx, hb, hml, hown, hts⟩ hK hP hA hS hZ (c_X7_sign_9 l D cI cL ad zz hJ σ63 τ I70) cw_RX7_35 (jc_9 cI cL ad σ63 τ) rfl ⟨Nat.le_of_ble_eq_true rfl, Nat.le_of_ble_eq_true rfl⟩ rfl rfl rfl hl.1 rfl (Nat.le_of_ble_eq_true rfl) dX7_number_28 ⟨Nat.zero_le _, Nat.zero_le _⟩ (fun r73 σ72 τ72 H locs h72 hP hS => ?_)
              obtain ⟨⟨rfl, rfl⟩, h72⟩ := h72
              rcases h72 with h74 | h75
              · obtain ⟨q78, k76, k77⟩ := h74
                have q79 : r73 = (σ 10 x62.toNatClampNeg) := q78.trans (by rw [(show σ63 9 1 = x62 from (by rw [eσ63]; exact jup_s)), eσ63, jup_n (by decide), eσ38, jup_n (by decide)])
                have q79e : (σ63 10 (σ63 9 1).toNatClampNeg).toInt = (σ 10 x62.toNatClampNeg).toInt := by rw [← q78, ← q79]
                have q79 := q79.symm
                subst q79
                refine jcallS (As := [.int (σ 10 x62.toNatClampNeg)]) (rest := []) ⟨hx, hb, hml, hown, hts⟩ hK hP hA hS hZ (c_X7_isDigit l D cI cL ad zz hJ σ63 τ (σ 10 x62.toNatClampNeg) ((σ 10 x62.toNatClampNeg).toInt) rfl) cw_RX7_39 ⟨Nat.le_of_ble_eq_true rfl, Nat.le_of_ble_eq_true rfl⟩ rfl rfl rfl hl.1 rfl (Nat.le_of_ble_eq_true rfl) dX7_number_31 ⟨Nat.zero_le _, Nat.zero_le _⟩ (fun r81 σ80 τ80 H locs h80 hP hS => ?_)
                obtain ⟨⟨rfl, rfl⟩, h80⟩ := h80
                rcases h80 with h82 | h83
                · obtain ⟨q85, k84⟩ := h82
                  have q85 := q85.symm
                  subst q85
                  refine lv_if_eq (tgt := 68) hx hb dX7_number_34 (by decide) (fun c => absurd c (by decide)) (fun _ => ?_)
                  refine lv_iload_n hx hb dX7_number_37 rfl (lv_at hl 1 rfl) ?_
                  refine lv_bipush (v := 10) hx hb dX7_number_38 (by decide) ?_
                  refine lv_imul hx hb dX7_number_40 ?_
                  refine lv_topi (fun x86 ex86 => ?_)
                  have tx86 : x86.toInt = 100 * (σ 10 (σ 9 1).toNatClampNeg).toInt + 10 * (σ 10 x37.toNatClampNeg).toInt - 5280 := (jmul ex86 tx66 jz_10 (by omega) (by omega)).trans (by omega)
                  refine lv_aload_n hx hb dX7_number_41 rfl (lv_at hl 2 rfl) ?_
                  refine va_get (D := D) hx hb hts inlX7 hown hK hP 9 (jc_9 cI cL ad σ63 τ) rfl 3 (by decide) (hts _ kw_3_20) (fun _ h9 => h9) rfl dX7_number_42 ?_
                  refine lv_aload_n hx hb dX7_number_45 rfl (lv_at hl 2 rfl) ?_
                  refine lv_dup hx hb dX7_number_46 rfl ?_
                  refine va_get (D := D) hx hb hts inlX7 hown hK hP 9 (jc_9 cI cL ad σ63 τ) rfl 1 (by decide) (hts _ kw_13_17) (fun _ h9 => h9) rfl dX7_number_47 ?_
                  have m87 : σ63 9 1 = x62 := (by rw [eσ63]; exact jup_s)
                  refine jtopr m87 ?_
                  refine lv_dup_x1 hx hb dX7_number_50 rfl rfl ?_
                  refine lv_iconst (v := 1) hx hb dX7_number_51 (by decide) ?_
                  refine lv_iadd hx hb dX7_number_52 ?_
                  refine lv_topi (fun x88 ex88 => ?_)
                  have tx88 : x88.toInt = (σ 9 1).toInt + 3 := (jadd ex88 tx62 jz_1 (by omega) (by omega)).trans (by omega)
                  refine jput (ty := .int) hx hb hts inlX7 tyX7 tyX7_ok nmX7 hown hK hP hJ hA hS (jc_9 cI cL ad σ63 τ) rfl (k := 1) (by decide) (Nat.le_of_ble_eq_true rfl) (jp_9_1 cI cL ad σ63 τ x88) (hts _ kw_13_17) (fun _ h9 => h9) rfl (by decide +kernel) rfl rfl dX7_number_53 (fun σ89 H locs eσ89 hP hS => ?_)
                  refine jald hx hb hK hP (jc_10 cI cL ad σ89 τ) (jin tx62 (by omega) (by omega)) dX7_number_56 ?_
                  refine jtopr (y := (σ 10 x62.toNatClampNeg)) (by rw [eσ89, jup_n (by decide), eσ63, jup_n (by decide), eσ38, jup_n (by decide)]) ?_
                  have g90 := jrg (rfl : (σ 10 x62.toNatClampNeg).toInt = (σ 10 x62.toNatClampNeg).toInt)
                  refine lv_iadd hx hb dX7_number_57 ?_
                  refine lv_topi (fun x91 ex91 => ?_)
                  have tx91 : x91.toInt = 100 * (σ 10 (σ 9 1).toNatClampNeg).toInt + 10 * (σ 10 x37.toNatClampNeg).toInt + (σ 10 x62.toNatClampNeg).toInt - 5280 := (jadd ex91 tx86 rfl (by omega) (by omega)).trans (by omega)
                  refine lv_bipush (v := 48) hx hb dX7_number_58 (by decide) ?_
                  refine lv_isub hx hb dX7_number_60 ?_
                  refine lv_topi (fun x92 ex92 => ?_)
                  have tx92 : x92.toInt = 100 * (σ 10 (σ 9 1).toNatClampNeg).toInt + 10 * (σ 10 x37.toNatClampNeg).toInt + (σ 10 x62.toNatClampNeg).toInt - 5328 := (jsub ex92 tx91 jz_48 (by omega) (by omega)).trans (by omega)
                  refine lv_istore_n (lv' := [(2, .int x92), (3, .int 2), (0, .ref (ad 9)), (1, .int 3)]) hx hb dX7_number_61 rfl hl (by decide) rfl (fun ls hl => ?_)
                  refine lv_iinc (v := 3) (lv' := [(3, .int 3), (2, .int x92), (0, .ref (ad 9)), (1, .int 3)]) hx hb dX7_number_62 hl (k := 1) rfl (by decide) (by decide) rfl (fun ls hl => ?_)
                  refine lv_goto (tgt := 22) hx hb dX7_number_65 (by decide) ?_
                  refine lv_iload_n hx hb dX7_number_22 rfl (lv_at hl 0 rfl) ?_
                  refine lv_iload_n hx hb dX7_number_23 rfl (lv_at hl 3 rfl) ?_
                  refine lv_icmp_ge (tgt := 68) hx hb dX7_number_24 (by decide) (fun _ => ?_) (fun c => absurd (by decide) c)
                  refine lv_iload_n hx hb dX7_number_68 rfl (lv_at hl 1 rfl) ?_
                  have z93 : (σ89 9 0).toInt = (σ 9 0).toInt := by rw [(show σ89 9 0 = (σ 9 0) from (by rw [eσ89, jup_k (by decide)]; exact (by rw [eσ63, jup_k (by decide)]; exact (by rw [eσ38, jup_k (by decide)]))))]
                  have w94 : ∀ k : Nat, k < 80 → 0 ≤ (σ89 10 k).toInt ∧ (σ89 10 k).toInt ≤ 255 := (by rw [eσ89, jup_n (by decide)]; exact w68)
                  have w95 : ∀ k : Nat, k < 8 → 0 ≤ (σ89 11 k).toInt ∧ (σ89 11 k).toInt ≤ 3 := (by rw [eσ89, jup_n (by decide)]; exact w69)
                  have I96 : jI9 σ89 := ⟨(by omega), w94, w95⟩
                  have z97 : (σ89 9 1).toInt = (σ 9 1).toInt + 3 := by rw [(show σ89 9 1 = x88 from (by rw [eσ89]; exact jup_s))]; exact tx88
                  have I98 : jI91 σ89 := ⟨(by omega), (by omega)⟩
                  have z99 : (σ89 9 2).toInt = (σ 9 2).toInt := by rw [(show σ89 9 2 = (σ 9 2) from (by rw [eσ89, jup_k (by decide)]; exact (by rw [eσ63, jup_k (by decide)]; exact (by rw [eσ38, jup_k (by decide)]))))]
                  have I100 : jI92 σ89 := (show (-1) ≤ (σ89 9 2).toInt by omega)
                  exact hret x92 σ89 τ _ _ _ _ rfl ⟨rfl, (fun i hi => by rw [eσ89, jup_n (by omega), eσ63, jup_n (by omega), eσ38, jup_n (by omega)]), (fun k hk => by rw [eσ89, jup_k (by omega), eσ63, jup_k (by omega), eσ38, jup_k (by omega)]), I96, I98, I100, (by omega), ⟨trivial, (by have h9 := tx92; omega)⟩⟩ hP hS dX7_number_69
                · obtain ⟨q102, k101⟩ := h83
                  have q102 := q102.symm
                  subst q102
                  refine lv_if_eq (tgt := 68) hx hb dX7_number_34 (by decide) (fun _ => ?_) (fun c => absurd (by decide) c)
                  refine lv_iload_n hx hb dX7_number_68 rfl (lv_at hl 1 rfl) ?_
                  have I103 : jI91 σ63 := ⟨(by omega), (by omega)⟩
                  have z104 : (σ63 9 2).toInt = (σ 9 2).toInt := by rw [(show σ63 9 2 = (σ 9 2) from (by rw [eσ63, jup_k (by decide)]; exact (by rw [eσ38, jup_k (by decide)])))]
                  have I105 : jI92 σ63 := (show (-1) ≤ (σ63 9 2).toInt by omega)
                  exact hret x66 σ63 τ _ _ _ _ rfl ⟨rfl, (fun i hi => by rw [eσ63, jup_n (by omega), eσ38, jup_n (by omega)]), (fun k hk => by rw [eσ63, jup_k (by omega), eσ38, jup_k (by omega)]), I70, I103, I105, (by omega), ⟨trivial, (by have h9 := tx66; omega)⟩⟩ hP hS dX7_number_69
              · obtain ⟨q107, k106⟩ := h75
                have q107 := q107.symm
                subst q107
                refine jcallS (As := [.int (-1)]) (rest := []) ⟨hx, hb, hml, hown, hts⟩ hK hP hA hS hZ (c_X7_isDigit l D cI cL ad zz hJ σ63 τ (-1) ((-1)) jz_m1) cw_RX7_39 ⟨Nat.le_of_ble_eq_true rfl, Nat.le_of_ble_eq_true rfl⟩ rfl rfl rfl hl.1 rfl (Nat.le_of_ble_eq_true rfl) dX7_number_31 ⟨Nat.zero_le _, Nat.zero_le _⟩ (fun r109 σ108 τ108 H locs h108 hP hS => ?_)
                obtain ⟨⟨rfl, rfl⟩, h108⟩ := h108
                rcases h108 with h110 | h111
                · obtain ⟨q113, k112⟩ := h110
                  exact absurd (by omega : False) id
                · obtain ⟨q115, k114⟩ := h111
                  have q115 := q115.symm
                  subst q115
                  refine lv_if_eq (tgt := 68) hx hb dX7_number_34 (by decide) (fun _ => ?_) (fun c => absurd (by decide) c)
                  refine lv_iload_n hx hb dX7_number_68 rfl (lv_at hl 1 rfl) ?_
                  have I116 : jI91 σ63 := ⟨(by omega), (by omega)⟩
                  have z117 : (σ63 9 2).toInt = (σ 9 2).toInt := by rw [(show σ63 9 2 = (σ 9 2) from (by rw [eσ63, jup_k (by decide)]; exact (by rw [eσ38, jup_k (by decide)])))]
                  have I118 : jI92 σ63 := (show (-1) ≤ (σ63 9 2).toInt by omega)
                  exact hret x66 σ63 τ _ _ _ _ rfl ⟨rfl, (fun i hi => by rw [eσ63, jup_n (by omega), eσ38, jup_n (by omega)]), (fun k hk => by rw [eσ63, jup_k (by omega), eσ38, jup_k (by omega)]), I70, I116, I118, (by omega), ⟨trivial, (by have h9 := tx66; omega)⟩⟩ hP hS dX7_number_69
            · obtain ⟨q120, k119⟩ := h57
              have q120 := q120.symm
              subst q120
              refine lv_if_eq (tgt := 68) hx hb dX7_number_34 (by decide) (fun _ => ?_) (fun c => absurd (by decide) c)
              refine lv_iload_n hx hb dX7_number_68 rfl (lv_at hl 1 rfl) ?_
              have I121 : jI91 σ38 := ⟨(by omega), (by omega)⟩
              have z122 : (σ38 9 2).toInt = (σ 9 2).toInt := by rw [(show σ38 9 2 = (σ 9 2) from (by rw [eσ38, jup_k (by decide)]))]
              have I123 : jI92 σ38 := (show (-1) ≤ (σ38 9 2).toInt by omega)
              exact hret x40 σ38 τ _ _ _ _ rfl ⟨rfl, (fun i hi => by rw [eσ38, jup_n (by omega)]), (fun k hk => by rw [eσ38, jup_k (by omega)]), I44, I121, I123, (by omega), ⟨trivial, (by have h9 := tx40; omega)⟩⟩ hP hS dX7_number_69
          · obtain ⟨q125, k124⟩ := h49
            have q125 := q125.symm
            subst q125
            refine jcallS (As := [.int (-1)]) (rest := []) ⟨hx, hb, hml, hown, hts⟩ hK hP hA hS hZ (c_X7_isDigit l D cI cL ad zz hJ σ38 τ (-1) ((-1)) jz_m1) cw_RX7_39 ⟨Nat.le_of_ble_eq_true rfl, Nat.le_of_ble_eq_true rfl⟩ rfl rfl rfl hl.1 rfl (Nat.le_of_ble_eq_true rfl) dX7_number_31 ⟨Nat.zero_le _, Nat.zero_le _⟩ (fun r127 σ126 τ126 H locs h126 hP hS => ?_)
            obtain ⟨⟨rfl, rfl⟩, h126⟩ := h126
            rcases h126 with h128 | h129
            · obtain ⟨q131, k130⟩ := h128
              exact absurd (by omega : False) id
            · obtain ⟨q133, k132⟩ := h129
              have q133 := q133.symm
              subst q133
              refine lv_if_eq (tgt := 68) hx hb dX7_number_34 (by decide) (fun _ => ?_) (fun c => absurd (by decide) c)
              refine lv_iload_n hx hb dX7_number_68 rfl (lv_at hl 1 rfl) ?_
              have I134 : jI91 σ38 := ⟨(by omega), (by omega)⟩
              have z135 : (σ38 9 2).toInt = (σ 9 2).toInt := by rw [(show σ38 9 2 = (σ 9 2) from (by rw [eσ38, jup_k (by decide)]))]
              have I136 : jI92 σ38 := (show (-1) ≤ (σ38 9 2).toInt by omega)
              exact hret x40 σ38 τ _ _ _ _ rfl ⟨rfl, (fun i hi => by rw [eσ38, jup_n (by omega)]), (fun k hk => by rw [eσ38, jup_k (by omega)]), I44, I134, I136, (by omega), ⟨trivial, (by have h9 := tx40; omega)⟩⟩ hP hS dX7_number_69
        · obtain ⟨q138, k137⟩ := h33
          exact absurd (by omega : False) id
      · obtain ⟨q140, k139⟩ := h25
        exact absurd (by omega : False) id
    · obtain ⟨q142, k141⟩ := h19
      have q142 := q142.symm
      subst q142
      refine lv_if_ne (tgt := 18) hx hb dX7_number_7 (by decide) (fun c => absurd (by decide) c) (fun _ => ?_)
      refine lv_aload_n hx hb dX7_number_10 rfl (lv_at hl 0 rfl) ?_
      refine lv_aload_n hx hb dX7_number_11 rfl (lv_at hl 0 rfl) ?_
      refine va_get (D := D) hx hb hts inlX7 hown hK hP 9 (jc_9 cI cL ad σ τ) rfl 1 (by decide) (hts _ kw_13_17) (fun _ h9 => h9) rfl dX7_number_12 ?_
      have I143 : jI92 σ := (show (-1) ≤ (σ 9 2).toInt by omega)
      refine jcallVv (As := [.int (σ 9 1)]) (rest := []) ⟨hx, hb, hml, hown, hts⟩ hK hP hA hS hZ (c_X7_fail_9 l D cI cL ad zz hJ σ τ (σ 9 1) ((σ 9 1).toInt) rfl I143 (by omega)) cw_RX7_43 (jc_9 cI cL ad σ τ) rfl ⟨Nat.le_of_ble_eq_true rfl, Nat.le_of_ble_eq_true rfl⟩ rfl rfl rfl hl.1 rfl (Nat.le_of_ble_eq_true rfl) dX7_number_15 ⟨Nat.zero_le _, Nat.zero_le _⟩ (fun σ144 τ144 H locs h144 hP hS => ?_)
      obtain ⟨rfl, f146, f147, h144⟩ := h144
      obtain ⟨k148, h144⟩ := h144
      refine lv_iconst (v := 0) hx hb dX7_number_18 (by decide) ?_
      refine lv_istore_n (lv' := [(2, .int 0), (0, .ref (ad 9)), (1, .int 3)]) hx hb dX7_number_19 rfl hl (by decide) rfl (fun ls hl => ?_)
      refine lv_iconst (v := 0) hx hb dX7_number_20 (by decide) ?_
      refine lv_istore_n (lv' := [(3, .int 0), (2, .int 0), (0, .ref (ad 9)), (1, .int 3)]) hx hb dX7_number_21 rfl hl (by decide) rfl (fun ls hl => ?_)
      refine lv_iload_n hx hb dX7_number_22 rfl (lv_at hl 0 rfl) ?_
      refine lv_iload_n hx hb dX7_number_23 rfl (lv_at hl 3 rfl) ?_
      refine lv_icmp_ge (tgt := 68) hx hb dX7_number_24 (by decide) (fun c => absurd c (by decide)) (fun _ => ?_)
      refine lv_aload_n hx hb dX7_number_27 rfl (lv_at hl 2 rfl) ?_
      have z149 : (σ144 9 0).toInt = (σ 9 0).toInt := by rw [(show σ144 9 0 = (σ 9 0) from (by rw [f147 0 (by omega)]))]
      have w150 : ∀ k : Nat, k < 80 → 0 ≤ (σ144 10 k).toInt ∧ (σ144 10 k).toInt ≤ 255 := (by rw [f146 10 (by omega)]; exact w2)
      have w151 : ∀ k : Nat, k < 8 → 0 ≤ (σ144 11 k).toInt ∧ (σ144 11 k).toInt ≤ 3 := (by rw [f146 11 (by omega)]; exact w3)
      have I152 : jI9 σ144 := ⟨(by omega), w150, w151⟩
      have z153 : (σ144 9 1).toInt = (σ 9 1).toInt := by rw [(show σ144 9 1 = (σ 9 1) from (by rw [f147 1 (by omega)]))]
      refine jcallV (As := []) (rest := []) ⟨hx, hb, hml, hown, hts⟩ hK hP hA hS hZ (c_X7_sign_9 l D cI cL ad zz hJ σ144 τ I152) cw_RX7_35 (jc_9 cI cL ad σ144 τ) rfl ⟨Nat.le_of_ble_eq_true rfl, Nat.le_of_ble_eq_true rfl⟩ rfl rfl rfl hl.1 rfl (Nat.le_of_ble_eq_true rfl) dX7_number_28 ⟨Nat.zero_le _, Nat.zero_le _⟩ (fun r155 σ154 τ154 H locs h154 hP hS => ?_)
      obtain ⟨⟨rfl, rfl⟩, h154⟩ := h154
      rcases h154 with h156 | h157
      · obtain ⟨q160, k158, k159⟩ := h156
        have q161 : r155 = (σ 10 (σ 9 1).toNatClampNeg) := q160.trans (by rw [(show σ144 9 1 = (σ 9 1) from (by rw [f147 1 (by omega)])), f146 10 (by omega)])
        have q161e : (σ144 10 (σ144 9 1).toNatClampNeg).toInt = (σ 10 (σ 9 1).toNatClampNeg).toInt := by rw [← q160, ← q161]
        have q161 := q161.symm
        subst q161
        refine jcallS (As := [.int (σ 10 (σ 9 1).toNatClampNeg)]) (rest := []) ⟨hx, hb, hml, hown, hts⟩ hK hP hA hS hZ (c_X7_isDigit l D cI cL ad zz hJ σ144 τ (σ 10 (σ 9 1).toNatClampNeg) ((σ 10 (σ 9 1).toNatClampNeg).toInt) rfl) cw_RX7_39 ⟨Nat.le_of_ble_eq_true rfl, Nat.le_of_ble_eq_true rfl⟩ rfl rfl rfl hl.1 rfl (Nat.le_of_ble_eq_true rfl) dX7_number_31 ⟨Nat.zero_le _, Nat.zero_le _⟩ (fun r163 σ162 τ162 H locs h162 hP hS => ?_)
        obtain ⟨⟨rfl, rfl⟩, h162⟩ := h162
        rcases h162 with h164 | h165
        · obtain ⟨q167, k166⟩ := h164
          exact absurd (by omega : False) id
        · obtain ⟨q169, k168⟩ := h165
          have q169 := q169.symm
          subst q169
          refine lv_if_eq (tgt := 68) hx hb dX7_number_34 (by decide) (fun _ => ?_) (fun c => absurd (by decide) c)
          refine lv_iload_n hx hb dX7_number_68 rfl (lv_at hl 1 rfl) ?_
          have I170 : jI91 σ144 := ⟨(by omega), (by omega)⟩
          have I171 : jI92 σ144 := (show (-1) ≤ (σ144 9 2).toInt by omega)
          exact hret 0 σ144 τ _ _ _ _ rfl ⟨rfl, (fun i hi => by rw [f146 i (by omega)]), (fun k hk => by rw [f147 k (by omega)]), I152, I170, I171, (by omega), ⟨trivial, (by have h9 := jz_0; omega)⟩⟩ hP hS dX7_number_69
      · obtain ⟨q173, k172⟩ := h157
        have q173 := q173.symm
        subst q173
        refine jcallS (As := [.int (-1)]) (rest := []) ⟨hx, hb, hml, hown, hts⟩ hK hP hA hS hZ (c_X7_isDigit l D cI cL ad zz hJ σ144 τ (-1) ((-1)) jz_m1) cw_RX7_39 ⟨Nat.le_of_ble_eq_true rfl, Nat.le_of_ble_eq_true rfl⟩ rfl rfl rfl hl.1 rfl (Nat.le_of_ble_eq_true rfl) dX7_number_31 ⟨Nat.zero_le _, Nat.zero_le _⟩ (fun r175 σ174 τ174 H locs h174 hP hS => ?_)
        obtain ⟨⟨rfl, rfl⟩, h174⟩ := h174
        rcases h174 with h176 | h177
        · obtain ⟨q179, k178⟩ := h176
          exact absurd (by omega : False) id
        · obtain ⟨q181, k180⟩ := h177
          have q181 := q181.symm
          subst q181
          refine lv_if_eq (tgt := 68) hx hb dX7_number_34 (by decide) (fun _ => ?_) (fun c => absurd (by decide) c)
          refine lv_iload_n hx hb dX7_number_68 rfl (lv_at hl 1 rfl) ?_
          have I182 : jI91 σ144 := ⟨(by omega), (by omega)⟩
          have I183 : jI92 σ144 := (show (-1) ≤ (σ144 9 2).toInt by omega)
          exact hret 0 σ144 τ _ _ _ _ rfl ⟨rfl, (fun i hi => by rw [f146 i (by omega)]), (fun k hk => by rw [f147 k (by omega)]), I152, I182, I183, (by omega), ⟨trivial, (by have h9 := jz_0; omega)⟩⟩ hP hS dX7_number_69
  · obtain ⟨q185, k184⟩ := h11
    have q185 := q185.symm
    subst q185
    refine jcallS (As := [.int (-1)]) (rest := []) ⟨hx, hb, hml, hown, hts⟩ hK hP hA hS hZ (c_X7_isDigit l D cI cL ad zz hJ σ τ (-1) ((-1)) jz_m1) cw_RX7_39 ⟨Nat.le_of_ble_eq_true rfl, Nat.le_of_ble_eq_true rfl⟩ rfl rfl rfl hl.1 rfl (Nat.le_of_ble_eq_true rfl) dX7_number_4 ⟨Nat.zero_le _, Nat.zero_le _⟩ (fun r187 σ186 τ186 H locs h186 hP hS => ?_)
    obtain ⟨⟨rfl, rfl⟩, h186⟩ := h186
    rcases h186 with h188 | h189
    · obtain ⟨q191, k190⟩ := h188
      exact absurd (by omega : False) id
    · obtain ⟨q193, k192⟩ := h189
      have q193 := q193.symm
      subst q193
      refine lv_if_ne (tgt := 18) hx hb dX7_number_7 (by decide) (fun c => absurd (by decide) c) (fun _ => ?_)
      refine lv_aload_n hx hb dX7_number_10 rfl (lv_at hl 0 rfl) ?_
      refine lv_aload_n hx hb dX7_number_11 rfl (lv_at hl 0 rfl) ?_
      refine va_get (D := D) hx hb hts inlX7 hown hK hP 9 (jc_9 cI cL ad σ τ) rfl 1 (by decide) (hts _ kw_13_17) (fun _ h9 => h9) rfl dX7_number_12 ?_
      have I194 : jI92 σ := (show (-1) ≤ (σ 9 2).toInt by omega)
      refine jcallVv (As := [.int (σ 9 1)]) (rest := []) ⟨hx, hb, hml, hown, hts⟩ hK hP hA hS hZ (c_X7_fail_9 l D cI cL ad zz hJ σ τ (σ 9 1) ((σ 9 1).toInt) rfl I194 (by omega)) cw_RX7_43 (jc_9 cI cL ad σ τ) rfl ⟨Nat.le_of_ble_eq_true rfl, Nat.le_of_ble_eq_true rfl⟩ rfl rfl rfl hl.1 rfl (Nat.le_of_ble_eq_true rfl) dX7_number_15 ⟨Nat.zero_le _, Nat.zero_le _⟩ (fun σ195 τ195 H locs h195 hP hS => ?_)
      obtain ⟨rfl, f197, f198, h195⟩ := h195
      obtain ⟨k199, h195⟩ := h195
      refine lv_iconst (v := 0) hx hb dX7_number_18 (by decide) ?_
      refine lv_istore_n (lv' := [(2, .int 0), (0, .ref (ad 9)), (1, .int 3)]) hx hb dX7_number_19 rfl hl (by decide) rfl (fun ls hl => ?_)
      refine lv_iconst (v := 0) hx hb dX7_number_20 (by decide) ?_
      refine lv_istore_n (lv' := [(3, .int 0), (2, .int 0), (0, .ref (ad 9)), (1, .int 3)]) hx hb dX7_number_21 rfl hl (by decide) rfl (fun ls hl => ?_)
      refine lv_iload_n hx hb dX7_number_22 rfl (lv_at hl 0 rfl) ?_
      refine lv_iload_n hx hb dX7_number_23 rfl (lv_at hl 3 rfl) ?_
      refine lv_icmp_ge (tgt := 68) hx hb dX7_number_24 (by decide) (fun c => absurd c (by decide)) (fun _ => ?_)
      refine lv_aload_n hx hb dX7_number_27 rfl (lv_at hl 2 rfl) ?_
      have z200 : (σ195 9 0).toInt = (σ 9 0).toInt := by rw [(show σ195 9 0 = (σ 9 0) from (by rw [f198 0 (by omega)]))]
      have w201 : ∀ k : Nat, k < 80 → 0 ≤ (σ195 10 k).toInt ∧ (σ195 10 k).toInt ≤ 255 := (by rw [f197 10 (by omega)]; exact w2)
      have w202 : ∀ k : Nat, k < 8 → 0 ≤ (σ195 11 k).toInt ∧ (σ195 11 k).toInt ≤ 3 := (by rw [f197 11 (by omega)]; exact w3)
      have I203 : jI9 σ195 := ⟨(by omega), w201, w202⟩
      have z204 : (σ195 9 1).toInt = (σ 9 1).toInt := by rw [(show σ195 9 1 = (σ 9 1) from (by rw [f198 1 (by omega)]))]
      refine jcallV (As := []) (rest := []) ⟨hx, hb, hml, hown, hts⟩ hK hP hA hS hZ (c_X7_sign_9 l D cI cL ad zz hJ σ195 τ I203) cw_RX7_35 (jc_9 cI cL ad σ195 τ) rfl ⟨Nat.le_of_ble_eq_true rfl, Nat.le_of_ble_eq_true rfl⟩ rfl rfl rfl hl.1 rfl (Nat.le_of_ble_eq_true rfl) dX7_number_28 ⟨Nat.zero_le _, Nat.zero_le _⟩ (fun r206 σ205 τ205 H locs h205 hP hS => ?_)
      obtain ⟨⟨rfl, rfl⟩, h205⟩ := h205
      rcases h205 with h207 | h208
      · obtain ⟨q211, k209, k210⟩ := h207
        have q212 : r206 = (σ 10 (σ 9 1).toNatClampNeg) := q211.trans (by rw [(show σ195 9 1 = (σ 9 1) from (by rw [f198 1 (by omega)])), f197 10 (by omega)])
        have q212e : (σ195 10 (σ195 9 1).toNatClampNeg).toInt = (σ 10 (σ 9 1).toNatClampNeg).toInt := by rw [← q211, ← q212]
        have q212 := q212.symm
        subst q212
        refine jcallS (As := [.int (σ 10 (σ 9 1).toNatClampNeg)]) (rest := []) ⟨hx, hb, hml, hown, hts⟩ hK hP hA hS hZ (c_X7_isDigit l D cI cL ad zz hJ σ195 τ (σ 10 (σ 9 1).toNatClampNeg) ((σ 10 (σ 9 1).toNatClampNeg).toInt) rfl) cw_RX7_39 ⟨Nat.le_of_ble_eq_true rfl, Nat.le_of_ble_eq_true rfl⟩ rfl rfl rfl hl.1 rfl (Nat.le_of_ble_eq_true rfl) dX7_number_31 ⟨Nat.zero_le _, Nat.zero_le _⟩ (fun r214 σ213 τ213 H locs h213 hP hS => ?_)
        obtain ⟨⟨rfl, rfl⟩, h213⟩ := h213
        rcases h213 with h215 | h216
        · obtain ⟨q218, k217⟩ := h215
          have q218 := q218.symm
          subst q218
          refine lv_if_eq (tgt := 68) hx hb dX7_number_34 (by decide) (fun c => absurd c (by decide)) (fun _ => ?_)
          refine lv_iload_n hx hb dX7_number_37 rfl (lv_at hl 1 rfl) ?_
          refine lv_bipush (v := 10) hx hb dX7_number_38 (by decide) ?_
          refine lv_imul hx hb dX7_number_40 ?_
          refine jtopr (y := 0) (by decide) ?_
          refine lv_aload_n hx hb dX7_number_41 rfl (lv_at hl 2 rfl) ?_
          refine va_get (D := D) hx hb hts inlX7 hown hK hP 9 (jc_9 cI cL ad σ195 τ) rfl 3 (by decide) (hts _ kw_3_20) (fun _ h9 => h9) rfl dX7_number_42 ?_
          refine lv_aload_n hx hb dX7_number_45 rfl (lv_at hl 2 rfl) ?_
          refine lv_dup hx hb dX7_number_46 rfl ?_
          refine va_get (D := D) hx hb hts inlX7 hown hK hP 9 (jc_9 cI cL ad σ195 τ) rfl 1 (by decide) (hts _ kw_13_17) (fun _ h9 => h9) rfl dX7_number_47 ?_
          have m219 : σ195 9 1 = (σ 9 1) := (by rw [f198 1 (by omega)])
          refine jtopr m219 ?_
          refine lv_dup_x1 hx hb dX7_number_50 rfl rfl ?_
          refine lv_iconst (v := 1) hx hb dX7_number_51 (by decide) ?_
          have g220 := jrg (rfl : (σ 9 1).toInt = (σ 9 1).toInt)
          refine lv_iadd hx hb dX7_number_52 ?_
          refine lv_topi (fun x221 ex221 => ?_)
          have tx221 : x221.toInt = (σ 9 1).toInt + 1 := (jadd ex221 rfl jz_1 (by omega) (by omega)).trans (by omega)
          refine jput (ty := .int) hx hb hts inlX7 tyX7 tyX7_ok nmX7 hown hK hP hJ hA hS (jc_9 cI cL ad σ195 τ) rfl (k := 1) (by decide) (Nat.le_of_ble_eq_true rfl) (jp_9_1 cI cL ad σ195 τ x221) (hts _ kw_13_17) (fun _ h9 => h9) rfl (by decide +kernel) rfl rfl dX7_number_53 (fun σ222 H locs eσ222 hP hS => ?_)
          refine jald hx hb hK hP (jc_10 cI cL ad σ222 τ) (jin rfl (by omega) (by omega)) dX7_number_56 ?_
          refine jtopr (y := (σ 10 (σ 9 1).toNatClampNeg)) (by rw [eσ222, jup_n (by decide), f197 10 (by omega)]) ?_
          refine lv_iadd hx hb dX7_number_57 ?_
          refine jtopr (y := (σ 10 (σ 9 1).toNatClampNeg)) (by rw [Int32.zero_add]) ?_
          refine lv_bipush (v := 48) hx hb dX7_number_58 (by decide) ?_
          have g223 := jrg (rfl : (σ 10 (σ 9 1).toNatClampNeg).toInt = (σ 10 (σ 9 1).toNatClampNeg).toInt)
          refine lv_isub hx hb dX7_number_60 ?_
          refine lv_topi (fun x224 ex224 => ?_)
          have tx224 : x224.toInt = (σ 10 (σ 9 1).toNatClampNeg).toInt - 48 := (jsub ex224 rfl jz_48 (by omega) (by omega)).trans (by omega)
          refine lv_istore_n (lv' := [(2, .int x224), (3, .int 0), (0, .ref (ad 9)), (1, .int 3)]) hx hb dX7_number_61 rfl hl (by decide) rfl (fun ls hl => ?_)
          refine lv_iinc (v := 1) (lv' := [(3, .int 1), (2, .int x224), (0, .ref (ad 9)), (1, .int 3)]) hx hb dX7_number_62 hl (k := 1) rfl (by decide) (by decide) rfl (fun ls hl => ?_)
          refine lv_goto (tgt := 22) hx hb dX7_number_65 (by decide) ?_
          refine lv_iload_n hx hb dX7_number_22 rfl (lv_at hl 0 rfl) ?_
          refine lv_iload_n hx hb dX7_number_23 rfl (lv_at hl 3 rfl) ?_
          refine lv_icmp_ge (tgt := 68) hx hb dX7_number_24 (by decide) (fun c => absurd c (by decide)) (fun _ => ?_)
          refine lv_aload_n hx hb dX7_number_27 rfl (lv_at hl 2 rfl) ?_
          have z225 : (σ222 9 0).toInt = (σ 9 0).toInt := by rw [(show σ222 9 0 = (σ 9 0) from (by rw [eσ222, jup_k (by decide)]; exact (by rw [f198 0 (by omega)])))]
          have w226 : ∀ k : Nat, k < 80 → 0 ≤ (σ222 10 k).toInt ∧ (σ222 10 k).toInt ≤ 255 := (by rw [eσ222, jup_n (by decide)]; exact w201)
          have w227 : ∀ k : Nat, k < 8 → 0 ≤ (σ222 11 k).toInt ∧ (σ222 11 k).toInt ≤ 3 := (by rw [eσ222, jup_n (by decide)]; exact w202)
          have I228 : jI9 σ222 := ⟨(by omega), w226, w227⟩
          have z229 : (σ222 9 1).toInt = (σ 9 1).toInt + 1 := by rw [(show σ222 9 1 = x221 from (by rw [eσ222]; exact jup_s))]; exact tx221
          refine jcallV (As := []) (rest := []) ⟨hx, hb, hml, hown, hts⟩ hK hP hA hS hZ (c_X7_sign_9 l D cI cL ad zz hJ σ222 τ I228) cw_RX7_35 (jc_9 cI cL ad σ222 τ) rfl ⟨Nat.le_of_ble_eq_true rfl, Nat.le_of_ble_eq_true rfl⟩ rfl rfl rfl hl.1 rfl (Nat.le_of_ble_eq_true rfl) dX7_number_28 ⟨Nat.zero_le _, Nat.zero_le _⟩ (fun r231 σ230 τ230 H locs h230 hP hS => ?_)
          obtain ⟨⟨rfl, rfl⟩, h230⟩ := h230
          rcases h230 with h232 | h233
          · obtain ⟨q236, k234, k235⟩ := h232
            exact absurd (by omega : False) id
          · obtain ⟨q238, k237⟩ := h233
            have q238 := q238.symm
            subst q238
            refine jcallS (As := [.int (-1)]) (rest := []) ⟨hx, hb, hml, hown, hts⟩ hK hP hA hS hZ (c_X7_isDigit l D cI cL ad zz hJ σ222 τ (-1) ((-1)) jz_m1) cw_RX7_39 ⟨Nat.le_of_ble_eq_true rfl, Nat.le_of_ble_eq_true rfl⟩ rfl rfl rfl hl.1 rfl (Nat.le_of_ble_eq_true rfl) dX7_number_31 ⟨Nat.zero_le _, Nat.zero_le _⟩ (fun r240 σ239 τ239 H locs h239 hP hS => ?_)
            obtain ⟨⟨rfl, rfl⟩, h239⟩ := h239
            rcases h239 with h241 | h242
            · obtain ⟨q244, k243⟩ := h241
              exact absurd (by omega : False) id
            · obtain ⟨q246, k245⟩ := h242
              have q246 := q246.symm
              subst q246
              refine lv_if_eq (tgt := 68) hx hb dX7_number_34 (by decide) (fun _ => ?_) (fun c => absurd (by decide) c)
              refine lv_iload_n hx hb dX7_number_68 rfl (lv_at hl 1 rfl) ?_
              have I247 : jI91 σ222 := ⟨(by omega), (by omega)⟩
              have z248 : (σ222 9 2).toInt = (σ195 9 2).toInt := by rw [(show σ222 9 2 = (σ195 9 2) from (by rw [eσ222, jup_k (by decide)]))]
              have I249 : jI92 σ222 := (show (-1) ≤ (σ222 9 2).toInt by omega)
              exact hret x224 σ222 τ _ _ _ _ rfl ⟨rfl, (fun i hi => by rw [eσ222, jup_n (by omega), f197 i (by omega)]), (fun k hk => by rw [eσ222, jup_k (by omega), f198 k (by omega)]), I228, I247, I249, (by omega), ⟨trivial, (by have h9 := tx224; omega)⟩⟩ hP hS dX7_number_69
        · obtain ⟨q251, k250⟩ := h216
          have q251 := q251.symm
          subst q251
          refine lv_if_eq (tgt := 68) hx hb dX7_number_34 (by decide) (fun _ => ?_) (fun c => absurd (by decide) c)
          refine lv_iload_n hx hb dX7_number_68 rfl (lv_at hl 1 rfl) ?_
          have I252 : jI91 σ195 := ⟨(by omega), (by omega)⟩
          have I253 : jI92 σ195 := (show (-1) ≤ (σ195 9 2).toInt by omega)
          exact hret 0 σ195 τ _ _ _ _ rfl ⟨rfl, (fun i hi => by rw [f197 i (by omega)]), (fun k hk => by rw [f198 k (by omega)]), I203, I252, I253, (by omega), ⟨trivial, (by have h9 := jz_0; omega)⟩⟩ hP hS dX7_number_69
      · obtain ⟨q255, k254⟩ := h208
        have q255 := q255.symm
        subst q255
        refine jcallS (As := [.int (-1)]) (rest := []) ⟨hx, hb, hml, hown, hts⟩ hK hP hA hS hZ (c_X7_isDigit l D cI cL ad zz hJ σ195 τ (-1) ((-1)) jz_m1) cw_RX7_39 ⟨Nat.le_of_ble_eq_true rfl, Nat.le_of_ble_eq_true rfl⟩ rfl rfl rfl hl.1 rfl (Nat.le_of_ble_eq_true rfl) dX7_number_31 ⟨Nat.zero_le _, Nat.zero_le _⟩ (fun r257 σ256 τ256 H locs h256 hP hS => ?_)
        obtain ⟨⟨rfl, rfl⟩, h256⟩ := h256
        rcases h256 with h258 | h259
        · obtain ⟨q261, k260⟩ := h258
          exact absurd (by omega : False) id
        · obtain ⟨q263, k262⟩ := h259
          have q263 := q263.symm
          subst q263
          refine lv_if_eq (tgt := 68) hx hb dX7_number_34 (by decide) (fun _ => ?_) (fun c => absurd (by decide) c)
          refine lv_iload_n hx hb dX7_number_68 rfl (lv_at hl 1 rfl) ?_
          have I264 : jI91 σ195 := ⟨(by omega), (by omega)⟩
          have I265 : jI92 σ195 := (show (-1) ≤ (σ195 9 2).toInt by omega)
          exact hret 0 σ195 τ _ _ _ _ rfl ⟨rfl, (fun i hi => by rw [f197 i (by omega)]), (fun k hk => by rw [f198 k (by omega)]), I203, I264, I265, (by omega), ⟨trivial, (by have h9 := jz_0; omega)⟩⟩ hP hS dX7_number_69
set_option maxHeartbeats 4000000 in
set_option maxRecDepth 100000 in
theorem c_X7_number_4 (l : Launch) (D : va_G) (cI cL : ClassId) (ad zz : Nat → Nat) (hJ : jD ad) (σ : Nat → Nat → Int32) (τ : Nat → Nat → Int64) (hI9 : jI9 σ) (hI91 : jI91 σ) (hI92 : jI92 σ) : jM l yX7_number cX7_number 4 (some .int) ({ frames := 1, cells := 0, slots := 0, locals := 21 }) D cI cL ad zz [.ref (ad 9), .int 4] σ τ (fun r σ' τ' => τ = τ' ∧ (∀ i : Nat, (i < 9 ∨ 9 < i) → σ' i = σ i) ∧ (∀ k : Nat, (k < 1 ∨ 1 < k) ∧ (k < 2 ∨ 2 < k) → σ' 9 k = σ 9 k) ∧ (jI9 σ') ∧ (jI91 σ') ∧ (jI92 σ') ∧ ((0 ≤ (σ 9 2).toInt ∧ 0 ≤ (σ' 9 2).toInt) ∨ ((σ 9 2).toInt = (-1))) ∧ ((True ∧ (0 ≤ r.toInt ∧ r.toInt ≤ 9999)))) := by
  refine jM.of hJ (by decide +kernel) (nt := .int) rfl (Nat.le_of_ble_eq_true rfl) ?_
  intro p e s m args below meth c Q ls hC hret hl hP
  obtain ⟨hx, hb, hr, hml, hown, hts, hK, -, hlocks, hZ⟩ := hC
  have hown : s.vm.findClass RX7 = some m.cls := hown
  have hS : va_S (jA ad) s.heap s.heap [] := va_S.rf
  have hA : ∀ q, jA ad q → jA ad q := fun _ h => h
  have hl : lv_has ls 4 [(0, .ref (ad 9)), (1, .int 4)] := hl
  obtain ⟨i1, w2, w3⟩ : (0 ≤ (σ 9 0).toInt ∧ (σ 9 0).toInt ≤ 80) ∧ (∀ k : Nat, k < 80 → 0 ≤ (σ 10 k).toInt ∧ (σ 10 k).toInt ≤ 255) ∧ (∀ k : Nat, k < 8 → 0 ≤ (σ 11 k).toInt ∧ (σ 11 k).toInt ≤ 3) := id hI9
  obtain ⟨i4, i5⟩ : (0 ≤ (σ 9 1).toInt) ∧ ((σ 9 1).toInt ≤ (σ 9 0).toInt) := id hI91
  have i6 : (-1) ≤ (σ 9 2).toInt := hI92
  refine lv_aload_n hx hb dX7_number_0 rfl (lv_at hl 0 rfl) ?_
  have I7 : jI9 σ := ⟨(by omega), w2, w3⟩
  refine jcallV (As := []) (rest := []) ⟨hx, hb, hml, hown, hts⟩ hK hP hA hS hZ (c_X7_sign_9 l D cI cL ad zz hJ σ τ I7) cw_RX7_35 (jc_9 cI cL ad σ τ) rfl ⟨Nat.le_of_ble_eq_true rfl, Nat.le_of_ble_eq_true rfl⟩ rfl rfl rfl hl.1 rfl (Nat.le_of_ble_eq_true rfl) dX7_number_1 ⟨Nat.zero_le _, Nat.zero_le _⟩ (fun r9 σ8 τ8 H locs h8 hP hS => ?_)
  obtain ⟨⟨rfl, rfl⟩, h8⟩ := h8
  rcases h8 with h10 | h11
  · obtain ⟨q14, k12, k13⟩ := h10
    have q15 : r9 = (σ 10 (σ 9 1).toNatClampNeg) := q14.trans rfl
    have q15 := q15.symm
    subst q15
    refine jcallS (As := [.int (σ 10 (σ 9 1).toNatClampNeg)]) (rest := []) ⟨hx, hb, hml, hown, hts⟩ hK hP hA hS hZ (c_X7_isDigit l D cI cL ad zz hJ σ τ (σ 10 (σ 9 1).toNatClampNeg) ((σ 10 (σ 9 1).toNatClampNeg).toInt) rfl) cw_RX7_39 ⟨Nat.le_of_ble_eq_true rfl, Nat.le_of_ble_eq_true rfl⟩ rfl rfl rfl hl.1 rfl (Nat.le_of_ble_eq_true rfl) dX7_number_4 ⟨Nat.zero_le _, Nat.zero_le _⟩ (fun r17 σ16 τ16 H locs h16 hP hS => ?_)
    obtain ⟨⟨rfl, rfl⟩, h16⟩ := h16
    rcases h16 with h18 | h19
    · obtain ⟨q21, k20⟩ := h18
      have q21 := q21.symm
      subst q21
      refine lv_if_ne (tgt := 18) hx hb dX7_number_7 (by decide) (fun _ => ?_) (fun c => absurd c (by decide))
      refine lv_iconst (v := 0) hx hb dX7_number_18 (by decide) ?_
      refine lv_istore_n (lv' := [(2, .int 0), (0, .ref (ad 9)), (1, .int 4)]) hx hb dX7_number_19 rfl hl (by decide) rfl (fun ls hl => ?_)
      refine lv_iconst (v := 0) hx hb dX7_number_20 (by decide) ?_
      refine lv_istore_n (lv' := [(3, .int 0), (2, .int 0), (0, .ref (ad 9)), (1, .int 4)]) hx hb dX7_number_21 rfl hl (by decide) rfl (fun ls hl => ?_)
      refine lv_iload_n hx hb dX7_number_22 rfl (lv_at hl 0 rfl) ?_
      refine lv_iload_n hx hb dX7_number_23 rfl (lv_at hl 3 rfl) ?_
      refine lv_icmp_ge (tgt := 68) hx hb dX7_number_24 (by decide) (fun c => absurd c (by decide)) (fun _ => ?_)
      refine lv_aload_n hx hb dX7_number_27 rfl (lv_at hl 2 rfl) ?_
      refine jcallV (As := []) (rest := []) ⟨hx, hb, hml, hown, hts⟩ hK hP hA hS hZ (c_X7_sign_9 l D cI cL ad zz hJ σ τ I7) cw_RX7_35 (jc_9 cI cL ad σ τ) rfl ⟨Nat.le_of_ble_eq_true rfl, Nat.le_of_ble_eq_true rfl⟩ rfl rfl rfl hl.1 rfl (Nat.le_of_ble_eq_true rfl) dX7_number_28 ⟨Nat.zero_le _, Nat.zero_le _⟩ (fun r23 σ22 τ22 H locs h22 hP hS => ?_)
      obtain ⟨⟨rfl, rfl⟩, h22⟩ := h22
      rcases h22 with h24 | h25
      · obtain ⟨q28, k26, k27⟩ := h24
        have q29 : r23 = (σ 10 (σ 9 1).toNatClampNeg) := q28.trans rfl
        have q29 := q29.symm
        subst q29
        refine jcallS (As := [.int (σ 10 (σ 9 1).toNatClampNeg)]) (rest := []) ⟨hx, hb, hml, hown, hts⟩ hK hP hA hS hZ (c_X7_isDigit l D cI cL ad zz hJ σ τ (σ 10 (σ 9 1).toNatClampNeg) ((σ 10 (σ 9 1).toNatClampNeg).toInt) rfl) cw_RX7_39 ⟨Nat.le_of_ble_eq_true rfl, Nat.le_of_ble_eq_true rfl⟩ rfl rfl rfl hl.1 rfl (Nat.le_of_ble_eq_true rfl) dX7_number_31 ⟨Nat.zero_le _, Nat.zero_le _⟩ (fun r31 σ30 τ30 H locs h30 hP hS => ?_)
        obtain ⟨⟨rfl, rfl⟩, h30⟩ := h30
        rcases h30 with h32 | h33
        · obtain ⟨q35, k34⟩ := h32
          have q35 := q35.symm
          subst q35
          refine lv_if_eq (tgt := 68) hx hb dX7_number_34 (by decide) (fun c => absurd c (by decide)) (fun _ => ?_)
          refine lv_iload_n hx hb dX7_number_37 rfl (lv_at hl 1 rfl) ?_
          refine lv_bipush (v := 10) hx hb dX7_number_38 (by decide) ?_
          refine lv_imul hx hb dX7_number_40 ?_
          refine jtopr (y := 0) (by decide) ?_
          refine lv_aload_n hx hb dX7_number_41 rfl (lv_at hl 2 rfl) ?_
          refine va_get (D := D) hx hb hts inlX7 hown hK hP 9 (jc_9 cI cL ad σ τ) rfl 3 (by decide) (hts _ kw_3_20) (fun _ h9 => h9) rfl dX7_number_42 ?_
          refine lv_aload_n hx hb dX7_number_45 rfl (lv_at hl 2 rfl) ?_
          refine lv_dup hx hb dX7_number_46 rfl ?_
          refine va_get (D := D) hx hb hts inlX7 hown hK hP 9 (jc_9 cI cL ad σ τ) rfl 1 (by decide) (hts _ kw_13_17) (fun _ h9 => h9) rfl dX7_number_47 ?_
          refine lv_dup_x1 hx hb dX7_number_50 rfl rfl ?_
          refine lv_iconst (v := 1) hx hb dX7_number_51 (by decide) ?_
          have g36 := jrg (rfl : (σ 9 1).toInt = (σ 9 1).toInt)
          refine lv_iadd hx hb dX7_number_52 ?_
          refine lv_topi (fun x37 ex37 => ?_)
          have tx37 : x37.toInt = (σ 9 1).toInt + 1 := (jadd ex37 rfl jz_1 (by omega) (by omega)).trans (by omega)
          refine jput (ty := .int) hx hb hts inlX7 tyX7 tyX7_ok nmX7 hown hK hP hJ hA hS (jc_9 cI cL ad σ τ) rfl (k := 1) (by decide) (Nat.le_of_ble_eq_true rfl) (jp_9_1 cI cL ad σ τ x37) (hts _ kw_13_17) (fun _ h9 => h9) rfl (by decide +kernel) rfl rfl dX7_number_53 (fun σ38 H locs eσ38 hP hS => ?_)
          refine jald hx hb hK hP (jc_10 cI cL ad σ38 τ) (jin rfl (by omega) (by omega)) dX7_number_56 ?_
          refine jtopr (y := (σ 10 (σ 9 1).toNatClampNeg)) (by rw [eσ38, jup_n (by decide)]) ?_
          refine lv_iadd hx hb dX7_number_57 ?_
          refine jtopr (y := (σ 10 (σ 9 1).toNatClampNeg)) (by rw [Int32.zero_add]) ?_
          refine lv_bipush (v := 48) hx hb dX7_number_58 (by decide) ?_
          have g39 := jrg (rfl : (σ 10 (σ 9 1).toNatClampNeg).toInt = (σ 10 (σ 9 1).toNatClampNeg).toInt)
          refine lv_isub hx hb dX7_number_60 ?_
          refine lv_topi (fun x40 ex40 => ?_)
          have tx40 : x40.toInt = (σ 10 (σ 9 1).toNatClampNeg).toInt - 48 := (jsub ex40 rfl jz_48 (by omega) (by omega)).trans (by omega)
          refine lv_istore_n (lv' := [(2, .int x40), (3, .int 0), (0, .ref (ad 9)), (1, .int 4)]) hx hb dX7_number_61 rfl hl (by decide) rfl (fun ls hl => ?_)
          refine lv_iinc (v := 1) (lv' := [(3, .int 1), (2, .int x40), (0, .ref (ad 9)), (1, .int 4)]) hx hb dX7_number_62 hl (k := 1) rfl (by decide) (by decide) rfl (fun ls hl => ?_)
          refine lv_goto (tgt := 22) hx hb dX7_number_65 (by decide) ?_
          refine lv_iload_n hx hb dX7_number_22 rfl (lv_at hl 0 rfl) ?_
          refine lv_iload_n hx hb dX7_number_23 rfl (lv_at hl 3 rfl) ?_
          refine lv_icmp_ge (tgt := 68) hx hb dX7_number_24 (by decide) (fun c => absurd c (by decide)) (fun _ => ?_)
          refine lv_aload_n hx hb dX7_number_27 rfl (lv_at hl 2 rfl) ?_
          have z41 : (σ38 9 0).toInt = (σ 9 0).toInt := by rw [(show σ38 9 0 = (σ 9 0) from (by rw [eσ38, jup_k (by decide)]))]
          have w42 : ∀ k : Nat, k < 80 → 0 ≤ (σ38 10 k).toInt ∧ (σ38 10 k).toInt ≤ 255 := (by rw [eσ38, jup_n (by decide)]; exact w2)
          have w43 : ∀ k : Nat, k < 8 → 0 ≤ (σ38 11 k).toInt ∧ (σ38 11 k).toInt ≤ 3 := (by rw [eσ38, jup_n (by decide)]; exact w3)
          have I44 : jI9 σ38 := ⟨(by omega), w42, w43⟩
          have z45 : (σ38 9 1).toInt = (σ 9 1).toInt + 1 := by rw [(show σ38 9 1 = x37 from (by rw [eσ38]; exact jup_s))]; exact tx37
          refine jcallV (As := []) (rest := []) ⟨hx, hb, hml, hown, hts⟩ hK hP hA hS hZ (c_X7_sign_9 l D cI cL ad zz hJ σ38 τ I44) cw_RX7_35 (jc_9 cI cL ad σ38 τ) rfl ⟨Nat.le_of_ble_eq_true rfl, Nat.le_of_ble_eq_true rfl⟩ rfl rfl rfl hl.1 rfl (Nat.le_of_ble_eq_true rfl) dX7_number_28 ⟨Nat.zero_le _, Nat.zero_le _⟩ (fun r47 σ46 τ46 H locs h46 hP hS => ?_)
          obtain ⟨⟨rfl, rfl⟩, h46⟩ := h46
          rcases h46 with h48 | h49
          · obtain ⟨q52, k50, k51⟩ := h48
            have q53 : r47 = (σ 10 x37.toNatClampNeg) := q52.trans (by rw [(show σ38 9 1 = x37 from (by rw [eσ38]; exact jup_s)), eσ38, jup_n (by decide)])
            have q53e : (σ38 10 (σ38 9 1).toNatClampNeg).toInt = (σ 10 x37.toNatClampNeg).toInt := by rw [← q52, ← q53]
            have q53 := q53.symm
            subst q53
            refine jcallS (As := [.int (σ 10 x37.toNatClampNeg)]) (rest := []) ⟨hx, hb, hml, hown, hts⟩ hK hP hA hS hZ (c_X7_isDigit l D cI cL ad zz hJ σ38 τ (σ 10 x37.toNatClampNeg) ((σ 10 x37.toNatClampNeg).toInt) rfl) cw_RX7_39 ⟨Nat.le_of_ble_eq_true rfl, Nat.le_of_ble_eq_true rfl⟩ rfl rfl rfl hl.1 rfl (Nat.le_of_ble_eq_true rfl) dX7_number_31 ⟨Nat.zero_le _, Nat.zero_le _⟩ (fun r55 σ54 τ54 H locs h54 hP hS => ?_)
            obtain ⟨⟨rfl, rfl⟩, h54⟩ := h54
            rcases h54 with h56 | h57
            · obtain ⟨q59, k58⟩ := h56
              have q59 := q59.symm
              subst q59
              refine lv_if_eq (tgt := 68) hx hb dX7_number_34 (by decide) (fun c => absurd c (by decide)) (fun _ => ?_)
              refine lv_iload_n hx hb dX7_number_37 rfl (lv_at hl 1 rfl) ?_
              refine lv_bipush (v := 10) hx hb dX7_number_38 (by decide) ?_
              refine lv_imul hx hb dX7_number_40 ?_
              refine lv_topi (fun x60 ex60 => ?_)
              have tx60 : x60.toInt = 10 * (σ 10 (σ 9 1).toNatClampNeg).toInt - 480 := (jmul ex60 tx40 jz_10 (by omega) (by omega)).trans (by omega)
              refine lv_aload_n hx hb dX7_number_41 rfl (lv_at hl 2 rfl) ?_
              refine va_get (D := D) hx hb hts inlX7 hown hK hP 9 (jc_9 cI cL ad σ38 τ) rfl 3 (by decide) (hts _ kw_3_20) (fun _ h9 => h9) rfl dX7_number_42 ?_
              refine lv_aload_n hx hb dX7_number_45 rfl (lv_at hl 2 rfl) ?_
              refine lv_dup hx hb dX7_number_46 rfl ?_
              refine va_get (D := D) hx hb hts inlX7 hown hK hP 9 (jc_9 cI cL ad σ38 τ) rfl 1 (by decide) (hts _ kw_13_17) (fun _ h9 => h9) rfl dX7_number_47 ?_
              have m61 : σ38 9 1 = x37 := (by rw [eσ38]; exact jup_s)
              refine jtopr m61 ?_
              refine lv_dup_x1 hx hb dX7_number_50 rfl rfl ?_
              refine lv_iconst (v := 1) hx hb dX7_number_51 (by decide) ?_
              refine lv_iadd hx hb dX7_number_52 ?_
              refine lv_topi (fun x62 ex62 => ?_)
              have tx62 : x62.toInt = (σ 9 1).toInt + 2 := (jadd ex62 tx37 jz_1 (by omega) (by omega)).trans (by omega)
              refine jput (ty := .int) hx hb hts inlX7 tyX7 tyX7_ok nmX7 hown hK hP hJ hA hS (jc_9 cI cL ad σ38 τ) rfl (k := 1) (by decide) (Nat.le_of_ble_eq_true rfl) (jp_9_1 cI cL ad σ38 τ x62) (hts _ kw_13_17) (fun _ h9 => h9) rfl (by decide +kernel) rfl rfl dX7_number_53 (fun σ63 H locs eσ63 hP hS => ?_)
              refine jald hx hb hK hP (jc_10 cI cL ad σ63 τ) (jin tx37 (by omega) (by omega)) dX7_number_56 ?_
              refine jtopr (y := (σ 10 x37.toNatClampNeg)) (by rw [eσ63, jup_n (by decide), eσ38, jup_n (by decide)]) ?_
              have g64 := jrg (rfl : (σ 10 x37.toNatClampNeg).toInt = (σ 10 x37.toNatClampNeg).toInt)
              refine lv_iadd hx hb dX7_number_57 ?_
              refine lv_topi (fun x65 ex65 => ?_)
              have tx65 : x65.toInt = 10 * (σ 10 (σ 9 1).toNatClampNeg).toInt + (σ 10 x37.toNatClampNeg).toInt - 480 := (jadd ex65 tx60 rfl (by omega) (by omega)).trans (by omega)
              refine lv_bipush (v := 48) hx hb dX7_number_58 (by decide) ?_
              refine lv_isub hx hb dX7_number_60 ?_
              refine lv_topi (fun x66 ex66 => ?_)
              have tx66 : x66.toInt = 10 * (σ 10 (σ 9 1).toNatClampNeg).toInt + (σ 10 x37.toNatClampNeg).toInt - 528 := (jsub ex66 tx65 jz_48 (by omega) (by omega)).trans (by omega)
              refine lv_istore_n (lv' := [(2, .int x66), (3, .int 1), (0, .ref (ad 9)), (1, .int 4)]) hx hb dX7_number_61 rfl hl (by decide) rfl (fun ls hl => ?_)
              refine lv_iinc (v := 2) (lv' := [(3, .int 2), (2, .int x66), (0, .ref (ad 9)), (1, .int 4)]) hx hb dX7_number_62 hl (k := 1) rfl (by decide) (by decide) rfl (fun ls hl => ?_)
              refine lv_goto (tgt := 22) hx hb dX7_number_65 (by decide) ?_
              refine lv_iload_n hx hb dX7_number_22 rfl (lv_at hl 0 rfl) ?_
              refine lv_iload_n hx hb dX7_number_23 rfl (lv_at hl 3 rfl) ?_
              refine lv_icmp_ge (tgt := 68) hx hb dX7_number_24 (by decide) (fun c => absurd c (by decide)) (fun _ => ?_)
              refine lv_aload_n hx hb dX7_number_27 rfl (lv_at hl 2 rfl) ?_
              have z67 : (σ63 9 0).toInt = (σ 9 0).toInt := by rw [(show σ63 9 0 = (σ 9 0) from (by rw [eσ63, jup_k (by decide)]; exact (by rw [eσ38, jup_k (by decide)])))]
              have w68 : ∀ k : Nat, k < 80 → 0 ≤ (σ63 10 k).toInt ∧ (σ63 10 k).toInt ≤ 255 := (by rw [eσ63, jup_n (by decide)]; exact w42)
              have w69 : ∀ k : Nat, k < 8 → 0 ≤ (σ63 11 k).toInt ∧ (σ63 11 k).toInt ≤ 3 := (by rw [eσ63, jup_n (by decide)]; exact w43)
              have I70 : jI9 σ63 := ⟨(by omega), w68, w69⟩
              have z71 : (σ63 9 1).toInt = (σ 9 1).toInt + 2 := by rw [(show σ63 9 1 = x62 from (by rw [eσ63]; exact jup_s))]; exact tx62
              refine jcallV (As := []) (rest := []) ⟨hx, hb, hml, hown, hts⟩ hK hP hA hS hZ (c_X7_sign_9 l D cI cL ad zz hJ σ63 τ I70) cw_RX7_35 (jc_9 cI cL ad σ63 τ) rfl ⟨Nat.le_of_ble_eq_true rfl, Nat.le_of_ble_eq_true rfl⟩ rfl rfl rfl hl.1 rfl (Nat.le_of_ble_eq_true rfl) dX7_number_28 ⟨Nat.zero_le _, Nat.zero_le _⟩ (fun r73 σ72 τ72 H locs h72 hP hS => ?_)
              obtain ⟨⟨rfl, rfl⟩, h72⟩ := h72
              rcases h72 with h74 | h75
              · obtain ⟨q78, k76, k77⟩ := h74
                have q79 : r73 = (σ 10 x62.toNatClampNeg) := q78.trans (by rw [(show σ63 9 1 = x62 from (by rw [eσ63]; exact jup_s)), eσ63, jup_n (by decide), eσ38, jup_n (by decide)])
                have q79e : (σ63 10 (σ63 9 1).toNatClampNeg).toInt = (σ 10 x62.toNatClampNeg).toInt := by rw [← q78, ← q79]
                have q79 := q79.symm
                subst q79
                refine jcallS (As := [.int (σ 10 x62.toNatClampNeg)]) (rest := []) ⟨hx, hb, hml, hown, hts⟩ hK hP hA hS hZ (c_X7_isDigit l D cI cL ad zz hJ σ63 τ (σ 10 x62.toNatClampNeg) ((σ 10 x62.toNatClampNeg).toInt) rfl) cw_RX7_39 ⟨Nat.le_of_ble_eq_true rfl, Nat.le_of_ble_eq_true rfl⟩ rfl rfl rfl hl.1 rfl (Nat.le_of_ble_eq_true rfl) dX7_number_31 ⟨Nat.zero_le _, Nat.zero_le _⟩ (fun r81 σ80 τ80 H locs h80 hP hS => ?_)
                obtain ⟨⟨rfl, rfl⟩, h80⟩ := h80
                rcases h80 with h82 | h83
                · obtain ⟨q85, k84⟩ := h82
                  have q85 := q85.symm
                  subst q85
                  refine lv_if_eq (tgt := 68) hx hb dX7_number_34 (by decide) (fun c => absurd c (by decide)) (fun _ => ?_)
                  refine lv_iload_n hx hb dX7_number_37 rfl (lv_at hl 1 rfl) ?_
                  refine lv_bipush (v := 10) hx hb dX7_number_38 (by decide) ?_
                  refine lv_imul hx hb dX7_number_40 ?_
                  refine lv_topi (fun x86 ex86 => ?_)
                  have tx86 : x86.toInt = 100 * (σ 10 (σ 9 1).toNatClampNeg).toInt + 10 * (σ 10 x37.toNatClampNeg).toInt - 5280 := (jmul ex86 tx66 jz_10 (by omega) (by omega)).trans (by omega)
                  refine lv_aload_n hx hb dX7_number_41 rfl (lv_at hl 2 rfl) ?_
                  refine va_get (D := D) hx hb hts inlX7 hown hK hP 9 (jc_9 cI cL ad σ63 τ) rfl 3 (by decide) (hts _ kw_3_20) (fun _ h9 => h9) rfl dX7_number_42 ?_
                  refine lv_aload_n hx hb dX7_number_45 rfl (lv_at hl 2 rfl) ?_
                  refine lv_dup hx hb dX7_number_46 rfl ?_
                  refine va_get (D := D) hx hb hts inlX7 hown hK hP 9 (jc_9 cI cL ad σ63 τ) rfl 1 (by decide) (hts _ kw_13_17) (fun _ h9 => h9) rfl dX7_number_47 ?_
                  have m87 : σ63 9 1 = x62 := (by rw [eσ63]; exact jup_s)
                  refine jtopr m87 ?_
                  refine lv_dup_x1 hx hb dX7_number_50 rfl rfl ?_
                  refine lv_iconst (v := 1) hx hb dX7_number_51 (by decide) ?_
                  refine lv_iadd hx hb dX7_number_52 ?_
                  refine lv_topi (fun x88 ex88 => ?_)
                  have tx88 : x88.toInt = (σ 9 1).toInt + 3 := (jadd ex88 tx62 jz_1 (by omega) (by omega)).trans (by omega)
                  refine jput (ty := .int) hx hb hts inlX7 tyX7 tyX7_ok nmX7 hown hK hP hJ hA hS (jc_9 cI cL ad σ63 τ) rfl (k := 1) (by decide) (Nat.le_of_ble_eq_true rfl) (jp_9_1 cI cL ad σ63 τ x88) (hts _ kw_13_17) (fun _ h9 => h9) rfl (by decide +kernel) rfl rfl dX7_number_53 (fun σ89 H locs eσ89 hP hS => ?_)
                  refine jald hx hb hK hP (jc_10 cI cL ad σ89 τ) (jin tx62 (by omega) (by omega)) dX7_number_56 ?_
                  refine jtopr (y := (σ 10 x62.toNatClampNeg)) (by rw [eσ89, jup_n (by decide), eσ63, jup_n (by decide), eσ38, jup_n (by decide)]) ?_
                  have g90 := jrg (rfl : (σ 10 x62.toNatClampNeg).toInt = (σ 10 x62.toNatClampNeg).toInt)
                  refine lv_iadd hx hb dX7_number_57 ?_
                  refine lv_topi (fun x91 ex91 => ?_)
                  have tx91 : x91.toInt = 100 * (σ 10 (σ 9 1).toNatClampNeg).toInt + 10 * (σ 10 x37.toNatClampNeg).toInt + (σ 10 x62.toNatClampNeg).toInt - 5280 := (jadd ex91 tx86 rfl (by omega) (by omega)).trans (by omega)
                  refine lv_bipush (v := 48) hx hb dX7_number_58 (by decide) ?_
                  refine lv_isub hx hb dX7_number_60 ?_
                  refine lv_topi (fun x92 ex92 => ?_)
                  have tx92 : x92.toInt = 100 * (σ 10 (σ 9 1).toNatClampNeg).toInt + 10 * (σ 10 x37.toNatClampNeg).toInt + (σ 10 x62.toNatClampNeg).toInt - 5328 := (jsub ex92 tx91 jz_48 (by omega) (by omega)).trans (by omega)
                  refine lv_istore_n (lv' := [(2, .int x92), (3, .int 2), (0, .ref (ad 9)), (1, .int 4)]) hx hb dX7_number_61 rfl hl (by decide) rfl (fun ls hl => ?_)
                  refine lv_iinc (v := 3) (lv' := [(3, .int 3), (2, .int x92), (0, .ref (ad 9)), (1, .int 4)]) hx hb dX7_number_62 hl (k := 1) rfl (by decide) (by decide) rfl (fun ls hl => ?_)
                  refine lv_goto (tgt := 22) hx hb dX7_number_65 (by decide) ?_
                  refine lv_iload_n hx hb dX7_number_22 rfl (lv_at hl 0 rfl) ?_
                  refine lv_iload_n hx hb dX7_number_23 rfl (lv_at hl 3 rfl) ?_
                  refine lv_icmp_ge (tgt := 68) hx hb dX7_number_24 (by decide) (fun c => absurd c (by decide)) (fun _ => ?_)
                  refine lv_aload_n hx hb dX7_number_27 rfl (lv_at hl 2 rfl) ?_
                  have z93 : (σ89 9 0).toInt = (σ 9 0).toInt := by rw [(show σ89 9 0 = (σ 9 0) from (by rw [eσ89, jup_k (by decide)]; exact (by rw [eσ63, jup_k (by decide)]; exact (by rw [eσ38, jup_k (by decide)]))))]
                  have w94 : ∀ k : Nat, k < 80 → 0 ≤ (σ89 10 k).toInt ∧ (σ89 10 k).toInt ≤ 255 := (by rw [eσ89, jup_n (by decide)]; exact w68)
                  have w95 : ∀ k : Nat, k < 8 → 0 ≤ (σ89 11 k).toInt ∧ (σ89 11 k).toInt ≤ 3 := (by rw [eσ89, jup_n (by decide)]; exact w69)
                  have I96 : jI9 σ89 := ⟨(by omega), w94, w95⟩
                  have z97 : (σ89 9 1).toInt = (σ 9 1).toInt + 3 := by rw [(show σ89 9 1 = x88 from (by rw [eσ89]; exact jup_s))]; exact tx88
                  refine jcallV (As := []) (rest := []) ⟨hx, hb, hml, hown, hts⟩ hK hP hA hS hZ (c_X7_sign_9 l D cI cL ad zz hJ σ89 τ I96) cw_RX7_35 (jc_9 cI cL ad σ89 τ) rfl ⟨Nat.le_of_ble_eq_true rfl, Nat.le_of_ble_eq_true rfl⟩ rfl rfl rfl hl.1 rfl (Nat.le_of_ble_eq_true rfl) dX7_number_28 ⟨Nat.zero_le _, Nat.zero_le _⟩ (fun r99 σ98 τ98 H locs h98 hP hS => ?_)
                  obtain ⟨⟨rfl, rfl⟩, h98⟩ := h98
                  rcases h98 with h100 | h101
                  · obtain ⟨q104, k102, k103⟩ := h100
                    have q105 : r99 = (σ 10 x88.toNatClampNeg) := q104.trans (by rw [(show σ89 9 1 = x88 from (by rw [eσ89]; exact jup_s)), eσ89, jup_n (by decide), eσ63, jup_n (by decide), eσ38, jup_n (by decide)])
                    have q105e : (σ89 10 (σ89 9 1).toNatClampNeg).toInt = (σ 10 x88.toNatClampNeg).toInt := by rw [← q104, ← q105]
                    have q105 := q105.symm
                    subst q105
                    refine jcallS (As := [.int (σ 10 x88.toNatClampNeg)]) (rest := []) ⟨hx, hb, hml, hown, hts⟩ hK hP hA hS hZ (c_X7_isDigit l D cI cL ad zz hJ σ89 τ (σ 10 x88.toNatClampNeg) ((σ 10 x88.toNatClampNeg).toInt) rfl) cw_RX7_39 ⟨Nat.le_of_ble_eq_true rfl, Nat.le_of_ble_eq_true rfl⟩ rfl rfl rfl hl.1 rfl (Nat.le_of_ble_eq_true rfl) dX7_number_31 ⟨Nat.zero_le _, Nat.zero_le _⟩ (fun r107 σ106 τ106 H locs h106 hP hS => ?_)
                    obtain ⟨⟨rfl, rfl⟩, h106⟩ := h106
                    rcases h106 with h108 | h109
                    · obtain ⟨q111, k110⟩ := h108
                      have q111 := q111.symm
                      subst q111
                      refine lv_if_eq (tgt := 68) hx hb dX7_number_34 (by decide) (fun c => absurd c (by decide)) (fun _ => ?_)
                      refine lv_iload_n hx hb dX7_number_37 rfl (lv_at hl 1 rfl) ?_
                      refine lv_bipush (v := 10) hx hb dX7_number_38 (by decide) ?_
                      refine lv_imul hx hb dX7_number_40 ?_
                      refine lv_topi (fun x112 ex112 => ?_)
                      have tx112 : x112.toInt = 1000 * (σ 10 (σ 9 1).toNatClampNeg).toInt + 100 * (σ 10 x37.toNatClampNeg).toInt + 10 * (σ 10 x62.toNatClampNeg).toInt - 53280 := (jmul ex112 tx92 jz_10 (by omega) (by omega)).trans (by omega)
                      refine lv_aload_n hx hb dX7_number_41 rfl (lv_at hl 2 rfl) ?_
                      refine va_get (D := D) hx hb hts inlX7 hown hK hP 9 (jc_9 cI cL ad σ89 τ) rfl 3 (by decide) (hts _ kw_3_20) (fun _ h9 => h9) rfl dX7_number_42 ?_
                      refine lv_aload_n hx hb dX7_number_45 rfl (lv_at hl 2 rfl) ?_
                      refine lv_dup hx hb dX7_number_46 rfl ?_
                      refine va_get (D := D) hx hb hts inlX7 hown hK hP 9 (jc_9 cI cL ad σ89 τ) rfl 1 (by decide) (hts _ kw_13_17) (fun _ h9 => h9) rfl dX7_number_47 ?_
                      have m113 : σ89 9 1 = x88 := (by rw [eσ89]; exact jup_s)
                      refine jtopr m113 ?_
                      refine lv_dup_x1 hx hb dX7_number_50 rfl rfl ?_
                      refine lv_iconst (v := 1) hx hb dX7_number_51 (by decide) ?_
                      refine lv_iadd hx hb dX7_number_52 ?_
                      refine lv_topi (fun x114 ex114 => ?_)
                      have tx114 : x114.toInt = (σ 9 1).toInt + 4 := (jadd ex114 tx88 jz_1 (by omega) (by omega)).trans (by omega)
                      refine jput (ty := .int) hx hb hts inlX7 tyX7 tyX7_ok nmX7 hown hK hP hJ hA hS (jc_9 cI cL ad σ89 τ) rfl (k := 1) (by decide) (Nat.le_of_ble_eq_true rfl) (jp_9_1 cI cL ad σ89 τ x114) (hts _ kw_13_17) (fun _ h9 => h9) rfl (by decide +kernel) rfl rfl dX7_number_53 (fun σ115 H locs eσ115 hP hS => ?_)
                      refine jald hx hb hK hP (jc_10 cI cL ad σ115 τ) (jin tx88 (by omega) (by omega)) dX7_number_56 ?_
                      refine jtopr (y := (σ 10 x88.toNatClampNeg)) (by rw [eσ115, jup_n (by decide), eσ89, jup_n (by decide), eσ63, jup_n (by decide), eσ38, jup_n (by decide)]) ?_
                      have g116 := jrg (rfl : (σ 10 x88.toNatClampNeg).toInt = (σ 10 x88.toNatClampNeg).toInt)
                      refine lv_iadd hx hb dX7_number_57 ?_
                      refine lv_topi (fun x117 ex117 => ?_)
                      have tx117 : x117.toInt = 1000 * (σ 10 (σ 9 1).toNatClampNeg).toInt + 100 * (σ 10 x37.toNatClampNeg).toInt + 10 * (σ 10 x62.toNatClampNeg).toInt + (σ 10 x88.toNatClampNeg).toInt - 53280 := (jadd ex117 tx112 rfl (by omega) (by omega)).trans (by omega)
                      refine lv_bipush (v := 48) hx hb dX7_number_58 (by decide) ?_
                      refine lv_isub hx hb dX7_number_60 ?_
                      refine lv_topi (fun x118 ex118 => ?_)
                      have tx118 : x118.toInt = 1000 * (σ 10 (σ 9 1).toNatClampNeg).toInt + 100 * (σ 10 x37.toNatClampNeg).toInt + 10 * (σ 10 x62.toNatClampNeg).toInt + (σ 10 x88.toNatClampNeg).toInt - 53328 := (jsub ex118 tx117 jz_48 (by omega) (by omega)).trans (by omega)
                      refine lv_istore_n (lv' := [(2, .int x118), (3, .int 3), (0, .ref (ad 9)), (1, .int 4)]) hx hb dX7_number_61 rfl hl (by decide) rfl (fun ls hl => ?_)
                      refine lv_iinc (v := 4) (lv' := [(3, .int 4), (2, .int x118), (0, .ref (ad 9)), (1, .int 4)]) hx hb dX7_number_62 hl (k := 1) rfl (by decide) (by decide) rfl (fun ls hl => ?_)
                      refine lv_goto (tgt := 22) hx hb dX7_number_65 (by decide) ?_
                      refine lv_iload_n hx hb dX7_number_22 rfl (lv_at hl 0 rfl) ?_
                      refine lv_iload_n hx hb dX7_number_23 rfl (lv_at hl 3 rfl) ?_
                      refine lv_icmp_ge (tgt := 68) hx hb dX7_number_24 (by decide) (fun _ => ?_) (fun c => absurd (by decide) c)
                      refine lv_iload_n hx hb dX7_number_68 rfl (lv_at hl 1 rfl) ?_
                      have z119 : (σ115 9 0).toInt = (σ 9 0).toInt := by rw [(show σ115 9 0 = (σ 9 0) from (by rw [eσ115, jup_k (by decide)]; exact (by rw [eσ89, jup_k (by decide)]; exact (by rw [eσ63, jup_k (by decide)]; exact (by rw [eσ38, jup_k (by decide)])))))]
                      have w120 : ∀ k : Nat, k < 80 → 0 ≤ (σ115 10 k).toInt ∧ (σ115 10 k).toInt ≤ 255 := (by rw [eσ115, jup_n (by decide)]; exact w94)
                      have w121 : ∀ k : Nat, k < 8 → 0 ≤ (σ115 11 k).toInt ∧ (σ115 11 k).toInt ≤ 3 := (by rw [eσ115, jup_n (by decide)]; exact w95)
                      have I122 : jI9 σ115 := ⟨(by omega), w120, w121⟩
                      have z123 : (σ115 9 1).toInt = (σ 9 1).toInt + 4 := by rw [(show σ115 9 1 = x114 from (by rw [eσ115]; exact jup_s))]; exact tx114
                      have I124 : jI91 σ115 := ⟨(by omega), (by omega)⟩
                      have z125 : (σ115 9 2).toInt = (σ 9 2).toInt := by rw [(show σ115 9 2 = (σ 9 2) from (by rw [eσ115, jup_k (by decide)]; exact (by rw [eσ89, jup_k (by decide)]; exact (by rw [eσ63, jup_k (by decide)]; exact (by rw [eσ38, jup_k (by decide)])))))]
                      have I126 : jI92 σ115 := (show (-1) ≤ (σ115 9 2).toInt by omega)
                      exact hret x118 σ115 τ _ _ _ _ rfl ⟨rfl, (fun i hi => by rw [eσ115, jup_n (by omega), eσ89, jup_n (by omega), eσ63, jup_n (by omega), eσ38, jup_n (by omega)]), (fun k hk => by rw [eσ115, jup_k (by omega), eσ89, jup_k (by omega), eσ63, jup_k (by omega), eσ38, jup_k (by omega)]), I122, I124, I126, (by omega), ⟨trivial, (by have h9 := tx118; omega)⟩⟩ hP hS dX7_number_69
                    · obtain ⟨q128, k127⟩ := h109
                      have q128 := q128.symm
                      subst q128
                      refine lv_if_eq (tgt := 68) hx hb dX7_number_34 (by decide) (fun _ => ?_) (fun c => absurd (by decide) c)
                      refine lv_iload_n hx hb dX7_number_68 rfl (lv_at hl 1 rfl) ?_
                      have I129 : jI91 σ89 := ⟨(by omega), (by omega)⟩
                      have z130 : (σ89 9 2).toInt = (σ 9 2).toInt := by rw [(show σ89 9 2 = (σ 9 2) from (by rw [eσ89, jup_k (by decide)]; exact (by rw [eσ63, jup_k (by decide)]; exact (by rw [eσ38, jup_k (by decide)]))))]
                      have I131 : jI92 σ89 := (show (-1) ≤ (σ89 9 2).toInt by omega)
                      exact hret x92 σ89 τ _ _ _ _ rfl ⟨rfl, (fun i hi => by rw [eσ89, jup_n (by omega), eσ63, jup_n (by omega), eσ38, jup_n (by omega)]), (fun k hk => by rw [eσ89, jup_k (by omega), eσ63, jup_k (by omega), eσ38, jup_k (by omega)]), I96, I129, I131, (by omega), ⟨trivial, (by have h9 := tx92; omega)⟩⟩ hP hS dX7_number_69
                  · obtain ⟨q133, k132⟩ := h101
                    have q133 := q133.symm
                    subst q133
                    refine jcallS (As := [.int (-1)]) (rest := []) ⟨hx, hb, hml, hown, hts⟩ hK hP hA hS hZ (c_X7_isDigit l D cI cL ad zz hJ σ89 τ (-1) ((-1)) jz_m1) cw_RX7_39 ⟨Nat.le_of_ble_eq_true rfl, Nat.le_of_ble_eq_true rfl⟩ rfl rfl rfl hl.1 rfl (Nat.le_of_ble_eq_true rfl) dX7_number_31 ⟨Nat.zero_le _, Nat.zero_le _⟩ (fun r135 σ134 τ134 H locs h134 hP hS => ?_)
                    obtain ⟨⟨rfl, rfl⟩, h134⟩ := h134
                    rcases h134 with h136 | h137
                    · obtain ⟨q139, k138⟩ := h136
                      exact absurd (by omega : False) id
                    · obtain ⟨q141, k140⟩ := h137
                      have q141 := q141.symm
                      subst q141
                      refine lv_if_eq (tgt := 68) hx hb dX7_number_34 (by decide) (fun _ => ?_) (fun c => absurd (by decide) c)
                      refine lv_iload_n hx hb dX7_number_68 rfl (lv_at hl 1 rfl) ?_
                      have I142 : jI91 σ89 := ⟨(by omega), (by omega)⟩
                      have z143 : (σ89 9 2).toInt = (σ 9 2).toInt := by rw [(show σ89 9 2 = (σ 9 2) from (by rw [eσ89, jup_k (by decide)]; exact (by rw [eσ63, jup_k (by decide)]; exact (by rw [eσ38, jup_k (by decide)]))))]
                      have I144 : jI92 σ89 := (show (-1) ≤ (σ89 9 2).toInt by omega)
                      exact hret x92 σ89 τ _ _ _ _ rfl ⟨rfl, (fun i hi => by rw [eσ89, jup_n (by omega), eσ63, jup_n (by omega), eσ38, jup_n (by omega)]), (fun k hk => by rw [eσ89, jup_k (by omega), eσ63, jup_k (by omega), eσ38, jup_k (by omega)]), I96, I142, I144, (by omega), ⟨trivial, (by have h9 := tx92; omega)⟩⟩ hP hS dX7_number_69
                · obtain ⟨q146, k145⟩ := h83
                  have q146 := q146.symm
                  subst q146
                  refine lv_if_eq (tgt := 68) hx hb dX7_number_34 (by decide) (fun _ => ?_) (fun c => absurd (by decide) c)
                  refine lv_iload_n hx hb dX7_number_68 rfl (lv_at hl 1 rfl) ?_
                  have I147 : jI91 σ63 := ⟨(by omega), (by omega)⟩
                  have z148 : (σ63 9 2).toInt = (σ 9 2).toInt := by rw [(show σ63 9 2 = (σ 9 2) from (by rw [eσ63, jup_k (by decide)]; exact (by rw [eσ38, jup_k (by decide)])))]
                  have I149 : jI92 σ63 := (show (-1) ≤ (σ63 9 2).toInt by omega)
                  exact hret x66 σ63 τ _ _ _ _ rfl ⟨rfl, (fun i hi => by rw [eσ63, jup_n (by omega), eσ38, jup_n (by omega)]), (fun k hk => by rw [eσ63, jup_k (by omega), eσ38, jup_k (by omega)]), I70, I147, I149, (by omega), ⟨trivial, (by have h9 := tx66; omega)⟩⟩ hP hS dX7_number_69
              · obtain ⟨q151, k150⟩ := h75
                have q151 := q151.symm
                subst q151
                refine jcallS (As := [.int (-1)]) (rest := []) ⟨hx, hb, hml, hown, hts⟩ hK hP hA hS hZ (c_X7_isDigit l D cI cL ad zz hJ σ63 τ (-1) ((-1)) jz_m1) cw_RX7_39 ⟨Nat.le_of_ble_eq_true rfl, Nat.le_of_ble_eq_true rfl⟩ rfl rfl rfl hl.1 rfl (Nat.le_of_ble_eq_true rfl) dX7_number_31 ⟨Nat.zero_le _, Nat.zero_le _⟩ (fun r153 σ152 τ152 H locs h152 hP hS => ?_)
                obtain ⟨⟨rfl, rfl⟩, h152⟩ := h152
                rcases h152 with h154 | h155
                · obtain ⟨q157, k156⟩ := h154
                  exact absurd (by omega : False) id
                · obtain ⟨q159, k158⟩ := h155
                  have q159 := q159.symm
                  subst q159
                  refine lv_if_eq (tgt := 68) hx hb dX7_number_34 (by decide) (fun _ => ?_) (fun c => absurd (by decide) c)
                  refine lv_iload_n hx hb dX7_number_68 rfl (lv_at hl 1 rfl) ?_
                  have I160 : jI91 σ63 := ⟨(by omega), (by omega)⟩
                  have z161 : (σ63 9 2).toInt = (σ 9 2).toInt := by rw [(show σ63 9 2 = (σ 9 2) from (by rw [eσ63, jup_k (by decide)]; exact (by rw [eσ38, jup_k (by decide)])))]
                  have I162 : jI92 σ63 := (show (-1) ≤ (σ63 9 2).toInt by omega)
                  exact hret x66 σ63 τ _ _ _ _ rfl ⟨rfl, (fun i hi => by rw [eσ63, jup_n (by omega), eσ38, jup_n (by omega)]), (fun k hk => by rw [eσ63, jup_k (by omega), eσ38, jup_k (by omega)]), I70, I160, I162, (by omega), ⟨trivial, (by have h9 := tx66; omega)⟩⟩ hP hS dX7_number_69
            · obtain ⟨q164, k163⟩ := h57
              have q164 := q164.symm
              subst q164
              refine lv_if_eq (tgt := 68) hx hb dX7_number_34 (by decide) (fun _ => ?_) (fun c => absurd (by decide) c)
              refine lv_iload_n hx hb dX7_number_68 rfl (lv_at hl 1 rfl) ?_
              have I165 : jI91 σ38 := ⟨(by omega), (by omega)⟩
              have z166 : (σ38 9 2).toInt = (σ 9 2).toInt := by rw [(show σ38 9 2 = (σ 9 2) from (by rw [eσ38, jup_k (by decide)]))]
              have I167 : jI92 σ38 := (show (-1) ≤ (σ38 9 2).toInt by omega)
              exact hret x40 σ38 τ _ _ _ _ rfl ⟨rfl, (fun i hi => by rw [eσ38, jup_n (by omega)]), (fun k hk => by rw [eσ38, jup_k (by omega)]), I44, I165, I167, (by omega), ⟨trivial, (by have h9 := tx40; omega)⟩⟩ hP hS dX7_number_69
          · obtain ⟨q169, k168⟩ := h49
            have q169 := q169.symm
            subst q169
            refine jcallS (As := [.int (-1)]) (rest := []) ⟨hx, hb, hml, hown, hts⟩ hK hP hA hS hZ (c_X7_isDigit l D cI cL ad zz hJ σ38 τ (-1) ((-1)) jz_m1) cw_RX7_39 ⟨Nat.le_of_ble_eq_true rfl, Nat.le_of_ble_eq_true rfl⟩ rfl rfl rfl hl.1 rfl (Nat.le_of_ble_eq_true rfl) dX7_number_31 ⟨Nat.zero_le _, Nat.zero_le _⟩ (fun r171 σ170 τ170 H locs h170 hP hS => ?_)
            obtain ⟨⟨rfl, rfl⟩, h170⟩ := h170
            rcases h170 with h172 | h173
            · obtain ⟨q175, k174⟩ := h172
              exact absurd (by omega : False) id
            · obtain ⟨q177, k176⟩ := h173
              have q177 := q177.symm
              subst q177
              refine lv_if_eq (tgt := 68) hx hb dX7_number_34 (by decide) (fun _ => ?_) (fun c => absurd (by decide) c)
              refine lv_iload_n hx hb dX7_number_68 rfl (lv_at hl 1 rfl) ?_
              have I178 : jI91 σ38 := ⟨(by omega), (by omega)⟩
              have z179 : (σ38 9 2).toInt = (σ 9 2).toInt := by rw [(show σ38 9 2 = (σ 9 2) from (by rw [eσ38, jup_k (by decide)]))]
              have I180 : jI92 σ38 := (show (-1) ≤ (σ38 9 2).toInt by omega)
              exact hret x40 σ38 τ _ _ _ _ rfl ⟨rfl, (fun i hi => by rw [eσ38, jup_n (by omega)]), (fun k hk => by rw [eσ38, jup_k (by omega)]), I44, I178, I180, (by omega), ⟨trivial, (by have h9 := tx40; omega)⟩⟩ hP hS dX7_number_69
        · obtain ⟨q182, k181⟩ := h33
          exact absurd (by omega : False) id
      · obtain ⟨q184, k183⟩ := h25
        exact absurd (by omega : False) id
    · obtain ⟨q186, k185⟩ := h19
      have q186 := q186.symm
      subst q186
      refine lv_if_ne (tgt := 18) hx hb dX7_number_7 (by decide) (fun c => absurd (by decide) c) (fun _ => ?_)
      refine lv_aload_n hx hb dX7_number_10 rfl (lv_at hl 0 rfl) ?_
      refine lv_aload_n hx hb dX7_number_11 rfl (lv_at hl 0 rfl) ?_
      refine va_get (D := D) hx hb hts inlX7 hown hK hP 9 (jc_9 cI cL ad σ τ) rfl 1 (by decide) (hts _ kw_13_17) (fun _ h9 => h9) rfl dX7_number_12 ?_
      have I187 : jI92 σ := (show (-1) ≤ (σ 9 2).toInt by omega)
      refine jcallVv (As := [.int (σ 9 1)]) (rest := []) ⟨hx, hb, hml, hown, hts⟩ hK hP hA hS hZ (c_X7_fail_9 l D cI cL ad zz hJ σ τ (σ 9 1) ((σ 9 1).toInt) rfl I187 (by omega)) cw_RX7_43 (jc_9 cI cL ad σ τ) rfl ⟨Nat.le_of_ble_eq_true rfl, Nat.le_of_ble_eq_true rfl⟩ rfl rfl rfl hl.1 rfl (Nat.le_of_ble_eq_true rfl) dX7_number_15 ⟨Nat.zero_le _, Nat.zero_le _⟩ (fun σ188 τ188 H locs h188 hP hS => ?_)
      obtain ⟨rfl, f190, f191, h188⟩ := h188
      obtain ⟨k192, h188⟩ := h188
      refine lv_iconst (v := 0) hx hb dX7_number_18 (by decide) ?_
      refine lv_istore_n (lv' := [(2, .int 0), (0, .ref (ad 9)), (1, .int 4)]) hx hb dX7_number_19 rfl hl (by decide) rfl (fun ls hl => ?_)
      refine lv_iconst (v := 0) hx hb dX7_number_20 (by decide) ?_
      refine lv_istore_n (lv' := [(3, .int 0), (2, .int 0), (0, .ref (ad 9)), (1, .int 4)]) hx hb dX7_number_21 rfl hl (by decide) rfl (fun ls hl => ?_)
      refine lv_iload_n hx hb dX7_number_22 rfl (lv_at hl 0 rfl) ?_
      refine lv_iload_n hx hb dX7_number_23 rfl (lv_at hl 3 rfl) ?_
      refine lv_icmp_ge (tgt := 68) hx hb dX7_number_24 (by decide) (fun c => absurd c (by decide)) (fun _ => ?_)
      refine lv_aload_n hx hb dX7_number_27 rfl (lv_at hl 2 rfl) ?_
      have z193 : (σ188 9 0).toInt = (σ 9 0).toInt := by rw [(show σ188 9 0 = (σ 9 0) from (by rw [f191 0 (by omega)]))]
      have w194 : ∀ k : Nat, k < 80 → 0 ≤ (σ188 10 k).toInt ∧ (σ188 10 k).toInt ≤ 255 := (by rw [f190 10 (by omega)]; exact w2)
      have w195 : ∀ k : Nat, k < 8 → 0 ≤ (σ188 11 k).toInt ∧ (σ188 11 k).toInt ≤ 3 := (by rw [f190 11 (by omega)]; exact w3)
      have I196 : jI9 σ188 := ⟨(by omega), w194, w195⟩
      have z197 : (σ188 9 1).toInt = (σ 9 1).toInt := by rw [(show σ188 9 1 = (σ 9 1) from (by rw [f191 1 (by omega)]))]
      refine jcallV (As := []) (rest := []) ⟨hx, hb, hml, hown, hts⟩ hK hP hA hS hZ (c_X7_sign_9 l D cI cL ad zz hJ σ188 τ I196) cw_RX7_35 (jc_9 cI cL ad σ188 τ) rfl ⟨Nat.le_of_ble_eq_true rfl, Nat.le_of_ble_eq_true rfl⟩ rfl rfl rfl hl.1 rfl (Nat.le_of_ble_eq_true rfl) dX7_number_28 ⟨Nat.zero_le _, Nat.zero_le _⟩ (fun r199 σ198 τ198 H locs h198 hP hS => ?_)
      obtain ⟨⟨rfl, rfl⟩, h198⟩ := h198
      rcases h198 with h200 | h201
      · obtain ⟨q204, k202, k203⟩ := h200
        have q205 : r199 = (σ 10 (σ 9 1).toNatClampNeg) := q204.trans (by rw [(show σ188 9 1 = (σ 9 1) from (by rw [f191 1 (by omega)])), f190 10 (by omega)])
        have q205e : (σ188 10 (σ188 9 1).toNatClampNeg).toInt = (σ 10 (σ 9 1).toNatClampNeg).toInt := by rw [← q204, ← q205]
        have q205 := q205.symm
        subst q205
        refine jcallS (As := [.int (σ 10 (σ 9 1).toNatClampNeg)]) (rest := []) ⟨hx, hb, hml, hown, hts⟩ hK hP hA hS hZ (c_X7_isDigit l D cI cL ad zz hJ σ188 τ (σ 10 (σ 9 1).toNatClampNeg) ((σ 10 (σ 9 1).toNatClampNeg).toInt) rfl) cw_RX7_39 ⟨Nat.le_of_ble_eq_true rfl, Nat.le_of_ble_eq_true rfl⟩ rfl rfl rfl hl.1 rfl (Nat.le_of_ble_eq_true rfl) dX7_number_31 ⟨Nat.zero_le _, Nat.zero_le _⟩ (fun r207 σ206 τ206 H locs h206 hP hS => ?_)
        obtain ⟨⟨rfl, rfl⟩, h206⟩ := h206
        rcases h206 with h208 | h209
        · obtain ⟨q211, k210⟩ := h208
          exact absurd (by omega : False) id
        · obtain ⟨q213, k212⟩ := h209
          have q213 := q213.symm
          subst q213
          refine lv_if_eq (tgt := 68) hx hb dX7_number_34 (by decide) (fun _ => ?_) (fun c => absurd (by decide) c)
          refine lv_iload_n hx hb dX7_number_68 rfl (lv_at hl 1 rfl) ?_
          have I214 : jI91 σ188 := ⟨(by omega), (by omega)⟩
          have I215 : jI92 σ188 := (show (-1) ≤ (σ188 9 2).toInt by omega)
          exact hret 0 σ188 τ _ _ _ _ rfl ⟨rfl, (fun i hi => by rw [f190 i (by omega)]), (fun k hk => by rw [f191 k (by omega)]), I196, I214, I215, (by omega), ⟨trivial, (by have h9 := jz_0; omega)⟩⟩ hP hS dX7_number_69
      · obtain ⟨q217, k216⟩ := h201
        have q217 := q217.symm
        subst q217
        refine jcallS (As := [.int (-1)]) (rest := []) ⟨hx, hb, hml, hown, hts⟩ hK hP hA hS hZ (c_X7_isDigit l D cI cL ad zz hJ σ188 τ (-1) ((-1)) jz_m1) cw_RX7_39 ⟨Nat.le_of_ble_eq_true rfl, Nat.le_of_ble_eq_true rfl⟩ rfl rfl rfl hl.1 rfl (Nat.le_of_ble_eq_true rfl) dX7_number_31 ⟨Nat.zero_le _, Nat.zero_le _⟩ (fun r219 σ218 τ218 H locs h218 hP hS => ?_)
        obtain ⟨⟨rfl, rfl⟩, h218⟩ := h218
        rcases h218 with h220 | h221
        · obtain ⟨q223, k222⟩ := h220
          exact absurd (by omega : False) id
        · obtain ⟨q225, k224⟩ := h221
          have q225 := q225.symm
          subst q225
          refine lv_if_eq (tgt := 68) hx hb dX7_number_34 (by decide) (fun _ => ?_) (fun c => absurd (by decide) c)
          refine lv_iload_n hx hb dX7_number_68 rfl (lv_at hl 1 rfl) ?_
          have I226 : jI91 σ188 := ⟨(by omega), (by omega)⟩
          have I227 : jI92 σ188 := (show (-1) ≤ (σ188 9 2).toInt by omega)
          exact hret 0 σ188 τ _ _ _ _ rfl ⟨rfl, (fun i hi => by rw [f190 i (by omega)]), (fun k hk => by rw [f191 k (by omega)]), I196, I226, I227, (by omega), ⟨trivial, (by have h9 := jz_0; omega)⟩⟩ hP hS dX7_number_69
  · obtain ⟨q229, k228⟩ := h11
    have q229 := q229.symm
    subst q229
    refine jcallS (As := [.int (-1)]) (rest := []) ⟨hx, hb, hml, hown, hts⟩ hK hP hA hS hZ (c_X7_isDigit l D cI cL ad zz hJ σ τ (-1) ((-1)) jz_m1) cw_RX7_39 ⟨Nat.le_of_ble_eq_true rfl, Nat.le_of_ble_eq_true rfl⟩ rfl rfl rfl hl.1 rfl (Nat.le_of_ble_eq_true rfl) dX7_number_4 ⟨Nat.zero_le _, Nat.zero_le _⟩ (fun r231 σ230 τ230 H locs h230 hP hS => ?_)
    obtain ⟨⟨rfl, rfl⟩, h230⟩ := h230
    rcases h230 with h232 | h233
    · obtain ⟨q235, k234⟩ := h232
      exact absurd (by omega : False) id
    · obtain ⟨q237, k236⟩ := h233
      have q237 := q237.symm
      subst q237
      refine lv_if_ne (tgt := 18) hx hb dX7_number_7 (by decide) (fun c => absurd (by decide) c) (fun _ => ?_)
      refine lv_aload_n hx hb dX7_number_10 rfl (lv_at hl 0 rfl) ?_
      refine lv_aload_n hx hb dX7_number_11 rfl (lv_at hl 0 rfl) ?_
      refine va_get (D := D) hx hb hts inlX7 hown hK hP 9 (jc_9 cI cL ad σ τ) rfl 1 (by decide) (hts _ kw_13_17) (fun _ h9 => h9) rfl dX7_number_12 ?_
      have I238 : jI92 σ := (show (-1) ≤ (σ 9 2).toInt by omega)
      refine jcallVv (As := [.int (σ 9 1)]) (rest := []) ⟨hx, hb, hml, hown, hts⟩ hK hP hA hS hZ (c_X7_fail_9 l D cI cL ad zz hJ σ τ (σ 9 1) ((σ 9 1).toInt) rfl I238 (by omega)) cw_RX7_43 (jc_9 cI cL ad σ τ) rfl ⟨Nat.le_of_ble_eq_true rfl, Nat.le_of_ble_eq_true rfl⟩ rfl rfl rfl hl.1 rfl (Nat.le_of_ble_eq_true rfl) dX7_number_15 ⟨Nat.zero_le _, Nat.zero_le _⟩ (fun σ239 τ239 H locs h239 hP hS => ?_)
      obtain ⟨rfl, f241, f242, h239⟩ := h239
      obtain ⟨k243, h239⟩ := h239
      refine lv_iconst (v := 0) hx hb dX7_number_18 (by decide) ?_
      refine lv_istore_n (lv' := [(2, .int 0), (0, .ref (ad 9)), (1, .int 4)]) hx hb dX7_number_19 rfl hl (by decide) rfl (fun ls hl => ?_)
      refine lv_iconst (v := 0) hx hb dX7_number_20 (by decide) ?_
      refine lv_istore_n (lv' := [(3, .int 0), (2, .int 0), (0, .ref (ad 9)), (1, .int 4)]) hx hb dX7_number_21 rfl hl (by decide) rfl (fun ls hl => ?_)
      refine lv_iload_n hx hb dX7_number_22 rfl (lv_at hl 0 rfl) ?_
      refine lv_iload_n hx hb dX7_number_23 rfl (lv_at hl 3 rfl) ?_
      refine lv_icmp_ge (tgt := 68) hx hb dX7_number_24 (by decide) (fun c => absurd c (by decide)) (fun _ => ?_)
      refine lv_aload_n hx hb dX7_number_27 rfl (lv_at hl 2 rfl) ?_
      have z244 : (σ239 9 0).toInt = (σ 9 0).toInt := by rw [(show σ239 9 0 = (σ 9 0) from (by rw [f242 0 (by omega)]))]
      have w245 : ∀ k : Nat, k < 80 → 0 ≤ (σ239 10 k).toInt ∧ (σ239 10 k).toInt ≤ 255 := (by rw [f241 10 (by omega)]; exact w2)
      have w246 : ∀ k : Nat, k < 8 → 0 ≤ (σ239 11 k).toInt ∧ (σ239 11 k).toInt ≤ 3 := (by rw [f241 11 (by omega)]; exact w3)
      have I247 : jI9 σ239 := ⟨(by omega), w245, w246⟩
      have z248 : (σ239 9 1).toInt = (σ 9 1).toInt := by rw [(show σ239 9 1 = (σ 9 1) from (by rw [f242 1 (by omega)]))]
      refine jcallV (As := []) (rest := []) ⟨hx, hb, hml, hown, hts⟩ hK hP hA hS hZ (c_X7_sign_9 l D cI cL ad zz hJ σ239 τ I247) cw_RX7_35 (jc_9 cI cL ad σ239 τ) rfl ⟨Nat.le_of_ble_eq_true rfl, Nat.le_of_ble_eq_true rfl⟩ rfl rfl rfl hl.1 rfl (Nat.le_of_ble_eq_true rfl) dX7_number_28 ⟨Nat.zero_le _, Nat.zero_le _⟩ (fun r250 σ249 τ249 H locs h249 hP hS => ?_)
      obtain ⟨⟨rfl, rfl⟩, h249⟩ := h249
      rcases h249 with h251 | h252
      · obtain ⟨q255, k253, k254⟩ := h251
        have q256 : r250 = (σ 10 (σ 9 1).toNatClampNeg) := q255.trans (by rw [(show σ239 9 1 = (σ 9 1) from (by rw [f242 1 (by omega)])), f241 10 (by omega)])
        have q256e : (σ239 10 (σ239 9 1).toNatClampNeg).toInt = (σ 10 (σ 9 1).toNatClampNeg).toInt := by rw [← q255, ← q256]
        have q256 := q256.symm
        subst q256
        refine jcallS (As := [.int (σ 10 (σ 9 1).toNatClampNeg)]) (rest := []) ⟨hx, hb, hml, hown, hts⟩ hK hP hA hS hZ (c_X7_isDigit l D cI cL ad zz hJ σ239 τ (σ 10 (σ 9 1).toNatClampNeg) ((σ 10 (σ 9 1).toNatClampNeg).toInt) rfl) cw_RX7_39 ⟨Nat.le_of_ble_eq_true rfl, Nat.le_of_ble_eq_true rfl⟩ rfl rfl rfl hl.1 rfl (Nat.le_of_ble_eq_true rfl) dX7_number_31 ⟨Nat.zero_le _, Nat.zero_le _⟩ (fun r258 σ257 τ257 H locs h257 hP hS => ?_)
        obtain ⟨⟨rfl, rfl⟩, h257⟩ := h257
        rcases h257 with h259 | h260
        · obtain ⟨q262, k261⟩ := h259
          have q262 := q262.symm
          subst q262
          refine lv_if_eq (tgt := 68) hx hb dX7_number_34 (by decide) (fun c => absurd c (by decide)) (fun _ => ?_)
          refine lv_iload_n hx hb dX7_number_37 rfl (lv_at hl 1 rfl) ?_
          refine lv_bipush (v := 10) hx hb dX7_number_38 (by decide) ?_
          refine lv_imul hx hb dX7_number_40 ?_
          refine jtopr (y := 0) (by decide) ?_
          refine lv_aload_n hx hb dX7_number_41 rfl (lv_at hl 2 rfl) ?_
          refine va_get (D := D) hx hb hts inlX7 hown hK hP 9 (jc_9 cI cL ad σ239 τ) rfl 3 (by decide) (hts _ kw_3_20) (fun _ h9 => h9) rfl dX7_number_42 ?_
          refine lv_aload_n hx hb dX7_number_45 rfl (lv_at hl 2 rfl) ?_
          refine lv_dup hx hb dX7_number_46 rfl ?_
          refine va_get (D := D) hx hb hts inlX7 hown hK hP 9 (jc_9 cI cL ad σ239 τ) rfl 1 (by decide) (hts _ kw_13_17) (fun _ h9 => h9) rfl dX7_number_47 ?_
          have m263 : σ239 9 1 = (σ 9 1) := (by rw [f242 1 (by omega)])
          refine jtopr m263 ?_
          refine lv_dup_x1 hx hb dX7_number_50 rfl rfl ?_
          refine lv_iconst (v := 1) hx hb dX7_number_51 (by decide) ?_
          have g264 := jrg (rfl : (σ 9 1).toInt = (σ 9 1).toInt)
          refine lv_iadd hx hb dX7_number_52 ?_
          refine lv_topi (fun x265 ex265 => ?_)
          have tx265 : x265.toInt = (σ 9 1).toInt + 1 := (jadd ex265 rfl jz_1 (by omega) (by omega)).trans (by omega)
          refine jput (ty := .int) hx hb hts inlX7 tyX7 tyX7_ok nmX7 hown hK hP hJ hA hS (jc_9 cI cL ad σ239 τ) rfl (k := 1) (by decide) (Nat.le_of_ble_eq_true rfl) (jp_9_1 cI cL ad σ239 τ x265) (hts _ kw_13_17) (fun _ h9 => h9) rfl (by decide +kernel) rfl rfl dX7_number_53 (fun σ266 H locs eσ266 hP hS => ?_)
          refine jald hx hb hK hP (jc_10 cI cL ad σ266 τ) (jin rfl (by omega) (by omega)) dX7_number_56 ?_
          refine jtopr (y := (σ 10 (σ 9 1).toNatClampNeg)) (by rw [eσ266, jup_n (by decide), f241 10 (by omega)]) ?_
          refine lv_iadd hx hb dX7_number_57 ?_
          refine jtopr (y := (σ 10 (σ 9 1).toNatClampNeg)) (by rw [Int32.zero_add]) ?_
          refine lv_bipush (v := 48) hx hb dX7_number_58 (by decide) ?_
          have g267 := jrg (rfl : (σ 10 (σ 9 1).toNatClampNeg).toInt = (σ 10 (σ 9 1).toNatClampNeg).toInt)
          refine lv_isub hx hb dX7_number_60 ?_
          refine lv_topi (fun x268 ex268 => ?_)
          have tx268 : x268.toInt = (σ 10 (σ 9 1).toNatClampNeg).toInt - 48 := (jsub ex268 rfl jz_48 (by omega) (by omega)).trans (by omega)
          refine lv_istore_n (lv' := [(2, .int x268), (3, .int 0), (0, .ref (ad 9)), (1, .int 4)]) hx hb dX7_number_61 rfl hl (by decide) rfl (fun ls hl => ?_)
          refine lv_iinc (v := 1) (lv' := [(3, .int 1), (2, .int x268), (0, .ref (ad 9)), (1, .int 4)]) hx hb dX7_number_62 hl (k := 1) rfl (by decide) (by decide) rfl (fun ls hl => ?_)
          refine lv_goto (tgt := 22) hx hb dX7_number_65 (by decide) ?_
          refine lv_iload_n hx hb dX7_number_22 rfl (lv_at hl 0 rfl) ?_
          refine lv_iload_n hx hb dX7_number_23 rfl (lv_at hl 3 rfl) ?_
          refine lv_icmp_ge (tgt := 68) hx hb dX7_number_24 (by decide) (fun c => absurd c (by decide)) (fun _ => ?_)
          refine lv_aload_n hx hb dX7_number_27 rfl (lv_at hl 2 rfl) ?_
          have z269 : (σ266 9 0).toInt = (σ 9 0).toInt := by rw [(show σ266 9 0 = (σ 9 0) from (by rw [eσ266, jup_k (by decide)]; exact (by rw [f242 0 (by omega)])))]
          have w270 : ∀ k : Nat, k < 80 → 0 ≤ (σ266 10 k).toInt ∧ (σ266 10 k).toInt ≤ 255 := (by rw [eσ266, jup_n (by decide)]; exact w245)
          have w271 : ∀ k : Nat, k < 8 → 0 ≤ (σ266 11 k).toInt ∧ (σ266 11 k).toInt ≤ 3 := (by rw [eσ266, jup_n (by decide)]; exact w246)
          have I272 : jI9 σ266 := ⟨(by omega), w270, w271⟩
          have z273 : (σ266 9 1).toInt = (σ 9 1).toInt + 1 := by rw [(show σ266 9 1 = x265 from (by rw [eσ266]; exact jup_s))]; exact tx265
          refine jcallV (As := []) (rest := []) ⟨hx, hb, hml, hown, hts⟩ hK hP hA hS hZ (c_X7_sign_9 l D cI cL ad zz hJ σ266 τ I272) cw_RX7_35 (jc_9 cI cL ad σ266 τ) rfl ⟨Nat.le_of_ble_eq_true rfl, Nat.le_of_ble_eq_true rfl⟩ rfl rfl rfl hl.1 rfl (Nat.le_of_ble_eq_true rfl) dX7_number_28 ⟨Nat.zero_le _, Nat.zero_le _⟩ (fun r275 σ274 τ274 H locs h274 hP hS => ?_)
          obtain ⟨⟨rfl, rfl⟩, h274⟩ := h274
          rcases h274 with h276 | h277
          · obtain ⟨q280, k278, k279⟩ := h276
            exact absurd (by omega : False) id
          · obtain ⟨q282, k281⟩ := h277
            have q282 := q282.symm
            subst q282
            refine jcallS (As := [.int (-1)]) (rest := []) ⟨hx, hb, hml, hown, hts⟩ hK hP hA hS hZ (c_X7_isDigit l D cI cL ad zz hJ σ266 τ (-1) ((-1)) jz_m1) cw_RX7_39 ⟨Nat.le_of_ble_eq_true rfl, Nat.le_of_ble_eq_true rfl⟩ rfl rfl rfl hl.1 rfl (Nat.le_of_ble_eq_true rfl) dX7_number_31 ⟨Nat.zero_le _, Nat.zero_le _⟩ (fun r284 σ283 τ283 H locs h283 hP hS => ?_)
            obtain ⟨⟨rfl, rfl⟩, h283⟩ := h283
            rcases h283 with h285 | h286
            · obtain ⟨q288, k287⟩ := h285
              exact absurd (by omega : False) id
            · obtain ⟨q290, k289⟩ := h286
              have q290 := q290.symm
              subst q290
              refine lv_if_eq (tgt := 68) hx hb dX7_number_34 (by decide) (fun _ => ?_) (fun c => absurd (by decide) c)
              refine lv_iload_n hx hb dX7_number_68 rfl (lv_at hl 1 rfl) ?_
              have I291 : jI91 σ266 := ⟨(by omega), (by omega)⟩
              have z292 : (σ266 9 2).toInt = (σ239 9 2).toInt := by rw [(show σ266 9 2 = (σ239 9 2) from (by rw [eσ266, jup_k (by decide)]))]
              have I293 : jI92 σ266 := (show (-1) ≤ (σ266 9 2).toInt by omega)
              exact hret x268 σ266 τ _ _ _ _ rfl ⟨rfl, (fun i hi => by rw [eσ266, jup_n (by omega), f241 i (by omega)]), (fun k hk => by rw [eσ266, jup_k (by omega), f242 k (by omega)]), I272, I291, I293, (by omega), ⟨trivial, (by have h9 := tx268; omega)⟩⟩ hP hS dX7_number_69
        · obtain ⟨q295, k294⟩ := h260
          have q295 := q295.symm
          subst q295
          refine lv_if_eq (tgt := 68) hx hb dX7_number_34 (by decide) (fun _ => ?_) (fun c => absurd (by decide) c)
          refine lv_iload_n hx hb dX7_number_68 rfl (lv_at hl 1 rfl) ?_
          have I296 : jI91 σ239 := ⟨(by omega), (by omega)⟩
          have I297 : jI92 σ239 := (show (-1) ≤ (σ239 9 2).toInt by omega)
          exact hret 0 σ239 τ _ _ _ _ rfl ⟨rfl, (fun i hi => by rw [f241 i (by omega)]), (fun k hk => by rw [f242 k (by omega)]), I247, I296, I297, (by omega), ⟨trivial, (by have h9 := jz_0; omega)⟩⟩ hP hS dX7_number_69
      · obtain ⟨q299, k298⟩ := h252
        have q299 := q299.symm
        subst q299
        refine jcallS (As := [.int (-1)]) (rest := []) ⟨hx, hb, hml, hown, hts⟩ hK hP hA hS hZ (c_X7_isDigit l D cI cL ad zz hJ σ239 τ (-1) ((-1)) jz_m1) cw_RX7_39 ⟨Nat.le_of_ble_eq_true rfl, Nat.le_of_ble_eq_true rfl⟩ rfl rfl rfl hl.1 rfl (Nat.le_of_ble_eq_true rfl) dX7_number_31 ⟨Nat.zero_le _, Nat.zero_le _⟩ (fun r301 σ300 τ300 H locs h300 hP hS => ?_)
        obtain ⟨⟨rfl, rfl⟩, h300⟩ := h300
        rcases h300 with h302 | h303
        · obtain ⟨q305, k304⟩ := h302
          exact absurd (by omega : False) id
        · obtain ⟨q307, k306⟩ := h303
          have q307 := q307.symm
          subst q307
          refine lv_if_eq (tgt := 68) hx hb dX7_number_34 (by decide) (fun _ => ?_) (fun c => absurd (by decide) c)
          refine lv_iload_n hx hb dX7_number_68 rfl (lv_at hl 1 rfl) ?_
          have I308 : jI91 σ239 := ⟨(by omega), (by omega)⟩
          have I309 : jI92 σ239 := (show (-1) ≤ (σ239 9 2).toInt by omega)
          exact hret 0 σ239 τ _ _ _ _ rfl ⟨rfl, (fun i hi => by rw [f241 i (by omega)]), (fun k hk => by rw [f242 k (by omega)]), I247, I308, I309, (by omega), ⟨trivial, (by have h9 := jz_0; omega)⟩⟩ hP hS dX7_number_69
set_option maxHeartbeats 4000000 in
set_option maxRecDepth 100000 in
theorem c_X7_levelOf (l : Launch) (D : va_G) (cI cL : ClassId) (ad zz : Nat → Nat) (hJ : jD ad) (σ : Nat → Nat → Int32) (τ : Nat → Nat → Int64) (a1 : Int32) (A1 : Int) (t1 : a1.toInt = A1) : jM l yX7_levelOf cX7_levelOf 1 (some .int) ({ frames := 0, cells := 0, slots := 0, locals := 0 }) D cI cL ad zz [.int a1] σ τ (fun r σ' τ' => (σ = σ' ∧ τ = τ') ∧ ((r = 0 ∧ (A1 = 124)) ∨ (r = 1 ∧ (A1 = 38)) ∨ (r = 2 ∧ (A1 = 60)) ∨ (r = 2 ∧ (A1 = 61)) ∨ (r = 2 ∧ (A1 = 62)) ∨ (r = 3 ∧ (A1 = 43)) ∨ (r = 3 ∧ (A1 = 45)) ∨ (r = 4 ∧ (A1 = 42)) ∨ (r = 4 ∧ (A1 = 47)) ∨ (r = 4 ∧ (A1 = 37)) ∨ (r = 5 ∧ True))) := by
  refine jM.of hJ (by decide +kernel) (nt := .int) rfl (Nat.le_of_ble_eq_true rfl) ?_
  intro p e s m args below meth c Q ls hC hret hl hP
  obtain ⟨hx, hb, hr, hml, hown, hts, hK, -, hlocks, hZ⟩ := hC
  have hown : s.vm.findClass RX7 = some m.cls := hown
  have hS : va_S (jA ad) s.heap s.heap [] := va_S.rf
  have hA : ∀ q, jA ad q → jA ad q := fun _ h => h
  have hl : lv_has ls 1 [(0, .int a1)] := hl
  have g1 := jrg t1
  refine lv_iload_n hx hb dX7_levelOf_0 rfl (lv_at hl 0 rfl) ?_
  by_cases c1 : a1 = 37
  · have kc1 := jeq c1 t1 jz_37
    refine jtopr c1 ?_
    refine lv_lookup (off := 99) (tgt := 100) hx hb dX7_levelOf_1 (by decide) (by decide) (by decide) ?_
    refine lv_iconst (v := 4) hx hb dX7_levelOf_100 (by decide) ?_
    exact hret 4 σ τ _ _ _ _ rfl ⟨⟨rfl, rfl⟩, Or.inr (Or.inr (Or.inr (Or.inr (Or.inr (Or.inr (Or.inr (Or.inr (Or.inr (Or.inl ⟨rfl, (by have h9 := jz_4; omega)⟩)))))))))⟩ hP hS dX7_levelOf_101
  have kc1 := jne c1 t1 jz_37
  by_cases c2 : a1 = 38
  · have kc2 := jeq c2 t1 jz_38
    refine jtopr c2 ?_
    refine lv_lookup (off := 93) (tgt := 94) hx hb dX7_levelOf_1 (by decide) (by decide) (by decide) ?_
    refine lv_iconst (v := 1) hx hb dX7_levelOf_94 (by decide) ?_
    exact hret 1 σ τ _ _ _ _ rfl ⟨⟨rfl, rfl⟩, Or.inr (Or.inl ⟨rfl, (by have h9 := jz_1; omega)⟩)⟩ hP hS dX7_levelOf_95
  have kc2 := jne c2 t1 jz_38
  by_cases c3 : a1 = 42
  · have kc3 := jeq c3 t1 jz_42
    refine jtopr c3 ?_
    refine lv_lookup (off := 99) (tgt := 100) hx hb dX7_levelOf_1 (by decide) (by decide) (by decide) ?_
    refine lv_iconst (v := 4) hx hb dX7_levelOf_100 (by decide) ?_
    exact hret 4 σ τ _ _ _ _ rfl ⟨⟨rfl, rfl⟩, Or.inr (Or.inr (Or.inr (Or.inr (Or.inr (Or.inr (Or.inr (Or.inl ⟨rfl, (by have h9 := jz_4; omega)⟩)))))))⟩ hP hS dX7_levelOf_101
  have kc3 := jne c3 t1 jz_42
  by_cases c4 : a1 = 43
  · have kc4 := jeq c4 t1 jz_43
    refine jtopr c4 ?_
    refine lv_lookup (off := 97) (tgt := 98) hx hb dX7_levelOf_1 (by decide) (by decide) (by decide) ?_
    refine lv_iconst (v := 3) hx hb dX7_levelOf_98 (by decide) ?_
    exact hret 3 σ τ _ _ _ _ rfl ⟨⟨rfl, rfl⟩, Or.inr (Or.inr (Or.inr (Or.inr (Or.inr (Or.inl ⟨rfl, (by have h9 := jz_3; omega)⟩)))))⟩ hP hS dX7_levelOf_99
  have kc4 := jne c4 t1 jz_43
  by_cases c5 : a1 = 45
  · have kc5 := jeq c5 t1 jz_45
    refine jtopr c5 ?_
    refine lv_lookup (off := 97) (tgt := 98) hx hb dX7_levelOf_1 (by decide) (by decide) (by decide) ?_
    refine lv_iconst (v := 3) hx hb dX7_levelOf_98 (by decide) ?_
    exact hret 3 σ τ _ _ _ _ rfl ⟨⟨rfl, rfl⟩, Or.inr (Or.inr (Or.inr (Or.inr (Or.inr (Or.inr (Or.inl ⟨rfl, (by have h9 := jz_3; omega)⟩))))))⟩ hP hS dX7_levelOf_99
  have kc5 := jne c5 t1 jz_45
  by_cases c6 : a1 = 47
  · have kc6 := jeq c6 t1 jz_47
    refine jtopr c6 ?_
    refine lv_lookup (off := 99) (tgt := 100) hx hb dX7_levelOf_1 (by decide) (by decide) (by decide) ?_
    refine lv_iconst (v := 4) hx hb dX7_levelOf_100 (by decide) ?_
    exact hret 4 σ τ _ _ _ _ rfl ⟨⟨rfl, rfl⟩, Or.inr (Or.inr (Or.inr (Or.inr (Or.inr (Or.inr (Or.inr (Or.inr (Or.inl ⟨rfl, (by have h9 := jz_4; omega)⟩))))))))⟩ hP hS dX7_levelOf_101
  have kc6 := jne c6 t1 jz_47
  by_cases c7 : a1 = 60
  · have kc7 := jeq c7 t1 jz_60
    refine jtopr c7 ?_
    refine lv_lookup (off := 95) (tgt := 96) hx hb dX7_levelOf_1 (by decide) (by decide) (by decide) ?_
    refine lv_iconst (v := 2) hx hb dX7_levelOf_96 (by decide) ?_
    exact hret 2 σ τ _ _ _ _ rfl ⟨⟨rfl, rfl⟩, Or.inr (Or.inr (Or.inl ⟨rfl, (by have h9 := jz_2; omega)⟩))⟩ hP hS dX7_levelOf_97
  have kc7 := jne c7 t1 jz_60
  by_cases c8 : a1 = 61
  · have kc8 := jeq c8 t1 jz_61
    refine jtopr c8 ?_
    refine lv_lookup (off := 95) (tgt := 96) hx hb dX7_levelOf_1 (by decide) (by decide) (by decide) ?_
    refine lv_iconst (v := 2) hx hb dX7_levelOf_96 (by decide) ?_
    exact hret 2 σ τ _ _ _ _ rfl ⟨⟨rfl, rfl⟩, Or.inr (Or.inr (Or.inr (Or.inl ⟨rfl, (by have h9 := jz_2; omega)⟩)))⟩ hP hS dX7_levelOf_97
  have kc8 := jne c8 t1 jz_61
  by_cases c9 : a1 = 62
  · have kc9 := jeq c9 t1 jz_62
    refine jtopr c9 ?_
    refine lv_lookup (off := 95) (tgt := 96) hx hb dX7_levelOf_1 (by decide) (by decide) (by decide) ?_
    refine lv_iconst (v := 2) hx hb dX7_levelOf_96 (by decide) ?_
    exact hret 2 σ τ _ _ _ _ rfl ⟨⟨rfl, rfl⟩, Or.inr (Or.inr (Or.inr (Or.inr (Or.inl ⟨rfl, (by have h9 := jz_2; omega)⟩))))⟩ hP hS dX7_levelOf_97
  have kc9 := jne c9 t1 jz_62
  by_cases c10 : a1 = 124
  · have kc10 := jeq c10 t1 jz_124
    refine jtopr c10 ?_
    refine lv_lookup (off := 91) (tgt := 92) hx hb dX7_levelOf_1 (by decide) (by decide) (by decide) ?_
    refine lv_iconst (v := 0) hx hb dX7_levelOf_92 (by decide) ?_
    exact hret 0 σ τ _ _ _ _ rfl ⟨⟨rfl, rfl⟩, Or.inl ⟨rfl, (by have h9 := jz_0; omega)⟩⟩ hP hS dX7_levelOf_93
  have kc10 := jne c10 t1 jz_124
  refine lv_lookup (off := 101) (tgt := 102) hx hb dX7_levelOf_1 (by decide) (jlook (fun p hp => by have h9 := t1; simp only [List.mem_cons, List.not_mem_nil, or_false] at hp; rcases hp with hp | hp | hp | hp | hp | hp | hp | hp | hp | hp <;> subst hp <;> simp only [] <;> omega)) (by decide) ?_
  refine lv_iconst (v := 5) hx hb dX7_levelOf_102 (by decide) ?_
  exact hret 5 σ τ _ _ _ _ rfl ⟨⟨rfl, rfl⟩, Or.inr (Or.inr (Or.inr (Or.inr (Or.inr (Or.inr (Or.inr (Or.inr (Or.inr (Or.inr (⟨rfl, trivial⟩))))))))))⟩ hP hS dX7_levelOf_103
set_option maxHeartbeats 4000000 in
set_option maxRecDepth 100000 in
theorem c_X7_nameOf (l : Launch) (D : va_G) (cI cL : ClassId) (ad zz : Nat → Nat) (hJ : jD ad) (σ : Nat → Nat → Int32) (τ : Nat → Nat → Int64) (a1 : Int32) (A1 : Int) (t1 : a1.toInt = A1) : jM l yX7_nameOf cX7_nameOf 1 (some .int) ({ frames := 0, cells := 0, slots := 0, locals := 0 }) D cI cL ad zz [.int a1] σ τ (fun r σ' τ' => (σ = σ' ∧ τ = τ') ∧ ((True ∧ (0 ≤ r.toInt ∧ r.toInt ≤ 7) ∧ (0 ≤ A1)) ∨ (r = (-1) ∧ True))) := by
  refine jM.of hJ (by decide +kernel) (nt := .int) rfl (Nat.le_of_ble_eq_true rfl) ?_
  intro p e s m args below meth c Q ls hC hret hl hP
  obtain ⟨hx, hb, hr, hml, hown, hts, hK, -, hlocks, hZ⟩ := hC
  have hown : s.vm.findClass RX7 = some m.cls := hown
  have hS : va_S (jA ad) s.heap s.heap [] := va_S.rf
  have hA : ∀ q, jA ad q → jA ad q := fun _ h => h
  have hl : lv_has ls 1 [(0, .int a1)] := hl
  have g1 := jrg t1
  refine lv_iload_n hx hb dX7_nameOf_0 rfl (lv_at hl 0 rfl) ?_
  by_cases c1 : a1 = 98
  · have kc1 := jeq c1 t1 jz_98
    refine jtopr c1 ?_
    refine lv_tableIn (off := 109) (tgt := 110) hx hb dX7_nameOf_1 (by decide) (by decide) (by decide) (by decide) ?_
    refine lv_iconst (v := 3) hx hb dX7_nameOf_110 (by decide) ?_
    exact hret 3 σ τ _ _ _ _ rfl ⟨⟨rfl, rfl⟩, Or.inl ⟨trivial, (by have h9 := jz_3; omega), (by have h9 := jz_3; omega)⟩⟩ hP hS dX7_nameOf_111
  have kc1 := jne c1 t1 jz_98
  by_cases c2 : a1 = 99
  · have kc2 := jeq c2 t1 jz_99
    refine jtopr c2 ?_
    refine lv_tableIn (off := 121) (tgt := 122) hx hb dX7_nameOf_1 (by decide) (by decide) (by decide) (by decide) ?_
    refine lv_iconst (v := (-1)) hx hb dX7_nameOf_122 (by decide) ?_
    exact hret (-1) σ τ _ _ _ _ rfl ⟨⟨rfl, rfl⟩, Or.inr (⟨rfl, trivial⟩)⟩ hP hS dX7_nameOf_123
  have kc2 := jne c2 t1 jz_99
  by_cases c3 : a1 = 100
  · have kc3 := jeq c3 t1 jz_100
    refine jtopr c3 ?_
    refine lv_tableIn (off := 121) (tgt := 122) hx hb dX7_nameOf_1 (by decide) (by decide) (by decide) (by decide) ?_
    refine lv_iconst (v := (-1)) hx hb dX7_nameOf_122 (by decide) ?_
    exact hret (-1) σ τ _ _ _ _ rfl ⟨⟨rfl, rfl⟩, Or.inr (⟨rfl, trivial⟩)⟩ hP hS dX7_nameOf_123
  have kc3 := jne c3 t1 jz_100
  by_cases c4 : a1 = 101
  · have kc4 := jeq c4 t1 jz_101
    refine jtopr c4 ?_
    refine lv_tableIn (off := 121) (tgt := 122) hx hb dX7_nameOf_1 (by decide) (by decide) (by decide) (by decide) ?_
    refine lv_iconst (v := (-1)) hx hb dX7_nameOf_122 (by decide) ?_
    exact hret (-1) σ τ _ _ _ _ rfl ⟨⟨rfl, rfl⟩, Or.inr (⟨rfl, trivial⟩)⟩ hP hS dX7_nameOf_123
  have kc4 := jne c4 t1 jz_101
  by_cases c5 : a1 = 102
  · have kc5 := jeq c5 t1 jz_102
    refine jtopr c5 ?_
    refine lv_tableIn (off := 121) (tgt := 122) hx hb dX7_nameOf_1 (by decide) (by decide) (by decide) (by decide) ?_
    refine lv_iconst (v := (-1)) hx hb dX7_nameOf_122 (by decide) ?_
    exact hret (-1) σ τ _ _ _ _ rfl ⟨⟨rfl, rfl⟩, Or.inr (⟨rfl, trivial⟩)⟩ hP hS dX7_nameOf_123
  have kc5 := jne c5 t1 jz_102
  by_cases c6 : a1 = 103
  · have kc6 := jeq c6 t1 jz_103
    refine jtopr c6 ?_
    refine lv_tableIn (off := 121) (tgt := 122) hx hb dX7_nameOf_1 (by decide) (by decide) (by decide) (by decide) ?_
    refine lv_iconst (v := (-1)) hx hb dX7_nameOf_122 (by decide) ?_
    exact hret (-1) σ τ _ _ _ _ rfl ⟨⟨rfl, rfl⟩, Or.inr (⟨rfl, trivial⟩)⟩ hP hS dX7_nameOf_123
  have kc6 := jne c6 t1 jz_103
  by_cases c7 : a1 = 104
  · have kc7 := jeq c7 t1 jz_104
    refine jtopr c7 ?_
    refine lv_tableIn (off := 121) (tgt := 122) hx hb dX7_nameOf_1 (by decide) (by decide) (by decide) (by decide) ?_
    refine lv_iconst (v := (-1)) hx hb dX7_nameOf_122 (by decide) ?_
    exact hret (-1) σ τ _ _ _ _ rfl ⟨⟨rfl, rfl⟩, Or.inr (⟨rfl, trivial⟩)⟩ hP hS dX7_nameOf_123
  have kc7 := jne c7 t1 jz_104
  by_cases c8 : a1 = 105
  · have kc8 := jeq c8 t1 jz_105
    refine jtopr c8 ?_
    refine lv_tableIn (off := 121) (tgt := 122) hx hb dX7_nameOf_1 (by decide) (by decide) (by decide) (by decide) ?_
    refine lv_iconst (v := (-1)) hx hb dX7_nameOf_122 (by decide) ?_
    exact hret (-1) σ τ _ _ _ _ rfl ⟨⟨rfl, rfl⟩, Or.inr (⟨rfl, trivial⟩)⟩ hP hS dX7_nameOf_123
  have kc8 := jne c8 t1 jz_105
  by_cases c9 : a1 = 106
  · have kc9 := jeq c9 t1 jz_106
    refine jtopr c9 ?_
    refine lv_tableIn (off := 121) (tgt := 122) hx hb dX7_nameOf_1 (by decide) (by decide) (by decide) (by decide) ?_
    refine lv_iconst (v := (-1)) hx hb dX7_nameOf_122 (by decide) ?_
    exact hret (-1) σ τ _ _ _ _ rfl ⟨⟨rfl, rfl⟩, Or.inr (⟨rfl, trivial⟩)⟩ hP hS dX7_nameOf_123
  have kc9 := jne c9 t1 jz_106
  by_cases c10 : a1 = 107
  · have kc10 := jeq c10 t1 jz_107
    refine jtopr c10 ?_
    refine lv_tableIn (off := 118) (tgt := 119) hx hb dX7_nameOf_1 (by decide) (by decide) (by decide) (by decide) ?_
    refine lv_bipush (v := 7) hx hb dX7_nameOf_119 (by decide) ?_
    exact hret 7 σ τ _ _ _ _ rfl ⟨⟨rfl, rfl⟩, Or.inl ⟨trivial, (by have h9 := jz_7; omega), (by have h9 := jz_7; omega)⟩⟩ hP hS dX7_nameOf_121
  have kc10 := jne c10 t1 jz_107
  by_cases c11 : a1 = 108
  · have kc11 := jeq c11 t1 jz_108
    refine jtopr c11 ?_
    refine lv_tableIn (off := 113) (tgt := 114) hx hb dX7_nameOf_1 (by decide) (by decide) (by decide) (by decide) ?_
    refine lv_iconst (v := 5) hx hb dX7_nameOf_114 (by decide) ?_
    exact hret 5 σ τ _ _ _ _ rfl ⟨⟨rfl, rfl⟩, Or.inl ⟨trivial, (by have h9 := jz_5; omega), (by have h9 := jz_5; omega)⟩⟩ hP hS dX7_nameOf_115
  have kc11 := jne c11 t1 jz_108
  by_cases c12 : a1 = 109
  · have kc12 := jeq c12 t1 jz_109
    refine jtopr c12 ?_
    refine lv_tableIn (off := 121) (tgt := 122) hx hb dX7_nameOf_1 (by decide) (by decide) (by decide) (by decide) ?_
    refine lv_iconst (v := (-1)) hx hb dX7_nameOf_122 (by decide) ?_
    exact hret (-1) σ τ _ _ _ _ rfl ⟨⟨rfl, rfl⟩, Or.inr (⟨rfl, trivial⟩)⟩ hP hS dX7_nameOf_123
  have kc12 := jne c12 t1 jz_109
  by_cases c13 : a1 = 110
  · have kc13 := jeq c13 t1 jz_110
    refine jtopr c13 ?_
    refine lv_tableIn (off := 121) (tgt := 122) hx hb dX7_nameOf_1 (by decide) (by decide) (by decide) (by decide) ?_
    refine lv_iconst (v := (-1)) hx hb dX7_nameOf_122 (by decide) ?_
    exact hret (-1) σ τ _ _ _ _ rfl ⟨⟨rfl, rfl⟩, Or.inr (⟨rfl, trivial⟩)⟩ hP hS dX7_nameOf_123
  have kc13 := jne c13 t1 jz_110
  by_cases c14 : a1 = 111
  · have kc14 := jeq c14 t1 jz_111
    refine jtopr c14 ?_
    refine lv_tableIn (off := 103) (tgt := 104) hx hb dX7_nameOf_1 (by decide) (by decide) (by decide) (by decide) ?_
    refine lv_iconst (v := 0) hx hb dX7_nameOf_104 (by decide) ?_
    exact hret 0 σ τ _ _ _ _ rfl ⟨⟨rfl, rfl⟩, Or.inl ⟨trivial, (by have h9 := jz_0; omega), (by have h9 := jz_0; omega)⟩⟩ hP hS dX7_nameOf_105
  have kc14 := jne c14 t1 jz_111
  by_cases c15 : a1 = 112
  · have kc15 := jeq c15 t1 jz_112
    refine jtopr c15 ?_
    refine lv_tableIn (off := 115) (tgt := 116) hx hb dX7_nameOf_1 (by decide) (by decide) (by decide) (by decide) ?_
    refine lv_bipush (v := 6) hx hb dX7_nameOf_116 (by decide) ?_
    exact hret 6 σ τ _ _ _ _ rfl ⟨⟨rfl, rfl⟩, Or.inl ⟨trivial, (by have h9 := jz_6; omega), (by have h9 := jz_6; omega)⟩⟩ hP hS dX7_nameOf_118
  have kc15 := jne c15 t1 jz_112
  by_cases c16 : a1 = 113
  · have kc16 := jeq c16 t1 jz_113
    refine jtopr c16 ?_
    refine lv_tableIn (off := 121) (tgt := 122) hx hb dX7_nameOf_1 (by decide) (by decide) (by decide) (by decide) ?_
    refine lv_iconst (v := (-1)) hx hb dX7_nameOf_122 (by decide) ?_
    exact hret (-1) σ τ _ _ _ _ rfl ⟨⟨rfl, rfl⟩, Or.inr (⟨rfl, trivial⟩)⟩ hP hS dX7_nameOf_123
  have kc16 := jne c16 t1 jz_113
  by_cases c17 : a1 = 114
  · have kc17 := jeq c17 t1 jz_114
    refine jtopr c17 ?_
    refine lv_tableIn (off := 121) (tgt := 122) hx hb dX7_nameOf_1 (by decide) (by decide) (by decide) (by decide) ?_
    refine lv_iconst (v := (-1)) hx hb dX7_nameOf_122 (by decide) ?_
    exact hret (-1) σ τ _ _ _ _ rfl ⟨⟨rfl, rfl⟩, Or.inr (⟨rfl, trivial⟩)⟩ hP hS dX7_nameOf_123
  have kc17 := jne c17 t1 jz_114
  by_cases c18 : a1 = 115
  · have kc18 := jeq c18 t1 jz_115
    refine jtopr c18 ?_
    refine lv_tableIn (off := 107) (tgt := 108) hx hb dX7_nameOf_1 (by decide) (by decide) (by decide) (by decide) ?_
    refine lv_iconst (v := 2) hx hb dX7_nameOf_108 (by decide) ?_
    exact hret 2 σ τ _ _ _ _ rfl ⟨⟨rfl, rfl⟩, Or.inl ⟨trivial, (by have h9 := jz_2; omega), (by have h9 := jz_2; omega)⟩⟩ hP hS dX7_nameOf_109
  have kc18 := jne c18 t1 jz_115
  by_cases c19 : a1 = 116
  · have kc19 := jeq c19 t1 jz_116
    refine jtopr c19 ?_
    refine lv_tableIn (off := 111) (tgt := 112) hx hb dX7_nameOf_1 (by decide) (by decide) (by decide) (by decide) ?_
    refine lv_iconst (v := 4) hx hb dX7_nameOf_112 (by decide) ?_
    exact hret 4 σ τ _ _ _ _ rfl ⟨⟨rfl, rfl⟩, Or.inl ⟨trivial, (by have h9 := jz_4; omega), (by have h9 := jz_4; omega)⟩⟩ hP hS dX7_nameOf_113
  have kc19 := jne c19 t1 jz_116
  by_cases c20 : a1 = 117
  · have kc20 := jeq c20 t1 jz_117
    refine jtopr c20 ?_
    refine lv_tableIn (off := 121) (tgt := 122) hx hb dX7_nameOf_1 (by decide) (by decide) (by decide) (by decide) ?_
    refine lv_iconst (v := (-1)) hx hb dX7_nameOf_122 (by decide) ?_
    exact hret (-1) σ τ _ _ _ _ rfl ⟨⟨rfl, rfl⟩, Or.inr (⟨rfl, trivial⟩)⟩ hP hS dX7_nameOf_123
  have kc20 := jne c20 t1 jz_117
  by_cases c21 : a1 = 118
  · have kc21 := jeq c21 t1 jz_118
    refine jtopr c21 ?_
    refine lv_tableIn (off := 121) (tgt := 122) hx hb dX7_nameOf_1 (by decide) (by decide) (by decide) (by decide) ?_
    refine lv_iconst (v := (-1)) hx hb dX7_nameOf_122 (by decide) ?_
    exact hret (-1) σ τ _ _ _ _ rfl ⟨⟨rfl, rfl⟩, Or.inr (⟨rfl, trivial⟩)⟩ hP hS dX7_nameOf_123
  have kc21 := jne c21 t1 jz_118
  by_cases c22 : a1 = 119
  · have kc22 := jeq c22 t1 jz_119
    refine jtopr c22 ?_
    refine lv_tableIn (off := 105) (tgt := 106) hx hb dX7_nameOf_1 (by decide) (by decide) (by decide) (by decide) ?_
    refine lv_iconst (v := 1) hx hb dX7_nameOf_106 (by decide) ?_
    exact hret 1 σ τ _ _ _ _ rfl ⟨⟨rfl, rfl⟩, Or.inl ⟨trivial, (by have h9 := jz_1; omega), (by have h9 := jz_1; omega)⟩⟩ hP hS dX7_nameOf_107
  have kc22 := jne c22 t1 jz_119
  refine lv_tableOut (tgt := 122) hx hb dX7_nameOf_1 (by rw [t1]; omega) (by decide) ?_
  refine lv_iconst (v := (-1)) hx hb dX7_nameOf_122 (by decide) ?_
  exact hret (-1) σ τ _ _ _ _ rfl ⟨⟨rfl, rfl⟩, Or.inr (⟨rfl, trivial⟩)⟩ hP hS dX7_nameOf_123
set_option maxHeartbeats 4000000 in
set_option maxRecDepth 100000 in
theorem c_X7_readOrder_9 (l : Launch) (D : va_G) (cI cL : ClassId) (ad zz : Nat → Nat) (hJ : jD ad) (σ : Nat → Nat → Int32) (τ : Nat → Nat → Int64) (hI9 : jI9 σ) (hI16 : jI16 σ) : jM l yX7_readOrder cX7_readOrder 6 (some .int) ({ frames := 2, cells := 0, slots := 0, locals := 44 }) D cI cL ad zz [.ref (ad 9), .ref (ad 16)] σ τ (fun r σ' τ' => τ = τ' ∧ (∀ i : Nat, (i < 9 ∨ 9 < i) ∧ (i < 11 ∨ 11 < i) ∧ (i < 16 ∨ 17 < i) → σ' i = σ i) ∧ (∀ k : Nat, (k < 0 ∨ 0 < k) ∧ (k < 1 ∨ 1 < k) ∧ (k < 2 ∨ 2 < k) → σ' 9 k = σ 9 k) ∧ (∀ k : Nat, (k < 0 ∨ 0 < k) ∧ (k < 1 ∨ 1 < k) ∧ (k < 2 ∨ 2 < k) → σ' 16 k = σ 16 k) ∧ (jI9 σ') ∧ (jI16 σ') ∧ True) := by
  refine jM.of hJ (by decide +kernel) (nt := .int) rfl (Nat.le_of_ble_eq_true rfl) ?_
  intro p e s m args below meth c Q ls hC hret hl hP
  obtain ⟨hx, hb, hr, hml, hown, hts, hK, -, hlocks, hZ⟩ := hC
  have hown : s.vm.findClass RX7 = some m.cls := hown
  have hS : va_S (jA ad) s.heap s.heap [] := va_S.rf
  have hA : ∀ q, jA ad q → jA ad q := fun _ h => h
  have hl : lv_has ls 6 [(0, .ref (ad 9)), (1, .ref (ad 16))] := hl
  obtain ⟨i1, w2, w3⟩ : (0 ≤ (σ 9 0).toInt ∧ (σ 9 0).toInt ≤ 80) ∧ (∀ k : Nat, k < 80 → 0 ≤ (σ 10 k).toInt ∧ (σ 10 k).toInt ≤ 255) ∧ (∀ k : Nat, k < 8 → 0 ≤ (σ 11 k).toInt ∧ (σ 11 k).toInt ≤ 3) := id hI9
  obtain ⟨i4, i5, i6, w7⟩ : (1 ≤ (σ 16 0).toInt ∧ (σ 16 0).toInt ≤ 8) ∧ (1 ≤ (σ 16 1).toInt ∧ (σ 16 1).toInt ≤ 12) ∧ (0 ≤ (σ 16 2).toInt ∧ (σ 16 2).toInt ≤ 999) ∧ (∀ k : Nat, k < 8 → 0 ≤ (σ 17 k).toInt ∧ (σ 17 k).toInt ≤ 3) := id hI16
  refine lv_aload_n hx hb dX7_readOrder_0 rfl (lv_at hl 0 rfl) ?_
  have I8 : jI9 σ := ⟨(by omega), w2, w3⟩
  refine jcallVv (As := []) (rest := []) ⟨hx, hb, hml, hown, hts⟩ hK hP hA hS hZ (c_X7_begin_9 l D cI cL ad zz hJ σ τ I8) cw_RX7_47 (jc_9 cI cL ad σ τ) rfl ⟨Nat.le_of_ble_eq_true rfl, Nat.le_of_ble_eq_true rfl⟩ rfl rfl rfl hl.1 rfl (Nat.le_of_ble_eq_true rfl) dX7_readOrder_1 ⟨Nat.zero_le _, Nat.zero_le _⟩ (fun σ9 τ9 H locs h9 hP hS => ?_)
  obtain ⟨rfl, f11, f12, I13, I14, I15, h9⟩ := h9
  obtain ⟨i16, w17, w18⟩ : (0 ≤ (σ9 9 0).toInt ∧ (σ9 9 0).toInt ≤ 80) ∧ (∀ k : Nat, k < 80 → 0 ≤ (σ9 10 k).toInt ∧ (σ9 10 k).toInt ≤ 255) ∧ (∀ k : Nat, k < 8 → 0 ≤ (σ9 11 k).toInt ∧ (σ9 11 k).toInt ≤ 3) := id I13
  obtain ⟨i19, i20⟩ : (0 ≤ (σ9 9 1).toInt) ∧ ((σ9 9 1).toInt ≤ (σ9 9 0).toInt) := id I14
  have i21 : (-1) ≤ (σ9 9 2).toInt := I15
  have z22 : (σ9 9 0).toInt = (σ 9 0).toInt := by rw [(show σ9 9 0 = (σ 9 0) from (by rw [f12 0 (by omega)]))]
  refine lv_iconst (v := 0) hx hb dX7_readOrder_4 (by decide) ?_
  refine lv_istore_n (lv' := [(2, .int 0), (0, .ref (ad 9)), (1, .ref (ad 16))]) hx hb dX7_readOrder_5 rfl hl (by decide) rfl (fun ls hl => ?_)
  refine lv_bipush (v := 8) hx hb dX7_readOrder_6 (by decide) ?_
  refine lv_istore_n (lv' := [(3, .int 8), (2, .int 0), (0, .ref (ad 9)), (1, .ref (ad 16))]) hx hb dX7_readOrder_8 rfl hl (by decide) rfl (fun ls hl => ?_)
  refine lv_iconst (v := 0) hx hb dX7_readOrder_9 (by decide) ?_
  refine lv_istore (lv' := [(4, .int 0), (3, .int 8), (2, .int 0), (0, .ref (ad 9)), (1, .ref (ad 16))]) hx hb dX7_readOrder_10 hl (by decide) rfl (fun ls hl => ?_)
  have lp23 : ∀ (n24 : Nat) (x25 : Int32) (σ26 : Nat → Nat → Int32) (H : Heap) (locs : List Loc) (ls : Array Slot), (-x25.toInt + 8 : Int) < n24 → 0 ≤ x25.toInt → x25.toInt ≤ 8 → 0 ≤ (σ26 9 1).toInt → (σ26 9 1).toInt ≤ (σ26 9 0).toInt → (∀ i : Nat, (i < 9 ∨ 9 < i) ∧ (i < 11 ∨ 11 < i) → σ26 i = σ9 i) → (∀ k : Nat, (k < 1 ∨ 1 < k) → σ26 9 k = σ9 9 k) → (∀ k : Nat, k < 8 → 0 ≤ (σ26 11 k).toInt ∧ (σ26 11 k).toInt ≤ 3) → jH D cI cL ad σ26 τ H → va_S (jA ad) s.heap H locs → lv_has ls 6 [(4, .int 0), (3, .int 8), (2, .int x25), (0, .ref (ad 9)), (1, .ref (ad 16))] → W p l e ({ frames := 2, cells := 0, slots := 0, locals := 44 }) s m args below meth c H locs 0 0 Q (F0 m 12 ls []) := by
    intro n24
    induction n24 with
    | zero => intro x25 σ26 H locs ls h27 h28 h29 h30 h31; exact absurd h27 (by omega)
    | succ n24 ihlp23 =>
      intro x25 σ26 H locs ls h27 h28 h29 h30 h31 f32 f33 w34 hP hS hl
      have z35 : (σ26 9 0).toInt = (σ 9 0).toInt := by rw [(show σ26 9 0 = (σ 9 0) from (by rw [f33 0 (by omega)]; exact (by rw [f12 0 (by omega)])))]
      refine lv_iload_n hx hb dX7_readOrder_12 rfl (lv_at hl 2 rfl) ?_
      refine lv_bipush (v := 8) hx hb dX7_readOrder_13 (by decide) ?_
      refine lv_icmp_ge (tgt := 67) hx hb dX7_readOrder_15 (by decide) (fun c36 => ?_) (fun c36 => ?_)
      · have kc36 := jle c36 jz_8 rfl
        refine lv_iload_n hx hb dX7_readOrder_67 rfl (lv_at hl 2 rfl) ?_
        refine lv_if_ne (tgt := 79) hx hb dX7_readOrder_68 (by decide) (fun c37 => ?_) (fun c => absurd (jeq c rfl jz_0) (by omega))
        have kc37 := jne c37 rfl jz_0
        refine lv_aload_n hx hb dX7_readOrder_79 rfl (lv_at hl 3 rfl) ?_
        refine lv_bipush (v := 58) hx hb dX7_readOrder_80 (by decide) ?_
        have w38 : ∀ k : Nat, k < 80 → 0 ≤ (σ26 10 k).toInt ∧ (σ26 10 k).toInt ≤ 255 := (by rw [f32 10 (by omega)]; exact w17)
        have I39 : jI9 σ26 := ⟨(by omega), w38, w34⟩
        have I40 : jI91 σ26 := ⟨(by omega), (by omega)⟩
        have z41 : (σ26 9 2).toInt = (σ9 9 2).toInt := by rw [(show σ26 9 2 = (σ9 9 2) from (by rw [f33 2 (by omega)]))]
        have I42 : jI92 σ26 := (show (-1) ≤ (σ26 9 2).toInt by omega)
        refine jcallV (As := [.int 58]) (rest := []) ⟨hx, hb, hml, hown, hts⟩ hK hP hA hS hZ (c_X7_skip_9 l D cI cL ad zz hJ σ26 τ 58 (58) jz_58 I39 I40 I42 (by omega)) cw_RX7_50 (jc_9 cI cL ad σ26 τ) rfl ⟨Nat.le_of_ble_eq_true rfl, Nat.le_of_ble_eq_true rfl⟩ rfl rfl rfl hl.1 rfl (Nat.le_of_ble_eq_true rfl) dX7_readOrder_82 ⟨Nat.zero_le _, Nat.zero_le _⟩ (fun r44 σ43 τ43 H locs h43 hP hS => ?_)
        obtain ⟨rfl, f45, f46, I47, I48, I49, h43⟩ := h43
        obtain ⟨i50, w51, w52⟩ : (0 ≤ (σ43 9 0).toInt ∧ (σ43 9 0).toInt ≤ 80) ∧ (∀ k : Nat, k < 80 → 0 ≤ (σ43 10 k).toInt ∧ (σ43 10 k).toInt ≤ 255) ∧ (∀ k : Nat, k < 8 → 0 ≤ (σ43 11 k).toInt ∧ (σ43 11 k).toInt ≤ 3) := id I47
        obtain ⟨i53, i54⟩ : (0 ≤ (σ43 9 1).toInt) ∧ ((σ43 9 1).toInt ≤ (σ43 9 0).toInt) := id I48
        have i55 : (-1) ≤ (σ43 9 2).toInt := I49
        have z56 : (σ43 9 0).toInt = (σ 9 0).toInt := by rw [(show σ43 9 0 = (σ 9 0) from (by rw [f46 0 (by omega)]; exact (by rw [f33 0 (by omega)]; exact (by rw [f12 0 (by omega)]))))]
        have z57 : (σ43 9 2).toInt = (σ9 9 2).toInt := by rw [(show σ43 9 2 = (σ9 9 2) from (by rw [f46 2 (by omega)]; exact (by rw [f33 2 (by omega)])))]
        refine lv_if_eq (tgt := 117) hx hb dX7_readOrder_85 (by decide) (fun c58 => ?_) (fun c58 => ?_)
        · have kc58 := jeq c58 rfl jz_0
          refine lv_aload_n hx hb dX7_readOrder_117 rfl (lv_at hl 3 rfl) ?_
          refine lv_bipush (v := 114) hx hb dX7_readOrder_118 (by decide) ?_
          refine jcallV (As := [.int 114]) (rest := []) ⟨hx, hb, hml, hown, hts⟩ hK hP hA hS hZ (c_X7_skip_9 l D cI cL ad zz hJ σ43 τ 114 (114) jz_114 I47 I48 I49 (by omega)) cw_RX7_50 (jc_9 cI cL ad σ43 τ) rfl ⟨Nat.le_of_ble_eq_true rfl, Nat.le_of_ble_eq_true rfl⟩ rfl rfl rfl hl.1 rfl (Nat.le_of_ble_eq_true rfl) dX7_readOrder_120 ⟨Nat.zero_le _, Nat.zero_le _⟩ (fun r60 σ59 τ59 H locs h59 hP hS => ?_)
          obtain ⟨rfl, f61, f62, I63, I64, I65, h59⟩ := h59
          obtain ⟨i66, w67, w68⟩ : (0 ≤ (σ59 9 0).toInt ∧ (σ59 9 0).toInt ≤ 80) ∧ (∀ k : Nat, k < 80 → 0 ≤ (σ59 10 k).toInt ∧ (σ59 10 k).toInt ≤ 255) ∧ (∀ k : Nat, k < 8 → 0 ≤ (σ59 11 k).toInt ∧ (σ59 11 k).toInt ≤ 3) := id I63
          obtain ⟨i69, i70⟩ : (0 ≤ (σ59 9 1).toInt) ∧ ((σ59 9 1).toInt ≤ (σ59 9 0).toInt) := id I64
          have i71 : (-1) ≤ (σ59 9 2).toInt := I65
          have z72 : (σ59 9 0).toInt = (σ 9 0).toInt := by rw [(show σ59 9 0 = (σ 9 0) from (by rw [f62 0 (by omega)]; exact (by rw [f46 0 (by omega)]; exact (by rw [f33 0 (by omega)]; exact (by rw [f12 0 (by omega)])))))]
          have z73 : (σ59 9 2).toInt = (σ9 9 2).toInt := by rw [(show σ59 9 2 = (σ9 9 2) from (by rw [f62 2 (by omega)]; exact (by rw [f46 2 (by omega)]; exact (by rw [f33 2 (by omega)]))))]
          refine lv_if_eq (tgt := 133) hx hb dX7_readOrder_123 (by decide) (fun c74 => ?_) (fun c74 => ?_)
          · have kc74 := jeq c74 rfl jz_0
            refine lv_aload_n hx hb dX7_readOrder_133 rfl (lv_at hl 3 rfl) ?_
            refine jcallV (As := []) (rest := []) ⟨hx, hb, hml, hown, hts⟩ hK hP hA hS hZ (c_X7_end_9 l D cI cL ad zz hJ σ59 τ I63 I64 I65) cw_RX7_57 (jc_9 cI cL ad σ59 τ) rfl ⟨Nat.le_of_ble_eq_true rfl, Nat.le_of_ble_eq_true rfl⟩ rfl rfl rfl hl.1 rfl (Nat.le_of_ble_eq_true rfl) dX7_readOrder_134 ⟨Nat.zero_le _, Nat.zero_le _⟩ (fun r76 σ75 τ75 H locs h75 hP hS => ?_)
            obtain ⟨rfl, f77, f78, I79, I80, h75⟩ := h75
            obtain ⟨i81, w82, w83⟩ : (0 ≤ (σ75 9 0).toInt ∧ (σ75 9 0).toInt ≤ 80) ∧ (∀ k : Nat, k < 80 → 0 ≤ (σ75 10 k).toInt ∧ (σ75 10 k).toInt ≤ 255) ∧ (∀ k : Nat, k < 8 → 0 ≤ (σ75 11 k).toInt ∧ (σ75 11 k).toInt ≤ 3) := id I79
            have i84 : (-1) ≤ (σ75 9 2).toInt := I80
            rcases h75 with h85 | h86
            · obtain ⟨q88, k87⟩ := h85
              have q88 := q88.symm
              subst q88
              refine lv_istore (lv' := [(5, .int (-1)), (4, .int 0), (3, .int 8), (2, .int x25), (0, .ref (ad 9)), (1, .ref (ad 16))]) hx hb dX7_readOrder_137 hl (by decide) rfl (fun ls hl => ?_)
              refine lv_iload hx hb dX7_readOrder_139 (lv_at hl 0 rfl) ?_
              refine lv_iconst (v := (-1)) hx hb dX7_readOrder_141 (by decide) ?_
              refine lv_icmp_eq (tgt := 148) hx hb dX7_readOrder_142 (by decide) (fun _ => ?_) (fun c => absurd (by decide) c)
              refine lv_aload_n hx hb dX7_readOrder_148 rfl (lv_at hl 5 rfl) ?_
              refine lv_iload_n hx hb dX7_readOrder_149 rfl (lv_at hl 3 rfl) ?_
              refine jput (ty := .int) hx hb hts inlX6 tyX6 tyX6_ok nmX6 hown hK hP hJ hA hS (jc_16 cI cL ad σ75 τ) rfl (k := 0) (by decide) (Nat.le_of_ble_eq_true rfl) (jp_16_0 cI cL ad σ75 τ x25) (hts _ kw_13_18) (fun _ h9 => h9) rfl (by decide +kernel) rfl rfl dX7_readOrder_150 (fun σ89 H locs eσ89 hP hS => ?_)
              refine lv_aload_n hx hb dX7_readOrder_153 rfl (lv_at hl 5 rfl) ?_
              refine lv_iload_n hx hb dX7_readOrder_154 rfl (lv_at hl 2 rfl) ?_
              refine jput (ty := .int) hx hb hts inlX6 tyX6 tyX6_ok nmX6 hown hK hP hJ hA hS (jc_16 cI cL ad σ89 τ) rfl (k := 1) (by decide) (Nat.le_of_ble_eq_true rfl) (jp_16_1 cI cL ad σ89 τ 8) (hts _ kw_13_19) (fun _ h9 => h9) rfl (by decide +kernel) rfl rfl dX7_readOrder_155 (fun σ90 H locs eσ90 hP hS => ?_)
              refine lv_aload_n hx hb dX7_readOrder_158 rfl (lv_at hl 5 rfl) ?_
              refine lv_iload hx hb dX7_readOrder_159 (lv_at hl 1 rfl) ?_
              refine jput (ty := .int) hx hb hts inlX6 tyX6 tyX6_ok nmX6 hown hK hP hJ hA hS (jc_16 cI cL ad σ90 τ) rfl (k := 2) (by decide) (Nat.le_of_ble_eq_true rfl) (jp_16_2 cI cL ad σ90 τ 0) (hts _ kw_13_20) (fun _ h9 => h9) rfl (by decide +kernel) rfl rfl dX7_readOrder_161 (fun σ91 H locs eσ91 hP hS => ?_)
              refine lv_aload_n hx hb dX7_readOrder_164 rfl (lv_at hl 4 rfl) ?_
              refine va_get (D := D) hx hb hts inlX7 hown hK hP 9 (jc_9 cI cL ad σ91 τ) rfl 4 (by decide) (hts _ kw_3_21) (fun _ h9 => h9) rfl dX7_readOrder_165 ?_
              refine lv_iconst (v := 0) hx hb dX7_readOrder_168 (by decide) ?_
              refine lv_aload_n hx hb dX7_readOrder_169 rfl (lv_at hl 5 rfl) ?_
              refine va_get (D := D) hx hb hts inlX6 hown hK hP 16 (jc_16 cI cL ad σ91 τ) rfl 3 (by decide) (hts _ kw_13_21) (fun _ h9 => h9) rfl dX7_readOrder_170 ?_
              refine lv_iconst (v := 0) hx hb dX7_readOrder_173 (by decide) ?_
              refine lv_iload_n hx hb dX7_readOrder_174 rfl (lv_at hl 3 rfl) ?_
              refine jcpyI (q0 := 11) (q1 := 17) hx hb (hml.trans hl.1.symm) hown (hts _ kw_13_22) (hts _ kw_13_23) (hts _ kw_14_0) (hts _ kw_14_1) hK hP hJ hA hS (jc_11 cI cL ad σ91 τ) (jc_17 cI cL ad σ91 τ) (fun _ => rfl) jz_0 jz_0 rfl (by omega) (by omega) (by omega) (by omega) (by omega) (Nat.le_of_ble_eq_true rfl) (Nat.le_of_ble_eq_true rfl) dX7_readOrder_175 (fun σ92 H locs eσ92 hP hS => ?_)
              have w93 : ∀ k : Nat, k < 8 → 0 ≤ (σ91 11 k).toInt ∧ (σ91 11 k).toInt ≤ 3 := (by rw [eσ91, jup_n (by decide)]; exact (by rw [eσ90, jup_n (by decide)]; exact (by rw [eσ89, jup_n (by decide)]; exact w83)))
              have w94 : ∀ k : Nat, k < 8 → 0 ≤ (σ91 17 k).toInt ∧ (σ91 17 k).toInt ≤ 3 := (by rw [eσ91, jup_n (by decide)]; exact (by rw [eσ90, jup_n (by decide)]; exact (by rw [eσ89, jup_n (by decide)]; exact (by rw [f77 17 (by omega)]; exact (by rw [f61 17 (by omega)]; exact (by rw [f45 17 (by omega)]; exact (by rw [f32 17 (by omega)]; exact (by rw [f11 17 (by omega)]; exact w7))))))))
              have f95 : (∀ i : Nat, (i < 17 ∨ 17 < i) → σ92 i = σ91 i) := by rw [eσ92]; exact jrow_n
              have w96 : ∀ k : Nat, k < 8 → 0 ≤ (σ92 17 k).toInt ∧ (σ92 17 k).toInt ≤ 3 := by rw [eσ92]; exact jrow_rr w93 w94 jz_0 rfl (n0 := 8) (by omega) (by omega) (by omega)
              refine lv_iconst (v := (-1)) hx hb dX7_readOrder_178 (by decide) ?_
              have z97 : (σ92 9 0).toInt = (σ75 9 0).toInt := by rw [(show σ92 9 0 = (σ75 9 0) from (by rw [f95 9 (by omega)]; exact (by rw [eσ91, jup_n (by decide)]; exact (by rw [eσ90, jup_n (by decide)]; exact (by rw [eσ89, jup_n (by decide)])))))]
              have w98 : ∀ k : Nat, k < 80 → 0 ≤ (σ92 10 k).toInt ∧ (σ92 10 k).toInt ≤ 255 := (by rw [f95 10 (by omega)]; exact (by rw [eσ91, jup_n (by decide)]; exact (by rw [eσ90, jup_n (by decide)]; exact (by rw [eσ89, jup_n (by decide)]; exact w82))))
              have w99 : ∀ k : Nat, k < 8 → 0 ≤ (σ92 11 k).toInt ∧ (σ92 11 k).toInt ≤ 3 := (by rw [f95 11 (by omega)]; exact w93)
              have I100 : jI9 σ92 := ⟨(by omega), w98, w99⟩
              have z101 : (σ92 16 0).toInt = x25.toInt := by rw [(show σ92 16 0 = x25 from (by rw [f95 16 (by omega)]; exact (by rw [eσ91, jup_k (by decide)]; exact (by rw [eσ90, jup_k (by decide)]; exact (by rw [eσ89]; exact jup_s)))))]
              have z102 : (σ92 16 1).toInt = 8 := by rw [(show σ92 16 1 = 8 from (by rw [f95 16 (by omega)]; exact (by rw [eσ91, jup_k (by decide)]; exact (by rw [eσ90]; exact jup_s))))]; exact jz_8
              have z103 : (σ92 16 2).toInt = 0 := by rw [(show σ92 16 2 = 0 from (by rw [f95 16 (by omega)]; exact (by rw [eσ91]; exact jup_s)))]; exact jz_0
              have I104 : jI16 σ92 := ⟨(by omega), (by omega), (by omega), w96⟩
              exact hret (-1) σ92 τ _ _ _ _ rfl ⟨rfl, (fun i hi => by rw [f95 i (by omega), eσ91, jup_n (by omega), eσ90, jup_n (by omega), eσ89, jup_n (by omega), f77 i (by omega), f61 i (by omega), f45 i (by omega), f32 i (by omega), f11 i (by omega)]), (fun k hk => by rw [f95 9 (by omega), eσ91, jup_n (by decide), eσ90, jup_n (by decide), eσ89, jup_n (by decide), f78 k (by omega), f62 k (by omega), f46 k (by omega), f33 k (by omega), f12 k (by omega)]), (fun k hk => by rw [f95 16 (by omega), eσ91, jup_k (by omega), eσ90, jup_k (by omega), eσ89, jup_k (by omega), f77 16 (by omega), f61 16 (by omega), f45 16 (by omega), f32 16 (by omega), f11 16 (by omega)]), I100, I104, trivial⟩ hP hS dX7_readOrder_179
            · obtain ⟨q106, k105⟩ := h86
              refine lv_istore (lv' := [(5, .int r76), (4, .int 0), (3, .int 8), (2, .int x25), (0, .ref (ad 9)), (1, .ref (ad 16))]) hx hb dX7_readOrder_137 hl (by decide) rfl (fun ls hl => ?_)
              refine lv_iload hx hb dX7_readOrder_139 (lv_at hl 0 rfl) ?_
              refine lv_iconst (v := (-1)) hx hb dX7_readOrder_141 (by decide) ?_
              refine lv_icmp_eq (tgt := 148) hx hb dX7_readOrder_142 (by decide) (fun c => absurd (jeq c rfl jz_m1) (by omega)) (fun c107 => ?_)
              have kc107 := jne c107 rfl jz_m1
              refine lv_iload hx hb dX7_readOrder_145 (lv_at hl 0 rfl) ?_
              have z108 : (σ75 16 0).toInt = (σ 16 0).toInt := by rw [(show σ75 16 0 = (σ 16 0) from (by rw [f77 16 (by omega)]; exact (by rw [f61 16 (by omega)]; exact (by rw [f45 16 (by omega)]; exact (by rw [f32 16 (by omega)]; exact (by rw [f11 16 (by omega)]))))))]
              have z109 : (σ75 16 1).toInt = (σ 16 1).toInt := by rw [(show σ75 16 1 = (σ 16 1) from (by rw [f77 16 (by omega)]; exact (by rw [f61 16 (by omega)]; exact (by rw [f45 16 (by omega)]; exact (by rw [f32 16 (by omega)]; exact (by rw [f11 16 (by omega)]))))))]
              have z110 : (σ75 16 2).toInt = (σ 16 2).toInt := by rw [(show σ75 16 2 = (σ 16 2) from (by rw [f77 16 (by omega)]; exact (by rw [f61 16 (by omega)]; exact (by rw [f45 16 (by omega)]; exact (by rw [f32 16 (by omega)]; exact (by rw [f11 16 (by omega)]))))))]
              have w111 : ∀ k : Nat, k < 8 → 0 ≤ (σ75 17 k).toInt ∧ (σ75 17 k).toInt ≤ 3 := (by rw [f77 17 (by omega)]; exact (by rw [f61 17 (by omega)]; exact (by rw [f45 17 (by omega)]; exact (by rw [f32 17 (by omega)]; exact (by rw [f11 17 (by omega)]; exact w7)))))
              have I112 : jI16 σ75 := ⟨(by omega), (by omega), (by omega), w111⟩
              exact hret r76 σ75 τ _ _ _ _ rfl ⟨rfl, (fun i hi => by rw [f77 i (by omega), f61 i (by omega), f45 i (by omega), f32 i (by omega), f11 i (by omega)]), (fun k hk => by rw [f78 k (by omega), f62 k (by omega), f46 k (by omega), f33 k (by omega), f12 k (by omega)]), (fun k hk => by rw [f77 16 (by omega), f61 16 (by omega), f45 16 (by omega), f32 16 (by omega), f11 16 (by omega)]), I79, I112, trivial⟩ hP hS dX7_readOrder_147
          · have kc74 := jne c74 rfl jz_0
            refine lv_aload_n hx hb dX7_readOrder_126 rfl (lv_at hl 3 rfl) ?_
            refine lv_iconst (v := 3) hx hb dX7_readOrder_127 (by decide) ?_
            refine jcallV (As := [.int 3]) (rest := []) ⟨hx, hb, hml, hown, hts⟩ hK hP hA hS hZ (c_X7_number_3 l D cI cL ad zz hJ σ59 τ I63 I64 I65) cw_RX7_53 (jc_9 cI cL ad σ59 τ) rfl ⟨Nat.le_of_ble_eq_true rfl, Nat.le_of_ble_eq_true rfl⟩ rfl rfl rfl hl.1 rfl (Nat.le_of_ble_eq_true rfl) dX7_readOrder_128 ⟨Nat.zero_le _, Nat.zero_le _⟩ (fun r114 σ113 τ113 H locs h113 hP hS => ?_)
            obtain ⟨rfl, f115, f116, I117, I118, I119, h113⟩ := h113
            obtain ⟨i120, w121, w122⟩ : (0 ≤ (σ113 9 0).toInt ∧ (σ113 9 0).toInt ≤ 80) ∧ (∀ k : Nat, k < 80 → 0 ≤ (σ113 10 k).toInt ∧ (σ113 10 k).toInt ≤ 255) ∧ (∀ k : Nat, k < 8 → 0 ≤ (σ113 11 k).toInt ∧ (σ113 11 k).toInt ≤ 3) := id I117
            obtain ⟨i123, i124⟩ : (0 ≤ (σ113 9 1).toInt) ∧ ((σ113 9 1).toInt ≤ (σ113 9 0).toInt) := id I118
            have i125 : (-1) ≤ (σ113 9 2).toInt := I119
            have z126 : (σ113 9 0).toInt = (σ 9 0).toInt := by rw [(show σ113 9 0 = (σ 9 0) from (by rw [f116 0 (by omega)]; exact (by rw [f62 0 (by omega)]; exact (by rw [f46 0 (by omega)]; exact (by rw [f33 0 (by omega)]; exact (by rw [f12 0 (by omega)]))))))]
            obtain ⟨k127, h113⟩ := h113
            have h128 := h113
            obtain ⟨q130, k129⟩ := h128
            refine lv_istore (lv' := [(4, .int r114), (3, .int 8), (2, .int x25), (0, .ref (ad 9)), (1, .ref (ad 16))]) hx hb dX7_readOrder_131 hl (by decide) rfl (fun ls hl => ?_)
            refine lv_aload_n hx hb dX7_readOrder_133 rfl (lv_at hl 3 rfl) ?_
            refine jcallV (As := []) (rest := []) ⟨hx, hb, hml, hown, hts⟩ hK hP hA hS hZ (c_X7_end_9 l D cI cL ad zz hJ σ113 τ I117 I118 I119) cw_RX7_57 (jc_9 cI cL ad σ113 τ) rfl ⟨Nat.le_of_ble_eq_true rfl, Nat.le_of_ble_eq_true rfl⟩ rfl rfl rfl hl.1 rfl (Nat.le_of_ble_eq_true rfl) dX7_readOrder_134 ⟨Nat.zero_le _, Nat.zero_le _⟩ (fun r132 σ131 τ131 H locs h131 hP hS => ?_)
            obtain ⟨rfl, f133, f134, I135, I136, h131⟩ := h131
            obtain ⟨i137, w138, w139⟩ : (0 ≤ (σ131 9 0).toInt ∧ (σ131 9 0).toInt ≤ 80) ∧ (∀ k : Nat, k < 80 → 0 ≤ (σ131 10 k).toInt ∧ (σ131 10 k).toInt ≤ 255) ∧ (∀ k : Nat, k < 8 → 0 ≤ (σ131 11 k).toInt ∧ (σ131 11 k).toInt ≤ 3) := id I135
            have i140 : (-1) ≤ (σ131 9 2).toInt := I136
            rcases h131 with h141 | h142
            · obtain ⟨q144, k143⟩ := h141
              have q144 := q144.symm
              subst q144
              refine lv_istore (lv' := [(5, .int (-1)), (4, .int r114), (3, .int 8), (2, .int x25), (0, .ref (ad 9)), (1, .ref (ad 16))]) hx hb dX7_readOrder_137 hl (by decide) rfl (fun ls hl => ?_)
              refine lv_iload hx hb dX7_readOrder_139 (lv_at hl 0 rfl) ?_
              refine lv_iconst (v := (-1)) hx hb dX7_readOrder_141 (by decide) ?_
              refine lv_icmp_eq (tgt := 148) hx hb dX7_readOrder_142 (by decide) (fun _ => ?_) (fun c => absurd (by decide) c)
              refine lv_aload_n hx hb dX7_readOrder_148 rfl (lv_at hl 5 rfl) ?_
              refine lv_iload_n hx hb dX7_readOrder_149 rfl (lv_at hl 3 rfl) ?_
              refine jput (ty := .int) hx hb hts inlX6 tyX6 tyX6_ok nmX6 hown hK hP hJ hA hS (jc_16 cI cL ad σ131 τ) rfl (k := 0) (by decide) (Nat.le_of_ble_eq_true rfl) (jp_16_0 cI cL ad σ131 τ x25) (hts _ kw_13_18) (fun _ h9 => h9) rfl (by decide +kernel) rfl rfl dX7_readOrder_150 (fun σ145 H locs eσ145 hP hS => ?_)
              refine lv_aload_n hx hb dX7_readOrder_153 rfl (lv_at hl 5 rfl) ?_
              refine lv_iload_n hx hb dX7_readOrder_154 rfl (lv_at hl 2 rfl) ?_
              refine jput (ty := .int) hx hb hts inlX6 tyX6 tyX6_ok nmX6 hown hK hP hJ hA hS (jc_16 cI cL ad σ145 τ) rfl (k := 1) (by decide) (Nat.le_of_ble_eq_true rfl) (jp_16_1 cI cL ad σ145 τ 8) (hts _ kw_13_19) (fun _ h9 => h9) rfl (by decide +kernel) rfl rfl dX7_readOrder_155 (fun σ146 H locs eσ146 hP hS => ?_)
              refine lv_aload_n hx hb dX7_readOrder_158 rfl (lv_at hl 5 rfl) ?_
              refine lv_iload hx hb dX7_readOrder_159 (lv_at hl 1 rfl) ?_
              refine jput (ty := .int) hx hb hts inlX6 tyX6 tyX6_ok nmX6 hown hK hP hJ hA hS (jc_16 cI cL ad σ146 τ) rfl (k := 2) (by decide) (Nat.le_of_ble_eq_true rfl) (jp_16_2 cI cL ad σ146 τ r114) (hts _ kw_13_20) (fun _ h9 => h9) rfl (by decide +kernel) rfl rfl dX7_readOrder_161 (fun σ147 H locs eσ147 hP hS => ?_)
              refine lv_aload_n hx hb dX7_readOrder_164 rfl (lv_at hl 4 rfl) ?_
              refine va_get (D := D) hx hb hts inlX7 hown hK hP 9 (jc_9 cI cL ad σ147 τ) rfl 4 (by decide) (hts _ kw_3_21) (fun _ h9 => h9) rfl dX7_readOrder_165 ?_
              refine lv_iconst (v := 0) hx hb dX7_readOrder_168 (by decide) ?_
              refine lv_aload_n hx hb dX7_readOrder_169 rfl (lv_at hl 5 rfl) ?_
              refine va_get (D := D) hx hb hts inlX6 hown hK hP 16 (jc_16 cI cL ad σ147 τ) rfl 3 (by decide) (hts _ kw_13_21) (fun _ h9 => h9) rfl dX7_readOrder_170 ?_
              refine lv_iconst (v := 0) hx hb dX7_readOrder_173 (by decide) ?_
              refine lv_iload_n hx hb dX7_readOrder_174 rfl (lv_at hl 3 rfl) ?_
              refine jcpyI (q0 := 11) (q1 := 17) hx hb (hml.trans hl.1.symm) hown (hts _ kw_13_22) (hts _ kw_13_23) (hts _ kw_14_0) (hts _ kw_14_1) hK hP hJ hA hS (jc_11 cI cL ad σ147 τ) (jc_17 cI cL ad σ147 τ) (fun _ => rfl) jz_0 jz_0 rfl (by omega) (by omega) (by omega) (by omega) (by omega) (Nat.le_of_ble_eq_true rfl) (Nat.le_of_ble_eq_true rfl) dX7_readOrder_175 (fun σ148 H locs eσ148 hP hS => ?_)
              have w149 : ∀ k : Nat, k < 8 → 0 ≤ (σ147 11 k).toInt ∧ (σ147 11 k).toInt ≤ 3 := (by rw [eσ147, jup_n (by decide)]; exact (by rw [eσ146, jup_n (by decide)]; exact (by rw [eσ145, jup_n (by decide)]; exact w139)))
              have w150 : ∀ k : Nat, k < 8 → 0 ≤ (σ147 17 k).toInt ∧ (σ147 17 k).toInt ≤ 3 := (by rw [eσ147, jup_n (by decide)]; exact (by rw [eσ146, jup_n (by decide)]; exact (by rw [eσ145, jup_n (by decide)]; exact (by rw [f133 17 (by omega)]; exact (by rw [f115 17 (by omega)]; exact (by rw [f61 17 (by omega)]; exact (by rw [f45 17 (by omega)]; exact (by rw [f32 17 (by omega)]; exact (by rw [f11 17 (by omega)]; exact w7)))))))))
              have f151 : (∀ i : Nat, (i < 17 ∨ 17 < i) → σ148 i = σ147 i) := by rw [eσ148]; exact jrow_n
              have w152 : ∀ k : Nat, k < 8 → 0 ≤ (σ148 17 k).toInt ∧ (σ148 17 k).toInt ≤ 3 := by rw [eσ148]; exact jrow_rr w149 w150 jz_0 rfl (n0 := 8) (by omega) (by omega) (by omega)
              refine lv_iconst (v := (-1)) hx hb dX7_readOrder_178 (by decide) ?_
              have z153 : (σ148 9 0).toInt = (σ131 9 0).toInt := by rw [(show σ148 9 0 = (σ131 9 0) from (by rw [f151 9 (by omega)]; exact (by rw [eσ147, jup_n (by decide)]; exact (by rw [eσ146, jup_n (by decide)]; exact (by rw [eσ145, jup_n (by decide)])))))]
              have w154 : ∀ k : Nat, k < 80 → 0 ≤ (σ148 10 k).toInt ∧ (σ148 10 k).toInt ≤ 255 := (by rw [f151 10 (by omega)]; exact (by rw [eσ147, jup_n (by decide)]; exact (by rw [eσ146, jup_n (by decide)]; exact (by rw [eσ145, jup_n (by decide)]; exact w138))))
              have w155 : ∀ k : Nat, k < 8 → 0 ≤ (σ148 11 k).toInt ∧ (σ148 11 k).toInt ≤ 3 := (by rw [f151 11 (by omega)]; exact w149)
              have I156 : jI9 σ148 := ⟨(by omega), w154, w155⟩
              have z157 : (σ148 16 0).toInt = x25.toInt := by rw [(show σ148 16 0 = x25 from (by rw [f151 16 (by omega)]; exact (by rw [eσ147, jup_k (by decide)]; exact (by rw [eσ146, jup_k (by decide)]; exact (by rw [eσ145]; exact jup_s)))))]
              have z158 : (σ148 16 1).toInt = 8 := by rw [(show σ148 16 1 = 8 from (by rw [f151 16 (by omega)]; exact (by rw [eσ147, jup_k (by decide)]; exact (by rw [eσ146]; exact jup_s))))]; exact jz_8
              have z159 : (σ148 16 2).toInt = r114.toInt := by rw [(show σ148 16 2 = r114 from (by rw [f151 16 (by omega)]; exact (by rw [eσ147]; exact jup_s)))]
              have I160 : jI16 σ148 := ⟨(by omega), (by omega), (by omega), w152⟩
              exact hret (-1) σ148 τ _ _ _ _ rfl ⟨rfl, (fun i hi => by rw [f151 i (by omega), eσ147, jup_n (by omega), eσ146, jup_n (by omega), eσ145, jup_n (by omega), f133 i (by omega), f115 i (by omega), f61 i (by omega), f45 i (by omega), f32 i (by omega), f11 i (by omega)]), (fun k hk => by rw [f151 9 (by omega), eσ147, jup_n (by decide), eσ146, jup_n (by decide), eσ145, jup_n (by decide), f134 k (by omega), f116 k (by omega), f62 k (by omega), f46 k (by omega), f33 k (by omega), f12 k (by omega)]), (fun k hk => by rw [f151 16 (by omega), eσ147, jup_k (by omega), eσ146, jup_k (by omega), eσ145, jup_k (by omega), f133 16 (by omega), f115 16 (by omega), f61 16 (by omega), f45 16 (by omega), f32 16 (by omega), f11 16 (by omega)]), I156, I160, trivial⟩ hP hS dX7_readOrder_179
            · obtain ⟨q162, k161⟩ := h142
              refine lv_istore (lv' := [(5, .int r132), (4, .int r114), (3, .int 8), (2, .int x25), (0, .ref (ad 9)), (1, .ref (ad 16))]) hx hb dX7_readOrder_137 hl (by decide) rfl (fun ls hl => ?_)
              refine lv_iload hx hb dX7_readOrder_139 (lv_at hl 0 rfl) ?_
              refine lv_iconst (v := (-1)) hx hb dX7_readOrder_141 (by decide) ?_
              refine lv_icmp_eq (tgt := 148) hx hb dX7_readOrder_142 (by decide) (fun c => absurd (jeq c rfl jz_m1) (by omega)) (fun c163 => ?_)
              have kc163 := jne c163 rfl jz_m1
              refine lv_iload hx hb dX7_readOrder_145 (lv_at hl 0 rfl) ?_
              have z164 : (σ131 16 0).toInt = (σ 16 0).toInt := by rw [(show σ131 16 0 = (σ 16 0) from (by rw [f133 16 (by omega)]; exact (by rw [f115 16 (by omega)]; exact (by rw [f61 16 (by omega)]; exact (by rw [f45 16 (by omega)]; exact (by rw [f32 16 (by omega)]; exact (by rw [f11 16 (by omega)])))))))]
              have z165 : (σ131 16 1).toInt = (σ 16 1).toInt := by rw [(show σ131 16 1 = (σ 16 1) from (by rw [f133 16 (by omega)]; exact (by rw [f115 16 (by omega)]; exact (by rw [f61 16 (by omega)]; exact (by rw [f45 16 (by omega)]; exact (by rw [f32 16 (by omega)]; exact (by rw [f11 16 (by omega)])))))))]
              have z166 : (σ131 16 2).toInt = (σ 16 2).toInt := by rw [(show σ131 16 2 = (σ 16 2) from (by rw [f133 16 (by omega)]; exact (by rw [f115 16 (by omega)]; exact (by rw [f61 16 (by omega)]; exact (by rw [f45 16 (by omega)]; exact (by rw [f32 16 (by omega)]; exact (by rw [f11 16 (by omega)])))))))]
              have w167 : ∀ k : Nat, k < 8 → 0 ≤ (σ131 17 k).toInt ∧ (σ131 17 k).toInt ≤ 3 := (by rw [f133 17 (by omega)]; exact (by rw [f115 17 (by omega)]; exact (by rw [f61 17 (by omega)]; exact (by rw [f45 17 (by omega)]; exact (by rw [f32 17 (by omega)]; exact (by rw [f11 17 (by omega)]; exact w7))))))
              have I168 : jI16 σ131 := ⟨(by omega), (by omega), (by omega), w167⟩
              exact hret r132 σ131 τ _ _ _ _ rfl ⟨rfl, (fun i hi => by rw [f133 i (by omega), f115 i (by omega), f61 i (by omega), f45 i (by omega), f32 i (by omega), f11 i (by omega)]), (fun k hk => by rw [f134 k (by omega), f116 k (by omega), f62 k (by omega), f46 k (by omega), f33 k (by omega), f12 k (by omega)]), (fun k hk => by rw [f133 16 (by omega), f115 16 (by omega), f61 16 (by omega), f45 16 (by omega), f32 16 (by omega), f11 16 (by omega)]), I135, I168, trivial⟩ hP hS dX7_readOrder_147
        · have kc58 := jne c58 rfl jz_0
          refine lv_aload_n hx hb dX7_readOrder_88 rfl (lv_at hl 3 rfl) ?_
          refine va_get (D := D) hx hb hts inlX7 hown hK hP 9 (jc_9 cI cL ad σ43 τ) rfl 1 (by decide) (hts _ kw_13_17) (fun _ h9 => h9) rfl dX7_readOrder_89 ?_
          refine lv_istore (lv' := [(5, .int (σ43 9 1)), (4, .int 0), (3, .int 8), (2, .int x25), (0, .ref (ad 9)), (1, .ref (ad 16))]) hx hb dX7_readOrder_92 hl (by decide) rfl (fun ls hl => ?_)
          refine lv_aload_n hx hb dX7_readOrder_94 rfl (lv_at hl 4 rfl) ?_
          refine lv_iconst (v := 2) hx hb dX7_readOrder_95 (by decide) ?_
          refine jcallV (As := [.int 2]) (rest := []) ⟨hx, hb, hml, hown, hts⟩ hK hP hA hS hZ (c_X7_number_2 l D cI cL ad zz hJ σ43 τ I47 I48 I49) cw_RX7_53 (jc_9 cI cL ad σ43 τ) rfl ⟨Nat.le_of_ble_eq_true rfl, Nat.le_of_ble_eq_true rfl⟩ rfl rfl rfl hl.1 rfl (Nat.le_of_ble_eq_true rfl) dX7_readOrder_96 ⟨Nat.zero_le _, Nat.zero_le _⟩ (fun r170 σ169 τ169 H locs h169 hP hS => ?_)
          obtain ⟨rfl, f171, f172, I173, I174, I175, h169⟩ := h169
          obtain ⟨i176, w177, w178⟩ : (0 ≤ (σ169 9 0).toInt ∧ (σ169 9 0).toInt ≤ 80) ∧ (∀ k : Nat, k < 80 → 0 ≤ (σ169 10 k).toInt ∧ (σ169 10 k).toInt ≤ 255) ∧ (∀ k : Nat, k < 8 → 0 ≤ (σ169 11 k).toInt ∧ (σ169 11 k).toInt ≤ 3) := id I173
          obtain ⟨i179, i180⟩ : (0 ≤ (σ169 9 1).toInt) ∧ ((σ169 9 1).toInt ≤ (σ169 9 0).toInt) := id I174
          have i181 : (-1) ≤ (σ169 9 2).toInt := I175
          have z182 : (σ169 9 0).toInt = (σ 9 0).toInt := by rw [(show σ169 9 0 = (σ 9 0) from (by rw [f172 0 (by omega)]; exact (by rw [f46 0 (by omega)]; exact (by rw [f33 0 (by omega)]; exact (by rw [f12 0 (by omega)])))))]
          obtain ⟨k183, h169⟩ := h169
          have h184 := h169
          obtain ⟨q186, k185⟩ := h184
          refine lv_istore_n (lv' := [(3, .int r170), (5, .int (σ43 9 1)), (4, .int 0), (2, .int x25), (0, .ref (ad 9)), (1, .ref (ad 16))]) hx hb dX7_readOrder_99 rfl hl (by decide) rfl (fun ls hl => ?_)
          refine lv_iload_n hx hb dX7_readOrder_100 rfl (lv_at hl 0 rfl) ?_
          refine lv_iconst (v := 1) hx hb dX7_readOrder_101 (by decide) ?_
          refine lv_icmp_lt (tgt := 111) hx hb dX7_readOrder_102 (by decide) (fun c187 => ?_) (fun c187 => ?_)
          · have kc187 := jlt c187 rfl jz_1
            refine lv_aload_n hx hb dX7_readOrder_111 rfl (lv_at hl 4 rfl) ?_
            refine lv_iload hx hb dX7_readOrder_112 (lv_at hl 1 rfl) ?_
            refine jcallVv (As := [.int (σ43 9 1)]) (rest := []) ⟨hx, hb, hml, hown, hts⟩ hK hP hA hS hZ (c_X7_fail_9 l D cI cL ad zz hJ σ169 τ (σ43 9 1) ((σ43 9 1).toInt) rfl I175 (by omega)) cw_RX7_43 (jc_9 cI cL ad σ169 τ) rfl ⟨Nat.le_of_ble_eq_true rfl, Nat.le_of_ble_eq_true rfl⟩ rfl rfl rfl hl.1 rfl (Nat.le_of_ble_eq_true rfl) dX7_readOrder_114 ⟨Nat.zero_le _, Nat.zero_le _⟩ (fun σ188 τ188 H locs h188 hP hS => ?_)
            obtain ⟨rfl, f190, f191, h188⟩ := h188
            obtain ⟨k192, h188⟩ := h188
            refine lv_aload_n hx hb dX7_readOrder_117 rfl (lv_at hl 4 rfl) ?_
            refine lv_bipush (v := 114) hx hb dX7_readOrder_118 (by decide) ?_
            have z193 : (σ188 9 0).toInt = (σ 9 0).toInt := by rw [(show σ188 9 0 = (σ 9 0) from (by rw [f191 0 (by omega)]; exact (by rw [f172 0 (by omega)]; exact (by rw [f46 0 (by omega)]; exact (by rw [f33 0 (by omega)]; exact (by rw [f12 0 (by omega)]))))))]
            have w194 : ∀ k : Nat, k < 80 → 0 ≤ (σ188 10 k).toInt ∧ (σ188 10 k).toInt ≤ 255 := (by rw [f190 10 (by omega)]; exact w177)
            have w195 : ∀ k : Nat, k < 8 → 0 ≤ (σ188 11 k).toInt ∧ (σ188 11 k).toInt ≤ 3 := (by rw [f190 11 (by omega)]; exact w178)
            have I196 : jI9 σ188 := ⟨(by omega), w194, w195⟩
            have z197 : (σ188 9 1).toInt = (σ169 9 1).toInt := by rw [(show σ188 9 1 = (σ169 9 1) from (by rw [f191 1 (by omega)]))]
            have I198 : jI91 σ188 := ⟨(by omega), (by omega)⟩
            have I199 : jI92 σ188 := (show (-1) ≤ (σ188 9 2).toInt by omega)
            refine jcallV (As := [.int 114]) (rest := []) ⟨hx, hb, hml, hown, hts⟩ hK hP hA hS hZ (c_X7_skip_9 l D cI cL ad zz hJ σ188 τ 114 (114) jz_114 I196 I198 I199 (by omega)) cw_RX7_50 (jc_9 cI cL ad σ188 τ) rfl ⟨Nat.le_of_ble_eq_true rfl, Nat.le_of_ble_eq_true rfl⟩ rfl rfl rfl hl.1 rfl (Nat.le_of_ble_eq_true rfl) dX7_readOrder_120 ⟨Nat.zero_le _, Nat.zero_le _⟩ (fun r201 σ200 τ200 H locs h200 hP hS => ?_)
            obtain ⟨rfl, f202, f203, I204, I205, I206, h200⟩ := h200
            obtain ⟨i207, w208, w209⟩ : (0 ≤ (σ200 9 0).toInt ∧ (σ200 9 0).toInt ≤ 80) ∧ (∀ k : Nat, k < 80 → 0 ≤ (σ200 10 k).toInt ∧ (σ200 10 k).toInt ≤ 255) ∧ (∀ k : Nat, k < 8 → 0 ≤ (σ200 11 k).toInt ∧ (σ200 11 k).toInt ≤ 3) := id I204
            obtain ⟨i210, i211⟩ : (0 ≤ (σ200 9 1).toInt) ∧ ((σ200 9 1).toInt ≤ (σ200 9 0).toInt) := id I205
            have i212 : (-1) ≤ (σ200 9 2).toInt := I206
            have z213 : (σ200 9 0).toInt = (σ 9 0).toInt := by rw [(show σ200 9 0 = (σ 9 0) from (by rw [f203 0 (by omega)]; exact (by rw [f191 0 (by omega)]; exact (by rw [f172 0 (by omega)]; exact (by rw [f46 0 (by omega)]; exact (by rw [f33 0 (by omega)]; exact (by rw [f12 0 (by omega)])))))))]
            have z214 : (σ200 9 2).toInt = (σ188 9 2).toInt := by rw [(show σ200 9 2 = (σ188 9 2) from (by rw [f203 2 (by omega)]))]
            refine lv_if_eq (tgt := 133) hx hb dX7_readOrder_123 (by decide) (fun c215 => ?_) (fun c215 => ?_)
            · have kc215 := jeq c215 rfl jz_0
              refine lv_aload_n hx hb dX7_readOrder_133 rfl (lv_at hl 4 rfl) ?_
              refine jcallV (As := []) (rest := []) ⟨hx, hb, hml, hown, hts⟩ hK hP hA hS hZ (c_X7_end_9 l D cI cL ad zz hJ σ200 τ I204 I205 I206) cw_RX7_57 (jc_9 cI cL ad σ200 τ) rfl ⟨Nat.le_of_ble_eq_true rfl, Nat.le_of_ble_eq_true rfl⟩ rfl rfl rfl hl.1 rfl (Nat.le_of_ble_eq_true rfl) dX7_readOrder_134 ⟨Nat.zero_le _, Nat.zero_le _⟩ (fun r217 σ216 τ216 H locs h216 hP hS => ?_)
              obtain ⟨rfl, f218, f219, I220, I221, h216⟩ := h216
              obtain ⟨i222, w223, w224⟩ : (0 ≤ (σ216 9 0).toInt ∧ (σ216 9 0).toInt ≤ 80) ∧ (∀ k : Nat, k < 80 → 0 ≤ (σ216 10 k).toInt ∧ (σ216 10 k).toInt ≤ 255) ∧ (∀ k : Nat, k < 8 → 0 ≤ (σ216 11 k).toInt ∧ (σ216 11 k).toInt ≤ 3) := id I220
              have i225 : (-1) ≤ (σ216 9 2).toInt := I221
              rcases h216 with h226 | h227
              · obtain ⟨q229, k228⟩ := h226
                exact absurd (by omega : False) id
              · obtain ⟨q231, k230⟩ := h227
                refine lv_istore (lv' := [(5, .int r217), (3, .int r170), (4, .int 0), (2, .int x25), (0, .ref (ad 9)), (1, .ref (ad 16))]) hx hb dX7_readOrder_137 hl (by decide) rfl (fun ls hl => ?_)
                refine lv_iload hx hb dX7_readOrder_139 (lv_at hl 0 rfl) ?_
                refine lv_iconst (v := (-1)) hx hb dX7_readOrder_141 (by decide) ?_
                refine lv_icmp_eq (tgt := 148) hx hb dX7_readOrder_142 (by decide) (fun c => absurd (jeq c rfl jz_m1) (by omega)) (fun c232 => ?_)
                have kc232 := jne c232 rfl jz_m1
                refine lv_iload hx hb dX7_readOrder_145 (lv_at hl 0 rfl) ?_
                have z233 : (σ216 16 0).toInt = (σ 16 0).toInt := by rw [(show σ216 16 0 = (σ 16 0) from (by rw [f218 16 (by omega)]; exact (by rw [f202 16 (by omega)]; exact (by rw [f190 16 (by omega)]; exact (by rw [f171 16 (by omega)]; exact (by rw [f45 16 (by omega)]; exact (by rw [f32 16 (by omega)]; exact (by rw [f11 16 (by omega)]))))))))]
                have z234 : (σ216 16 1).toInt = (σ 16 1).toInt := by rw [(show σ216 16 1 = (σ 16 1) from (by rw [f218 16 (by omega)]; exact (by rw [f202 16 (by omega)]; exact (by rw [f190 16 (by omega)]; exact (by rw [f171 16 (by omega)]; exact (by rw [f45 16 (by omega)]; exact (by rw [f32 16 (by omega)]; exact (by rw [f11 16 (by omega)]))))))))]
                have z235 : (σ216 16 2).toInt = (σ 16 2).toInt := by rw [(show σ216 16 2 = (σ 16 2) from (by rw [f218 16 (by omega)]; exact (by rw [f202 16 (by omega)]; exact (by rw [f190 16 (by omega)]; exact (by rw [f171 16 (by omega)]; exact (by rw [f45 16 (by omega)]; exact (by rw [f32 16 (by omega)]; exact (by rw [f11 16 (by omega)]))))))))]
                have w236 : ∀ k : Nat, k < 8 → 0 ≤ (σ216 17 k).toInt ∧ (σ216 17 k).toInt ≤ 3 := (by rw [f218 17 (by omega)]; exact (by rw [f202 17 (by omega)]; exact (by rw [f190 17 (by omega)]; exact (by rw [f171 17 (by omega)]; exact (by rw [f45 17 (by omega)]; exact (by rw [f32 17 (by omega)]; exact (by rw [f11 17 (by omega)]; exact w7)))))))
                have I237 : jI16 σ216 := ⟨(by omega), (by omega), (by omega), w236⟩
                exact hret r217 σ216 τ _ _ _ _ rfl ⟨rfl, (fun i hi => by rw [f218 i (by omega), f202 i (by omega), f190 i (by omega), f171 i (by omega), f45 i (by omega), f32 i (by omega), f11 i (by omega)]), (fun k hk => by rw [f219 k (by omega), f203 k (by omega), f191 k (by omega), f172 k (by omega), f46 k (by omega), f33 k (by omega), f12 k (by omega)]), (fun k hk => by rw [f218 16 (by omega), f202 16 (by omega), f190 16 (by omega), f171 16 (by omega), f45 16 (by omega), f32 16 (by omega), f11 16 (by omega)]), I220, I237, trivial⟩ hP hS dX7_readOrder_147
            · have kc215 := jne c215 rfl jz_0
              refine lv_aload_n hx hb dX7_readOrder_126 rfl (lv_at hl 4 rfl) ?_
              refine lv_iconst (v := 3) hx hb dX7_readOrder_127 (by decide) ?_
              refine jcallV (As := [.int 3]) (rest := []) ⟨hx, hb, hml, hown, hts⟩ hK hP hA hS hZ (c_X7_number_3 l D cI cL ad zz hJ σ200 τ I204 I205 I206) cw_RX7_53 (jc_9 cI cL ad σ200 τ) rfl ⟨Nat.le_of_ble_eq_true rfl, Nat.le_of_ble_eq_true rfl⟩ rfl rfl rfl hl.1 rfl (Nat.le_of_ble_eq_true rfl) dX7_readOrder_128 ⟨Nat.zero_le _, Nat.zero_le _⟩ (fun r239 σ238 τ238 H locs h238 hP hS => ?_)
              obtain ⟨rfl, f240, f241, I242, I243, I244, h238⟩ := h238
              obtain ⟨i245, w246, w247⟩ : (0 ≤ (σ238 9 0).toInt ∧ (σ238 9 0).toInt ≤ 80) ∧ (∀ k : Nat, k < 80 → 0 ≤ (σ238 10 k).toInt ∧ (σ238 10 k).toInt ≤ 255) ∧ (∀ k : Nat, k < 8 → 0 ≤ (σ238 11 k).toInt ∧ (σ238 11 k).toInt ≤ 3) := id I242
              obtain ⟨i248, i249⟩ : (0 ≤ (σ238 9 1).toInt) ∧ ((σ238 9 1).toInt ≤ (σ238 9 0).toInt) := id I243
              have i250 : (-1) ≤ (σ238 9 2).toInt := I244
              have z251 : (σ238 9 0).toInt = (σ 9 0).toInt := by rw [(show σ238 9 0 = (σ 9 0) from (by rw [f241 0 (by omega)]; exact (by rw [f203 0 (by omega)]; exact (by rw [f191 0 (by omega)]; exact (by rw [f172 0 (by omega)]; exact (by rw [f46 0 (by omega)]; exact (by rw [f33 0 (by omega)]; exact (by rw [f12 0 (by omega)]))))))))]
              obtain ⟨k252, h238⟩ := h238
              have h253 := h238
              obtain ⟨q255, k254⟩ := h253
              refine lv_istore (lv' := [(4, .int r239), (3, .int r170), (5, .int (σ43 9 1)), (2, .int x25), (0, .ref (ad 9)), (1, .ref (ad 16))]) hx hb dX7_readOrder_131 hl (by decide) rfl (fun ls hl => ?_)
              refine lv_aload_n hx hb dX7_readOrder_133 rfl (lv_at hl 4 rfl) ?_
              refine jcallV (As := []) (rest := []) ⟨hx, hb, hml, hown, hts⟩ hK hP hA hS hZ (c_X7_end_9 l D cI cL ad zz hJ σ238 τ I242 I243 I244) cw_RX7_57 (jc_9 cI cL ad σ238 τ) rfl ⟨Nat.le_of_ble_eq_true rfl, Nat.le_of_ble_eq_true rfl⟩ rfl rfl rfl hl.1 rfl (Nat.le_of_ble_eq_true rfl) dX7_readOrder_134 ⟨Nat.zero_le _, Nat.zero_le _⟩ (fun r257 σ256 τ256 H locs h256 hP hS => ?_)
              obtain ⟨rfl, f258, f259, I260, I261, h256⟩ := h256
              obtain ⟨i262, w263, w264⟩ : (0 ≤ (σ256 9 0).toInt ∧ (σ256 9 0).toInt ≤ 80) ∧ (∀ k : Nat, k < 80 → 0 ≤ (σ256 10 k).toInt ∧ (σ256 10 k).toInt ≤ 255) ∧ (∀ k : Nat, k < 8 → 0 ≤ (σ256 11 k).toInt ∧ (σ256 11 k).toInt ≤ 3) := id I260
              have i265 : (-1) ≤ (σ256 9 2).toInt := I261
              rcases h256 with h266 | h267
              · obtain ⟨q269, k268⟩ := h266
                exact absurd (by omega : False) id
              · obtain ⟨q271, k270⟩ := h267
                refine lv_istore (lv' := [(5, .int r257), (4, .int r239), (3, .int r170), (2, .int x25), (0, .ref (ad 9)), (1, .ref (ad 16))]) hx hb dX7_readOrder_137 hl (by decide) rfl (fun ls hl => ?_)
                refine lv_iload hx hb dX7_readOrder_139 (lv_at hl 0 rfl) ?_
                refine lv_iconst (v := (-1)) hx hb dX7_readOrder_141 (by decide) ?_
                refine lv_icmp_eq (tgt := 148) hx hb dX7_readOrder_142 (by decide) (fun c => absurd (jeq c rfl jz_m1) (by omega)) (fun c272 => ?_)
                have kc272 := jne c272 rfl jz_m1
                refine lv_iload hx hb dX7_readOrder_145 (lv_at hl 0 rfl) ?_
                have z273 : (σ256 16 0).toInt = (σ 16 0).toInt := by rw [(show σ256 16 0 = (σ 16 0) from (by rw [f258 16 (by omega)]; exact (by rw [f240 16 (by omega)]; exact (by rw [f202 16 (by omega)]; exact (by rw [f190 16 (by omega)]; exact (by rw [f171 16 (by omega)]; exact (by rw [f45 16 (by omega)]; exact (by rw [f32 16 (by omega)]; exact (by rw [f11 16 (by omega)])))))))))]
                have z274 : (σ256 16 1).toInt = (σ 16 1).toInt := by rw [(show σ256 16 1 = (σ 16 1) from (by rw [f258 16 (by omega)]; exact (by rw [f240 16 (by omega)]; exact (by rw [f202 16 (by omega)]; exact (by rw [f190 16 (by omega)]; exact (by rw [f171 16 (by omega)]; exact (by rw [f45 16 (by omega)]; exact (by rw [f32 16 (by omega)]; exact (by rw [f11 16 (by omega)])))))))))]
                have z275 : (σ256 16 2).toInt = (σ 16 2).toInt := by rw [(show σ256 16 2 = (σ 16 2) from (by rw [f258 16 (by omega)]; exact (by rw [f240 16 (by omega)]; exact (by rw [f202 16 (by omega)]; exact (by rw [f190 16 (by omega)]; exact (by rw [f171 16 (by omega)]; exact (by rw [f45 16 (by omega)]; exact (by rw [f32 16 (by omega)]; exact (by rw [f11 16 (by omega)])))))))))]
                have w276 : ∀ k : Nat, k < 8 → 0 ≤ (σ256 17 k).toInt ∧ (σ256 17 k).toInt ≤ 3 := (by rw [f258 17 (by omega)]; exact (by rw [f240 17 (by omega)]; exact (by rw [f202 17 (by omega)]; exact (by rw [f190 17 (by omega)]; exact (by rw [f171 17 (by omega)]; exact (by rw [f45 17 (by omega)]; exact (by rw [f32 17 (by omega)]; exact (by rw [f11 17 (by omega)]; exact w7))))))))
                have I277 : jI16 σ256 := ⟨(by omega), (by omega), (by omega), w276⟩
                exact hret r257 σ256 τ _ _ _ _ rfl ⟨rfl, (fun i hi => by rw [f258 i (by omega), f240 i (by omega), f202 i (by omega), f190 i (by omega), f171 i (by omega), f45 i (by omega), f32 i (by omega), f11 i (by omega)]), (fun k hk => by rw [f259 k (by omega), f241 k (by omega), f203 k (by omega), f191 k (by omega), f172 k (by omega), f46 k (by omega), f33 k (by omega), f12 k (by omega)]), (fun k hk => by rw [f258 16 (by omega), f240 16 (by omega), f202 16 (by omega), f190 16 (by omega), f171 16 (by omega), f45 16 (by omega), f32 16 (by omega), f11 16 (by omega)]), I260, I277, trivial⟩ hP hS dX7_readOrder_147
          · have kc187 := jnlt c187 rfl jz_1
            refine lv_iload_n hx hb dX7_readOrder_105 rfl (lv_at hl 0 rfl) ?_
            refine lv_bipush (v := 12) hx hb dX7_readOrder_106 (by decide) ?_
            refine lv_icmp_le (tgt := 117) hx hb dX7_readOrder_108 (by decide) (fun c278 => ?_) (fun c278 => ?_)
            · have kc278 := jle c278 rfl jz_12
              refine lv_aload_n hx hb dX7_readOrder_117 rfl (lv_at hl 4 rfl) ?_
              refine lv_bipush (v := 114) hx hb dX7_readOrder_118 (by decide) ?_
              refine jcallV (As := [.int 114]) (rest := []) ⟨hx, hb, hml, hown, hts⟩ hK hP hA hS hZ (c_X7_skip_9 l D cI cL ad zz hJ σ169 τ 114 (114) jz_114 I173 I174 I175 (by omega)) cw_RX7_50 (jc_9 cI cL ad σ169 τ) rfl ⟨Nat.le_of_ble_eq_true rfl, Nat.le_of_ble_eq_true rfl⟩ rfl rfl rfl hl.1 rfl (Nat.le_of_ble_eq_true rfl) dX7_readOrder_120 ⟨Nat.zero_le _, Nat.zero_le _⟩ (fun r280 σ279 τ279 H locs h279 hP hS => ?_)
              obtain ⟨rfl, f281, f282, I283, I284, I285, h279⟩ := h279
              obtain ⟨i286, w287, w288⟩ : (0 ≤ (σ279 9 0).toInt ∧ (σ279 9 0).toInt ≤ 80) ∧ (∀ k : Nat, k < 80 → 0 ≤ (σ279 10 k).toInt ∧ (σ279 10 k).toInt ≤ 255) ∧ (∀ k : Nat, k < 8 → 0 ≤ (σ279 11 k).toInt ∧ (σ279 11 k).toInt ≤ 3) := id I283
              obtain ⟨i289, i290⟩ : (0 ≤ (σ279 9 1).toInt) ∧ ((σ279 9 1).toInt ≤ (σ279 9 0).toInt) := id I284
              have i291 : (-1) ≤ (σ279 9 2).toInt := I285
              have z292 : (σ279 9 0).toInt = (σ 9 0).toInt := by rw [(show σ279 9 0 = (σ 9 0) from (by rw [f282 0 (by omega)]; exact (by rw [f172 0 (by omega)]; exact (by rw [f46 0 (by omega)]; exact (by rw [f33 0 (by omega)]; exact (by rw [f12 0 (by omega)]))))))]
              have z293 : (σ279 9 2).toInt = (σ169 9 2).toInt := by rw [(show σ279 9 2 = (σ169 9 2) from (by rw [f282 2 (by omega)]))]
              refine lv_if_eq (tgt := 133) hx hb dX7_readOrder_123 (by decide) (fun c294 => ?_) (fun c294 => ?_)
              · have kc294 := jeq c294 rfl jz_0
                refine lv_aload_n hx hb dX7_readOrder_133 rfl (lv_at hl 4 rfl) ?_
                refine jcallV (As := []) (rest := []) ⟨hx, hb, hml, hown, hts⟩ hK hP hA hS hZ (c_X7_end_9 l D cI cL ad zz hJ σ279 τ I283 I284 I285) cw_RX7_57 (jc_9 cI cL ad σ279 τ) rfl ⟨Nat.le_of_ble_eq_true rfl, Nat.le_of_ble_eq_true rfl⟩ rfl rfl rfl hl.1 rfl (Nat.le_of_ble_eq_true rfl) dX7_readOrder_134 ⟨Nat.zero_le _, Nat.zero_le _⟩ (fun r296 σ295 τ295 H locs h295 hP hS => ?_)
                obtain ⟨rfl, f297, f298, I299, I300, h295⟩ := h295
                obtain ⟨i301, w302, w303⟩ : (0 ≤ (σ295 9 0).toInt ∧ (σ295 9 0).toInt ≤ 80) ∧ (∀ k : Nat, k < 80 → 0 ≤ (σ295 10 k).toInt ∧ (σ295 10 k).toInt ≤ 255) ∧ (∀ k : Nat, k < 8 → 0 ≤ (σ295 11 k).toInt ∧ (σ295 11 k).toInt ≤ 3) := id I299
                have i304 : (-1) ≤ (σ295 9 2).toInt := I300
                rcases h295 with h305 | h306
                · obtain ⟨q308, k307⟩ := h305
                  have q308 := q308.symm
                  subst q308
                  refine lv_istore (lv' := [(5, .int (-1)), (3, .int r170), (4, .int 0), (2, .int x25), (0, .ref (ad 9)), (1, .ref (ad 16))]) hx hb dX7_readOrder_137 hl (by decide) rfl (fun ls hl => ?_)
                  refine lv_iload hx hb dX7_readOrder_139 (lv_at hl 0 rfl) ?_
                  refine lv_iconst (v := (-1)) hx hb dX7_readOrder_141 (by decide) ?_
                  refine lv_icmp_eq (tgt := 148) hx hb dX7_readOrder_142 (by decide) (fun _ => ?_) (fun c => absurd (by decide) c)
                  refine lv_aload_n hx hb dX7_readOrder_148 rfl (lv_at hl 5 rfl) ?_
                  refine lv_iload_n hx hb dX7_readOrder_149 rfl (lv_at hl 3 rfl) ?_
                  refine jput (ty := .int) hx hb hts inlX6 tyX6 tyX6_ok nmX6 hown hK hP hJ hA hS (jc_16 cI cL ad σ295 τ) rfl (k := 0) (by decide) (Nat.le_of_ble_eq_true rfl) (jp_16_0 cI cL ad σ295 τ x25) (hts _ kw_13_18) (fun _ h9 => h9) rfl (by decide +kernel) rfl rfl dX7_readOrder_150 (fun σ309 H locs eσ309 hP hS => ?_)
                  refine lv_aload_n hx hb dX7_readOrder_153 rfl (lv_at hl 5 rfl) ?_
                  refine lv_iload_n hx hb dX7_readOrder_154 rfl (lv_at hl 1 rfl) ?_
                  refine jput (ty := .int) hx hb hts inlX6 tyX6 tyX6_ok nmX6 hown hK hP hJ hA hS (jc_16 cI cL ad σ309 τ) rfl (k := 1) (by decide) (Nat.le_of_ble_eq_true rfl) (jp_16_1 cI cL ad σ309 τ r170) (hts _ kw_13_19) (fun _ h9 => h9) rfl (by decide +kernel) rfl rfl dX7_readOrder_155 (fun σ310 H locs eσ310 hP hS => ?_)
                  refine lv_aload_n hx hb dX7_readOrder_158 rfl (lv_at hl 5 rfl) ?_
                  refine lv_iload hx hb dX7_readOrder_159 (lv_at hl 2 rfl) ?_
                  refine jput (ty := .int) hx hb hts inlX6 tyX6 tyX6_ok nmX6 hown hK hP hJ hA hS (jc_16 cI cL ad σ310 τ) rfl (k := 2) (by decide) (Nat.le_of_ble_eq_true rfl) (jp_16_2 cI cL ad σ310 τ 0) (hts _ kw_13_20) (fun _ h9 => h9) rfl (by decide +kernel) rfl rfl dX7_readOrder_161 (fun σ311 H locs eσ311 hP hS => ?_)
                  refine lv_aload_n hx hb dX7_readOrder_164 rfl (lv_at hl 4 rfl) ?_
                  refine va_get (D := D) hx hb hts inlX7 hown hK hP 9 (jc_9 cI cL ad σ311 τ) rfl 4 (by decide) (hts _ kw_3_21) (fun _ h9 => h9) rfl dX7_readOrder_165 ?_
                  refine lv_iconst (v := 0) hx hb dX7_readOrder_168 (by decide) ?_
                  refine lv_aload_n hx hb dX7_readOrder_169 rfl (lv_at hl 5 rfl) ?_
                  refine va_get (D := D) hx hb hts inlX6 hown hK hP 16 (jc_16 cI cL ad σ311 τ) rfl 3 (by decide) (hts _ kw_13_21) (fun _ h9 => h9) rfl dX7_readOrder_170 ?_
                  refine lv_iconst (v := 0) hx hb dX7_readOrder_173 (by decide) ?_
                  refine lv_iload_n hx hb dX7_readOrder_174 rfl (lv_at hl 3 rfl) ?_
                  refine jcpyI (q0 := 11) (q1 := 17) hx hb (hml.trans hl.1.symm) hown (hts _ kw_13_22) (hts _ kw_13_23) (hts _ kw_14_0) (hts _ kw_14_1) hK hP hJ hA hS (jc_11 cI cL ad σ311 τ) (jc_17 cI cL ad σ311 τ) (fun _ => rfl) jz_0 jz_0 rfl (by omega) (by omega) (by omega) (by omega) (by omega) (Nat.le_of_ble_eq_true rfl) (Nat.le_of_ble_eq_true rfl) dX7_readOrder_175 (fun σ312 H locs eσ312 hP hS => ?_)
                  have w313 : ∀ k : Nat, k < 8 → 0 ≤ (σ311 11 k).toInt ∧ (σ311 11 k).toInt ≤ 3 := (by rw [eσ311, jup_n (by decide)]; exact (by rw [eσ310, jup_n (by decide)]; exact (by rw [eσ309, jup_n (by decide)]; exact w303)))
                  have w314 : ∀ k : Nat, k < 8 → 0 ≤ (σ311 17 k).toInt ∧ (σ311 17 k).toInt ≤ 3 := (by rw [eσ311, jup_n (by decide)]; exact (by rw [eσ310, jup_n (by decide)]; exact (by rw [eσ309, jup_n (by decide)]; exact (by rw [f297 17 (by omega)]; exact (by rw [f281 17 (by omega)]; exact (by rw [f171 17 (by omega)]; exact (by rw [f45 17 (by omega)]; exact (by rw [f32 17 (by omega)]; exact (by rw [f11 17 (by omega)]; exact w7)))))))))
                  have f315 : (∀ i : Nat, (i < 17 ∨ 17 < i) → σ312 i = σ311 i) := by rw [eσ312]; exact jrow_n
                  have w316 : ∀ k : Nat, k < 8 → 0 ≤ (σ312 17 k).toInt ∧ (σ312 17 k).toInt ≤ 3 := by rw [eσ312]; exact jrow_rr w313 w314 jz_0 rfl (n0 := 8) (by omega) (by omega) (by omega)
                  refine lv_iconst (v := (-1)) hx hb dX7_readOrder_178 (by decide) ?_
                  have z317 : (σ312 9 0).toInt = (σ295 9 0).toInt := by rw [(show σ312 9 0 = (σ295 9 0) from (by rw [f315 9 (by omega)]; exact (by rw [eσ311, jup_n (by decide)]; exact (by rw [eσ310, jup_n (by decide)]; exact (by rw [eσ309, jup_n (by decide)])))))]
                  have w318 : ∀ k : Nat, k < 80 → 0 ≤ (σ312 10 k).toInt ∧ (σ312 10 k).toInt ≤ 255 := (by rw [f315 10 (by omega)]; exact (by rw [eσ311, jup_n (by decide)]; exact (by rw [eσ310, jup_n (by decide)]; exact (by rw [eσ309, jup_n (by decide)]; exact w302))))
                  have w319 : ∀ k : Nat, k < 8 → 0 ≤ (σ312 11 k).toInt ∧ (σ312 11 k).toInt ≤ 3 := (by rw [f315 11 (by omega)]; exact w313)
                  have I320 : jI9 σ312 := ⟨(by omega), w318, w319⟩
                  have z321 : (σ312 16 0).toInt = x25.toInt := by rw [(show σ312 16 0 = x25 from (by rw [f315 16 (by omega)]; exact (by rw [eσ311, jup_k (by decide)]; exact (by rw [eσ310, jup_k (by decide)]; exact (by rw [eσ309]; exact jup_s)))))]
                  have z322 : (σ312 16 1).toInt = r170.toInt := by rw [(show σ312 16 1 = r170 from (by rw [f315 16 (by omega)]; exact (by rw [eσ311, jup_k (by decide)]; exact (by rw [eσ310]; exact jup_s))))]
                  have z323 : (σ312 16 2).toInt = 0 := by rw [(show σ312 16 2 = 0 from (by rw [f315 16 (by omega)]; exact (by rw [eσ311]; exact jup_s)))]; exact jz_0
                  have I324 : jI16 σ312 := ⟨(by omega), (by omega), (by omega), w316⟩
                  exact hret (-1) σ312 τ _ _ _ _ rfl ⟨rfl, (fun i hi => by rw [f315 i (by omega), eσ311, jup_n (by omega), eσ310, jup_n (by omega), eσ309, jup_n (by omega), f297 i (by omega), f281 i (by omega), f171 i (by omega), f45 i (by omega), f32 i (by omega), f11 i (by omega)]), (fun k hk => by rw [f315 9 (by omega), eσ311, jup_n (by decide), eσ310, jup_n (by decide), eσ309, jup_n (by decide), f298 k (by omega), f282 k (by omega), f172 k (by omega), f46 k (by omega), f33 k (by omega), f12 k (by omega)]), (fun k hk => by rw [f315 16 (by omega), eσ311, jup_k (by omega), eσ310, jup_k (by omega), eσ309, jup_k (by omega), f297 16 (by omega), f281 16 (by omega), f171 16 (by omega), f45 16 (by omega), f32 16 (by omega), f11 16 (by omega)]), I320, I324, trivial⟩ hP hS dX7_readOrder_179
                · obtain ⟨q326, k325⟩ := h306
                  refine lv_istore (lv' := [(5, .int r296), (3, .int r170), (4, .int 0), (2, .int x25), (0, .ref (ad 9)), (1, .ref (ad 16))]) hx hb dX7_readOrder_137 hl (by decide) rfl (fun ls hl => ?_)
                  refine lv_iload hx hb dX7_readOrder_139 (lv_at hl 0 rfl) ?_
                  refine lv_iconst (v := (-1)) hx hb dX7_readOrder_141 (by decide) ?_
                  refine lv_icmp_eq (tgt := 148) hx hb dX7_readOrder_142 (by decide) (fun c => absurd (jeq c rfl jz_m1) (by omega)) (fun c327 => ?_)
                  have kc327 := jne c327 rfl jz_m1
                  refine lv_iload hx hb dX7_readOrder_145 (lv_at hl 0 rfl) ?_
                  have z328 : (σ295 16 0).toInt = (σ 16 0).toInt := by rw [(show σ295 16 0 = (σ 16 0) from (by rw [f297 16 (by omega)]; exact (by rw [f281 16 (by omega)]; exact (by rw [f171 16 (by omega)]; exact (by rw [f45 16 (by omega)]; exact (by rw [f32 16 (by omega)]; exact (by rw [f11 16 (by omega)])))))))]
                  have z329 : (σ295 16 1).toInt = (σ 16 1).toInt := by rw [(show σ295 16 1 = (σ 16 1) from (by rw [f297 16 (by omega)]; exact (by rw [f281 16 (by omega)]; exact (by rw [f171 16 (by omega)]; exact (by rw [f45 16 (by omega)]; exact (by rw [f32 16 (by omega)]; exact (by rw [f11 16 (by omega)])))))))]
                  have z330 : (σ295 16 2).toInt = (σ 16 2).toInt := by rw [(show σ295 16 2 = (σ 16 2) from (by rw [f297 16 (by omega)]; exact (by rw [f281 16 (by omega)]; exact (by rw [f171 16 (by omega)]; exact (by rw [f45 16 (by omega)]; exact (by rw [f32 16 (by omega)]; exact (by rw [f11 16 (by omega)])))))))]
                  have w331 : ∀ k : Nat, k < 8 → 0 ≤ (σ295 17 k).toInt ∧ (σ295 17 k).toInt ≤ 3 := (by rw [f297 17 (by omega)]; exact (by rw [f281 17 (by omega)]; exact (by rw [f171 17 (by omega)]; exact (by rw [f45 17 (by omega)]; exact (by rw [f32 17 (by omega)]; exact (by rw [f11 17 (by omega)]; exact w7))))))
                  have I332 : jI16 σ295 := ⟨(by omega), (by omega), (by omega), w331⟩
                  exact hret r296 σ295 τ _ _ _ _ rfl ⟨rfl, (fun i hi => by rw [f297 i (by omega), f281 i (by omega), f171 i (by omega), f45 i (by omega), f32 i (by omega), f11 i (by omega)]), (fun k hk => by rw [f298 k (by omega), f282 k (by omega), f172 k (by omega), f46 k (by omega), f33 k (by omega), f12 k (by omega)]), (fun k hk => by rw [f297 16 (by omega), f281 16 (by omega), f171 16 (by omega), f45 16 (by omega), f32 16 (by omega), f11 16 (by omega)]), I299, I332, trivial⟩ hP hS dX7_readOrder_147
              · have kc294 := jne c294 rfl jz_0
                refine lv_aload_n hx hb dX7_readOrder_126 rfl (lv_at hl 4 rfl) ?_
                refine lv_iconst (v := 3) hx hb dX7_readOrder_127 (by decide) ?_
                refine jcallV (As := [.int 3]) (rest := []) ⟨hx, hb, hml, hown, hts⟩ hK hP hA hS hZ (c_X7_number_3 l D cI cL ad zz hJ σ279 τ I283 I284 I285) cw_RX7_53 (jc_9 cI cL ad σ279 τ) rfl ⟨Nat.le_of_ble_eq_true rfl, Nat.le_of_ble_eq_true rfl⟩ rfl rfl rfl hl.1 rfl (Nat.le_of_ble_eq_true rfl) dX7_readOrder_128 ⟨Nat.zero_le _, Nat.zero_le _⟩ (fun r334 σ333 τ333 H locs h333 hP hS => ?_)
                obtain ⟨rfl, f335, f336, I337, I338, I339, h333⟩ := h333
                obtain ⟨i340, w341, w342⟩ : (0 ≤ (σ333 9 0).toInt ∧ (σ333 9 0).toInt ≤ 80) ∧ (∀ k : Nat, k < 80 → 0 ≤ (σ333 10 k).toInt ∧ (σ333 10 k).toInt ≤ 255) ∧ (∀ k : Nat, k < 8 → 0 ≤ (σ333 11 k).toInt ∧ (σ333 11 k).toInt ≤ 3) := id I337
                obtain ⟨i343, i344⟩ : (0 ≤ (σ333 9 1).toInt) ∧ ((σ333 9 1).toInt ≤ (σ333 9 0).toInt) := id I338
                have i345 : (-1) ≤ (σ333 9 2).toInt := I339
                have z346 : (σ333 9 0).toInt = (σ 9 0).toInt := by rw [(show σ333 9 0 = (σ 9 0) from (by rw [f336 0 (by omega)]; exact (by rw [f282 0 (by omega)]; exact (by rw [f172 0 (by omega)]; exact (by rw [f46 0 (by omega)]; exact (by rw [f33 0 (by omega)]; exact (by rw [f12 0 (by omega)])))))))]
                obtain ⟨k347, h333⟩ := h333
                have h348 := h333
                obtain ⟨q350, k349⟩ := h348
                refine lv_istore (lv' := [(4, .int r334), (3, .int r170), (5, .int (σ43 9 1)), (2, .int x25), (0, .ref (ad 9)), (1, .ref (ad 16))]) hx hb dX7_readOrder_131 hl (by decide) rfl (fun ls hl => ?_)
                refine lv_aload_n hx hb dX7_readOrder_133 rfl (lv_at hl 4 rfl) ?_
                refine jcallV (As := []) (rest := []) ⟨hx, hb, hml, hown, hts⟩ hK hP hA hS hZ (c_X7_end_9 l D cI cL ad zz hJ σ333 τ I337 I338 I339) cw_RX7_57 (jc_9 cI cL ad σ333 τ) rfl ⟨Nat.le_of_ble_eq_true rfl, Nat.le_of_ble_eq_true rfl⟩ rfl rfl rfl hl.1 rfl (Nat.le_of_ble_eq_true rfl) dX7_readOrder_134 ⟨Nat.zero_le _, Nat.zero_le _⟩ (fun r352 σ351 τ351 H locs h351 hP hS => ?_)
                obtain ⟨rfl, f353, f354, I355, I356, h351⟩ := h351
                obtain ⟨i357, w358, w359⟩ : (0 ≤ (σ351 9 0).toInt ∧ (σ351 9 0).toInt ≤ 80) ∧ (∀ k : Nat, k < 80 → 0 ≤ (σ351 10 k).toInt ∧ (σ351 10 k).toInt ≤ 255) ∧ (∀ k : Nat, k < 8 → 0 ≤ (σ351 11 k).toInt ∧ (σ351 11 k).toInt ≤ 3) := id I355
                have i360 : (-1) ≤ (σ351 9 2).toInt := I356
                rcases h351 with h361 | h362
                · obtain ⟨q364, k363⟩ := h361
                  have q364 := q364.symm
                  subst q364
                  refine lv_istore (lv' := [(5, .int (-1)), (4, .int r334), (3, .int r170), (2, .int x25), (0, .ref (ad 9)), (1, .ref (ad 16))]) hx hb dX7_readOrder_137 hl (by decide) rfl (fun ls hl => ?_)
                  refine lv_iload hx hb dX7_readOrder_139 (lv_at hl 0 rfl) ?_
                  refine lv_iconst (v := (-1)) hx hb dX7_readOrder_141 (by decide) ?_
                  refine lv_icmp_eq (tgt := 148) hx hb dX7_readOrder_142 (by decide) (fun _ => ?_) (fun c => absurd (by decide) c)
                  refine lv_aload_n hx hb dX7_readOrder_148 rfl (lv_at hl 5 rfl) ?_
                  refine lv_iload_n hx hb dX7_readOrder_149 rfl (lv_at hl 3 rfl) ?_
                  refine jput (ty := .int) hx hb hts inlX6 tyX6 tyX6_ok nmX6 hown hK hP hJ hA hS (jc_16 cI cL ad σ351 τ) rfl (k := 0) (by decide) (Nat.le_of_ble_eq_true rfl) (jp_16_0 cI cL ad σ351 τ x25) (hts _ kw_13_18) (fun _ h9 => h9) rfl (by decide +kernel) rfl rfl dX7_readOrder_150 (fun σ365 H locs eσ365 hP hS => ?_)
                  refine lv_aload_n hx hb dX7_readOrder_153 rfl (lv_at hl 5 rfl) ?_
                  refine lv_iload_n hx hb dX7_readOrder_154 rfl (lv_at hl 2 rfl) ?_
                  refine jput (ty := .int) hx hb hts inlX6 tyX6 tyX6_ok nmX6 hown hK hP hJ hA hS (jc_16 cI cL ad σ365 τ) rfl (k := 1) (by decide) (Nat.le_of_ble_eq_true rfl) (jp_16_1 cI cL ad σ365 τ r170) (hts _ kw_13_19) (fun _ h9 => h9) rfl (by decide +kernel) rfl rfl dX7_readOrder_155 (fun σ366 H locs eσ366 hP hS => ?_)
                  refine lv_aload_n hx hb dX7_readOrder_158 rfl (lv_at hl 5 rfl) ?_
                  refine lv_iload hx hb dX7_readOrder_159 (lv_at hl 1 rfl) ?_
                  refine jput (ty := .int) hx hb hts inlX6 tyX6 tyX6_ok nmX6 hown hK hP hJ hA hS (jc_16 cI cL ad σ366 τ) rfl (k := 2) (by decide) (Nat.le_of_ble_eq_true rfl) (jp_16_2 cI cL ad σ366 τ r334) (hts _ kw_13_20) (fun _ h9 => h9) rfl (by decide +kernel) rfl rfl dX7_readOrder_161 (fun σ367 H locs eσ367 hP hS => ?_)
                  refine lv_aload_n hx hb dX7_readOrder_164 rfl (lv_at hl 4 rfl) ?_
                  refine va_get (D := D) hx hb hts inlX7 hown hK hP 9 (jc_9 cI cL ad σ367 τ) rfl 4 (by decide) (hts _ kw_3_21) (fun _ h9 => h9) rfl dX7_readOrder_165 ?_
                  refine lv_iconst (v := 0) hx hb dX7_readOrder_168 (by decide) ?_
                  refine lv_aload_n hx hb dX7_readOrder_169 rfl (lv_at hl 5 rfl) ?_
                  refine va_get (D := D) hx hb hts inlX6 hown hK hP 16 (jc_16 cI cL ad σ367 τ) rfl 3 (by decide) (hts _ kw_13_21) (fun _ h9 => h9) rfl dX7_readOrder_170 ?_
                  refine lv_iconst (v := 0) hx hb dX7_readOrder_173 (by decide) ?_
                  refine lv_iload_n hx hb dX7_readOrder_174 rfl (lv_at hl 3 rfl) ?_
                  refine jcpyI (q0 := 11) (q1 := 17) hx hb (hml.trans hl.1.symm) hown (hts _ kw_13_22) (hts _ kw_13_23) (hts _ kw_14_0) (hts _ kw_14_1) hK hP hJ hA hS (jc_11 cI cL ad σ367 τ) (jc_17 cI cL ad σ367 τ) (fun _ => rfl) jz_0 jz_0 rfl (by omega) (by omega) (by omega) (by omega) (by omega) (Nat.le_of_ble_eq_true rfl) (Nat.le_of_ble_eq_true rfl) dX7_readOrder_175 (fun σ368 H locs eσ368 hP hS => ?_)
                  have w369 : ∀ k : Nat, k < 8 → 0 ≤ (σ367 11 k).toInt ∧ (σ367 11 k).toInt ≤ 3 := (by rw [eσ367, jup_n (by decide)]; exact (by rw [eσ366, jup_n (by decide)]; exact (by rw [eσ365, jup_n (by decide)]; exact w359)))
                  have w370 : ∀ k : Nat, k < 8 → 0 ≤ (σ367 17 k).toInt ∧ (σ367 17 k).toInt ≤ 3 := (by rw [eσ367, jup_n (by decide)]; exact (by rw [eσ366, jup_n (by decide)]; exact (by rw [eσ365, jup_n (by decide)]; exact (by rw [f353 17 (by omega)]; exact (by rw [f335 17 (by omega)]; exact (by rw [f281 17 (by omega)]; exact (by rw [f171 17 (by omega)]; exact (by rw [f45 17 (by omega)]; exact (by rw [f32 17 (by omega)]; exact (by rw [f11 17 (by omega)]; exact w7))))))))))
                  have f371 : (∀ i : Nat, (i < 17 ∨ 17 < i) → σ368 i = σ367 i) := by rw [eσ368]; exact jrow_n
                  have w372 : ∀ k : Nat, k < 8 → 0 ≤ (σ368 17 k).toInt ∧ (σ368 17 k).toInt ≤ 3 := by rw [eσ368]; exact jrow_rr w369 w370 jz_0 rfl (n0 := 8) (by omega) (by omega) (by omega)
                  refine lv_iconst (v := (-1)) hx hb dX7_readOrder_178 (by decide) ?_
                  have z373 : (σ368 9 0).toInt = (σ351 9 0).toInt := by rw [(show σ368 9 0 = (σ351 9 0) from (by rw [f371 9 (by omega)]; exact (by rw [eσ367, jup_n (by decide)]; exact (by rw [eσ366, jup_n (by decide)]; exact (by rw [eσ365, jup_n (by decide)])))))]
                  have w374 : ∀ k : Nat, k < 80 → 0 ≤ (σ368 10 k).toInt ∧ (σ368 10 k).toInt ≤ 255 := (by rw [f371 10 (by omega)]; exact (by rw [eσ367, jup_n (by decide)]; exact (by rw [eσ366, jup_n (by decide)]; exact (by rw [eσ365, jup_n (by decide)]; exact w358))))
                  have w375 : ∀ k : Nat, k < 8 → 0 ≤ (σ368 11 k).toInt ∧ (σ368 11 k).toInt ≤ 3 := (by rw [f371 11 (by omega)]; exact w369)
                  have I376 : jI9 σ368 := ⟨(by omega), w374, w375⟩
                  have z377 : (σ368 16 0).toInt = x25.toInt := by rw [(show σ368 16 0 = x25 from (by rw [f371 16 (by omega)]; exact (by rw [eσ367, jup_k (by decide)]; exact (by rw [eσ366, jup_k (by decide)]; exact (by rw [eσ365]; exact jup_s)))))]
                  have z378 : (σ368 16 1).toInt = r170.toInt := by rw [(show σ368 16 1 = r170 from (by rw [f371 16 (by omega)]; exact (by rw [eσ367, jup_k (by decide)]; exact (by rw [eσ366]; exact jup_s))))]
                  have z379 : (σ368 16 2).toInt = r334.toInt := by rw [(show σ368 16 2 = r334 from (by rw [f371 16 (by omega)]; exact (by rw [eσ367]; exact jup_s)))]
                  have I380 : jI16 σ368 := ⟨(by omega), (by omega), (by omega), w372⟩
                  exact hret (-1) σ368 τ _ _ _ _ rfl ⟨rfl, (fun i hi => by rw [f371 i (by omega), eσ367, jup_n (by omega), eσ366, jup_n (by omega), eσ365, jup_n (by omega), f353 i (by omega), f335 i (by omega), f281 i (by omega), f171 i (by omega), f45 i (by omega), f32 i (by omega), f11 i (by omega)]), (fun k hk => by rw [f371 9 (by omega), eσ367, jup_n (by decide), eσ366, jup_n (by decide), eσ365, jup_n (by decide), f354 k (by omega), f336 k (by omega), f282 k (by omega), f172 k (by omega), f46 k (by omega), f33 k (by omega), f12 k (by omega)]), (fun k hk => by rw [f371 16 (by omega), eσ367, jup_k (by omega), eσ366, jup_k (by omega), eσ365, jup_k (by omega), f353 16 (by omega), f335 16 (by omega), f281 16 (by omega), f171 16 (by omega), f45 16 (by omega), f32 16 (by omega), f11 16 (by omega)]), I376, I380, trivial⟩ hP hS dX7_readOrder_179
                · obtain ⟨q382, k381⟩ := h362
                  refine lv_istore (lv' := [(5, .int r352), (4, .int r334), (3, .int r170), (2, .int x25), (0, .ref (ad 9)), (1, .ref (ad 16))]) hx hb dX7_readOrder_137 hl (by decide) rfl (fun ls hl => ?_)
                  refine lv_iload hx hb dX7_readOrder_139 (lv_at hl 0 rfl) ?_
                  refine lv_iconst (v := (-1)) hx hb dX7_readOrder_141 (by decide) ?_
                  refine lv_icmp_eq (tgt := 148) hx hb dX7_readOrder_142 (by decide) (fun c => absurd (jeq c rfl jz_m1) (by omega)) (fun c383 => ?_)
                  have kc383 := jne c383 rfl jz_m1
                  refine lv_iload hx hb dX7_readOrder_145 (lv_at hl 0 rfl) ?_
                  have z384 : (σ351 16 0).toInt = (σ 16 0).toInt := by rw [(show σ351 16 0 = (σ 16 0) from (by rw [f353 16 (by omega)]; exact (by rw [f335 16 (by omega)]; exact (by rw [f281 16 (by omega)]; exact (by rw [f171 16 (by omega)]; exact (by rw [f45 16 (by omega)]; exact (by rw [f32 16 (by omega)]; exact (by rw [f11 16 (by omega)]))))))))]
                  have z385 : (σ351 16 1).toInt = (σ 16 1).toInt := by rw [(show σ351 16 1 = (σ 16 1) from (by rw [f353 16 (by omega)]; exact (by rw [f335 16 (by omega)]; exact (by rw [f281 16 (by omega)]; exact (by rw [f171 16 (by omega)]; exact (by rw [f45 16 (by omega)]; exact (by rw [f32 16 (by omega)]; exact (by rw [f11 16 (by omega)]))))))))]
                  have z386 : (σ351 16 2).toInt = (σ 16 2).toInt := by rw [(show σ351 16 2 = (σ 16 2) from (by rw [f353 16 (by omega)]; exact (by rw [f335 16 (by omega)]; exact (by rw [f281 16 (by omega)]; exact (by rw [f171 16 (by omega)]; exact (by rw [f45 16 (by omega)]; exact (by rw [f32 16 (by omega)]; exact (by rw [f11 16 (by omega)]))))))))]
                  have w387 : ∀ k : Nat, k < 8 → 0 ≤ (σ351 17 k).toInt ∧ (σ351 17 k).toInt ≤ 3 := (by rw [f353 17 (by omega)]; exact (by rw [f335 17 (by omega)]; exact (by rw [f281 17 (by omega)]; exact (by rw [f171 17 (by omega)]; exact (by rw [f45 17 (by omega)]; exact (by rw [f32 17 (by omega)]; exact (by rw [f11 17 (by omega)]; exact w7)))))))
                  have I388 : jI16 σ351 := ⟨(by omega), (by omega), (by omega), w387⟩
                  exact hret r352 σ351 τ _ _ _ _ rfl ⟨rfl, (fun i hi => by rw [f353 i (by omega), f335 i (by omega), f281 i (by omega), f171 i (by omega), f45 i (by omega), f32 i (by omega), f11 i (by omega)]), (fun k hk => by rw [f354 k (by omega), f336 k (by omega), f282 k (by omega), f172 k (by omega), f46 k (by omega), f33 k (by omega), f12 k (by omega)]), (fun k hk => by rw [f353 16 (by omega), f335 16 (by omega), f281 16 (by omega), f171 16 (by omega), f45 16 (by omega), f32 16 (by omega), f11 16 (by omega)]), I355, I388, trivial⟩ hP hS dX7_readOrder_147
            · have kc278 := jnle c278 rfl jz_12
              refine lv_aload_n hx hb dX7_readOrder_111 rfl (lv_at hl 4 rfl) ?_
              refine lv_iload hx hb dX7_readOrder_112 (lv_at hl 1 rfl) ?_
              refine jcallVv (As := [.int (σ43 9 1)]) (rest := []) ⟨hx, hb, hml, hown, hts⟩ hK hP hA hS hZ (c_X7_fail_9 l D cI cL ad zz hJ σ169 τ (σ43 9 1) ((σ43 9 1).toInt) rfl I175 (by omega)) cw_RX7_43 (jc_9 cI cL ad σ169 τ) rfl ⟨Nat.le_of_ble_eq_true rfl, Nat.le_of_ble_eq_true rfl⟩ rfl rfl rfl hl.1 rfl (Nat.le_of_ble_eq_true rfl) dX7_readOrder_114 ⟨Nat.zero_le _, Nat.zero_le _⟩ (fun σ389 τ389 H locs h389 hP hS => ?_)
              obtain ⟨rfl, f391, f392, h389⟩ := h389
              obtain ⟨k393, h389⟩ := h389
              refine lv_aload_n hx hb dX7_readOrder_117 rfl (lv_at hl 4 rfl) ?_
              refine lv_bipush (v := 114) hx hb dX7_readOrder_118 (by decide) ?_
              have z394 : (σ389 9 0).toInt = (σ 9 0).toInt := by rw [(show σ389 9 0 = (σ 9 0) from (by rw [f392 0 (by omega)]; exact (by rw [f172 0 (by omega)]; exact (by rw [f46 0 (by omega)]; exact (by rw [f33 0 (by omega)]; exact (by rw [f12 0 (by omega)]))))))]
              have w395 : ∀ k : Nat, k < 80 → 0 ≤ (σ389 10 k).toInt ∧ (σ389 10 k).toInt ≤ 255 := (by rw [f391 10 (by omega)]; exact w177)
              have w396 : ∀ k : Nat, k < 8 → 0 ≤ (σ389 11 k).toInt ∧ (σ389 11 k).toInt ≤ 3 := (by rw [f391 11 (by omega)]; exact w178)
              have I397 : jI9 σ389 := ⟨(by omega), w395, w396⟩
              have z398 : (σ389 9 1).toInt = (σ169 9 1).toInt := by rw [(show σ389 9 1 = (σ169 9 1) from (by rw [f392 1 (by omega)]))]
              have I399 : jI91 σ389 := ⟨(by omega), (by omega)⟩
              have I400 : jI92 σ389 := (show (-1) ≤ (σ389 9 2).toInt by omega)
              refine jcallV (As := [.int 114]) (rest := []) ⟨hx, hb, hml, hown, hts⟩ hK hP hA hS hZ (c_X7_skip_9 l D cI cL ad zz hJ σ389 τ 114 (114) jz_114 I397 I399 I400 (by omega)) cw_RX7_50 (jc_9 cI cL ad σ389 τ) rfl ⟨Nat.le_of_ble_eq_true rfl, Nat.le_of_ble_eq_true rfl⟩ rfl rfl rfl hl.1 rfl (Nat.le_of_ble_eq_true rfl) dX7_readOrder_120 ⟨Nat.zero_le _, Nat.zero_le _⟩ (fun r402 σ401 τ401 H locs h401 hP hS => ?_)
              obtain ⟨rfl, f403, f404, I405, I406, I407, h401⟩ := h401
              obtain ⟨i408, w409, w410⟩ : (0 ≤ (σ401 9 0).toInt ∧ (σ401 9 0).toInt ≤ 80) ∧ (∀ k : Nat, k < 80 → 0 ≤ (σ401 10 k).toInt ∧ (σ401 10 k).toInt ≤ 255) ∧ (∀ k : Nat, k < 8 → 0 ≤ (σ401 11 k).toInt ∧ (σ401 11 k).toInt ≤ 3) := id I405
              obtain ⟨i411, i412⟩ : (0 ≤ (σ401 9 1).toInt) ∧ ((σ401 9 1).toInt ≤ (σ401 9 0).toInt) := id I406
              have i413 : (-1) ≤ (σ401 9 2).toInt := I407
              have z414 : (σ401 9 0).toInt = (σ 9 0).toInt := by rw [(show σ401 9 0 = (σ 9 0) from (by rw [f404 0 (by omega)]; exact (by rw [f392 0 (by omega)]; exact (by rw [f172 0 (by omega)]; exact (by rw [f46 0 (by omega)]; exact (by rw [f33 0 (by omega)]; exact (by rw [f12 0 (by omega)])))))))]
              have z415 : (σ401 9 2).toInt = (σ389 9 2).toInt := by rw [(show σ401 9 2 = (σ389 9 2) from (by rw [f404 2 (by omega)]))]
              refine lv_if_eq (tgt := 133) hx hb dX7_readOrder_123 (by decide) (fun c416 => ?_) (fun c416 => ?_)
              · have kc416 := jeq c416 rfl jz_0
                refine lv_aload_n hx hb dX7_readOrder_133 rfl (lv_at hl 4 rfl) ?_
                refine jcallV (As := []) (rest := []) ⟨hx, hb, hml, hown, hts⟩ hK hP hA hS hZ (c_X7_end_9 l D cI cL ad zz hJ σ401 τ I405 I406 I407) cw_RX7_57 (jc_9 cI cL ad σ401 τ) rfl ⟨Nat.le_of_ble_eq_true rfl, Nat.le_of_ble_eq_true rfl⟩ rfl rfl rfl hl.1 rfl (Nat.le_of_ble_eq_true rfl) dX7_readOrder_134 ⟨Nat.zero_le _, Nat.zero_le _⟩ (fun r418 σ417 τ417 H locs h417 hP hS => ?_)
                obtain ⟨rfl, f419, f420, I421, I422, h417⟩ := h417
                obtain ⟨i423, w424, w425⟩ : (0 ≤ (σ417 9 0).toInt ∧ (σ417 9 0).toInt ≤ 80) ∧ (∀ k : Nat, k < 80 → 0 ≤ (σ417 10 k).toInt ∧ (σ417 10 k).toInt ≤ 255) ∧ (∀ k : Nat, k < 8 → 0 ≤ (σ417 11 k).toInt ∧ (σ417 11 k).toInt ≤ 3) := id I421
                have i426 : (-1) ≤ (σ417 9 2).toInt := I422
                rcases h417 with h427 | h428
                · obtain ⟨q430, k429⟩ := h427
                  exact absurd (by omega : False) id
                · obtain ⟨q432, k431⟩ := h428
                  refine lv_istore (lv' := [(5, .int r418), (3, .int r170), (4, .int 0), (2, .int x25), (0, .ref (ad 9)), (1, .ref (ad 16))]) hx hb dX7_readOrder_137 hl (by decide) rfl (fun ls hl => ?_)
                  refine lv_iload hx hb dX7_readOrder_139 (lv_at hl 0 rfl) ?_
                  refine lv_iconst (v := (-1)) hx hb dX7_readOrder_141 (by decide) ?_
                  refine lv_icmp_eq (tgt := 148) hx hb dX7_readOrder_142 (by decide) (fun c => absurd (jeq c rfl jz_m1) (by omega)) (fun c433 => ?_)
                  have kc433 := jne c433 rfl jz_m1
                  refine lv_iload hx hb dX7_readOrder_145 (lv_at hl 0 rfl) ?_
                  have z434 : (σ417 16 0).toInt = (σ 16 0).toInt := by rw [(show σ417 16 0 = (σ 16 0) from (by rw [f419 16 (by omega)]; exact (by rw [f403 16 (by omega)]; exact (by rw [f391 16 (by omega)]; exact (by rw [f171 16 (by omega)]; exact (by rw [f45 16 (by omega)]; exact (by rw [f32 16 (by omega)]; exact (by rw [f11 16 (by omega)]))))))))]
                  have z435 : (σ417 16 1).toInt = (σ 16 1).toInt := by rw [(show σ417 16 1 = (σ 16 1) from (by rw [f419 16 (by omega)]; exact (by rw [f403 16 (by omega)]; exact (by rw [f391 16 (by omega)]; exact (by rw [f171 16 (by omega)]; exact (by rw [f45 16 (by omega)]; exact (by rw [f32 16 (by omega)]; exact (by rw [f11 16 (by omega)]))))))))]
                  have z436 : (σ417 16 2).toInt = (σ 16 2).toInt := by rw [(show σ417 16 2 = (σ 16 2) from (by rw [f419 16 (by omega)]; exact (by rw [f403 16 (by omega)]; exact (by rw [f391 16 (by omega)]; exact (by rw [f171 16 (by omega)]; exact (by rw [f45 16 (by omega)]; exact (by rw [f32 16 (by omega)]; exact (by rw [f11 16 (by omega)]))))))))]
                  have w437 : ∀ k : Nat, k < 8 → 0 ≤ (σ417 17 k).toInt ∧ (σ417 17 k).toInt ≤ 3 := (by rw [f419 17 (by omega)]; exact (by rw [f403 17 (by omega)]; exact (by rw [f391 17 (by omega)]; exact (by rw [f171 17 (by omega)]; exact (by rw [f45 17 (by omega)]; exact (by rw [f32 17 (by omega)]; exact (by rw [f11 17 (by omega)]; exact w7)))))))
                  have I438 : jI16 σ417 := ⟨(by omega), (by omega), (by omega), w437⟩
                  exact hret r418 σ417 τ _ _ _ _ rfl ⟨rfl, (fun i hi => by rw [f419 i (by omega), f403 i (by omega), f391 i (by omega), f171 i (by omega), f45 i (by omega), f32 i (by omega), f11 i (by omega)]), (fun k hk => by rw [f420 k (by omega), f404 k (by omega), f392 k (by omega), f172 k (by omega), f46 k (by omega), f33 k (by omega), f12 k (by omega)]), (fun k hk => by rw [f419 16 (by omega), f403 16 (by omega), f391 16 (by omega), f171 16 (by omega), f45 16 (by omega), f32 16 (by omega), f11 16 (by omega)]), I421, I438, trivial⟩ hP hS dX7_readOrder_147
              · have kc416 := jne c416 rfl jz_0
                refine lv_aload_n hx hb dX7_readOrder_126 rfl (lv_at hl 4 rfl) ?_
                refine lv_iconst (v := 3) hx hb dX7_readOrder_127 (by decide) ?_
                refine jcallV (As := [.int 3]) (rest := []) ⟨hx, hb, hml, hown, hts⟩ hK hP hA hS hZ (c_X7_number_3 l D cI cL ad zz hJ σ401 τ I405 I406 I407) cw_RX7_53 (jc_9 cI cL ad σ401 τ) rfl ⟨Nat.le_of_ble_eq_true rfl, Nat.le_of_ble_eq_true rfl⟩ rfl rfl rfl hl.1 rfl (Nat.le_of_ble_eq_true rfl) dX7_readOrder_128 ⟨Nat.zero_le _, Nat.zero_le _⟩ (fun r440 σ439 τ439 H locs h439 hP hS => ?_)
                obtain ⟨rfl, f441, f442, I443, I444, I445, h439⟩ := h439
                obtain ⟨i446, w447, w448⟩ : (0 ≤ (σ439 9 0).toInt ∧ (σ439 9 0).toInt ≤ 80) ∧ (∀ k : Nat, k < 80 → 0 ≤ (σ439 10 k).toInt ∧ (σ439 10 k).toInt ≤ 255) ∧ (∀ k : Nat, k < 8 → 0 ≤ (σ439 11 k).toInt ∧ (σ439 11 k).toInt ≤ 3) := id I443
                obtain ⟨i449, i450⟩ : (0 ≤ (σ439 9 1).toInt) ∧ ((σ439 9 1).toInt ≤ (σ439 9 0).toInt) := id I444
                have i451 : (-1) ≤ (σ439 9 2).toInt := I445
                have z452 : (σ439 9 0).toInt = (σ 9 0).toInt := by rw [(show σ439 9 0 = (σ 9 0) from (by rw [f442 0 (by omega)]; exact (by rw [f404 0 (by omega)]; exact (by rw [f392 0 (by omega)]; exact (by rw [f172 0 (by omega)]; exact (by rw [f46 0 (by omega)]; exact (by rw [f33 0 (by omega)]; exact (by rw [f12 0 (by omega)]))))))))]
                obtain ⟨k453, h439⟩ := h439
                have h454 := h439
                obtain ⟨q456, k455⟩ := h454
                refine lv_istore (lv' := [(4, .int r440), (3, .int r170), (5, .int (σ43 9 1)), (2, .int x25), (0, .ref (ad 9)), (1, .ref (ad 16))]) hx hb dX7_readOrder_131 hl (by decide) rfl (fun ls hl => ?_)
                refine lv_aload_n hx hb dX7_readOrder_133 rfl (lv_at hl 4 rfl) ?_
                refine jcallV (As := []) (rest := []) ⟨hx, hb, hml, hown, hts⟩ hK hP hA hS hZ (c_X7_end_9 l D cI cL ad zz hJ σ439 τ I443 I444 I445) cw_RX7_57 (jc_9 cI cL ad σ439 τ) rfl ⟨Nat.le_of_ble_eq_true rfl, Nat.le_of_ble_eq_true rfl⟩ rfl rfl rfl hl.1 rfl (Nat.le_of_ble_eq_true rfl) dX7_readOrder_134 ⟨Nat.zero_le _, Nat.zero_le _⟩ (fun r458 σ457 τ457 H locs h457 hP hS => ?_)
                obtain ⟨rfl, f459, f460, I461, I462, h457⟩ := h457
                obtain ⟨i463, w464, w465⟩ : (0 ≤ (σ457 9 0).toInt ∧ (σ457 9 0).toInt ≤ 80) ∧ (∀ k : Nat, k < 80 → 0 ≤ (σ457 10 k).toInt ∧ (σ457 10 k).toInt ≤ 255) ∧ (∀ k : Nat, k < 8 → 0 ≤ (σ457 11 k).toInt ∧ (σ457 11 k).toInt ≤ 3) := id I461
                have i466 : (-1) ≤ (σ457 9 2).toInt := I462
                rcases h457 with h467 | h468
                · obtain ⟨q470, k469⟩ := h467
                  exact absurd (by omega : False) id
                · obtain ⟨q472, k471⟩ := h468
                  refine lv_istore (lv' := [(5, .int r458), (4, .int r440), (3, .int r170), (2, .int x25), (0, .ref (ad 9)), (1, .ref (ad 16))]) hx hb dX7_readOrder_137 hl (by decide) rfl (fun ls hl => ?_)
                  refine lv_iload hx hb dX7_readOrder_139 (lv_at hl 0 rfl) ?_
                  refine lv_iconst (v := (-1)) hx hb dX7_readOrder_141 (by decide) ?_
                  refine lv_icmp_eq (tgt := 148) hx hb dX7_readOrder_142 (by decide) (fun c => absurd (jeq c rfl jz_m1) (by omega)) (fun c473 => ?_)
                  have kc473 := jne c473 rfl jz_m1
                  refine lv_iload hx hb dX7_readOrder_145 (lv_at hl 0 rfl) ?_
                  have z474 : (σ457 16 0).toInt = (σ 16 0).toInt := by rw [(show σ457 16 0 = (σ 16 0) from (by rw [f459 16 (by omega)]; exact (by rw [f441 16 (by omega)]; exact (by rw [f403 16 (by omega)]; exact (by rw [f391 16 (by omega)]; exact (by rw [f171 16 (by omega)]; exact (by rw [f45 16 (by omega)]; exact (by rw [f32 16 (by omega)]; exact (by rw [f11 16 (by omega)])))))))))]
                  have z475 : (σ457 16 1).toInt = (σ 16 1).toInt := by rw [(show σ457 16 1 = (σ 16 1) from (by rw [f459 16 (by omega)]; exact (by rw [f441 16 (by omega)]; exact (by rw [f403 16 (by omega)]; exact (by rw [f391 16 (by omega)]; exact (by rw [f171 16 (by omega)]; exact (by rw [f45 16 (by omega)]; exact (by rw [f32 16 (by omega)]; exact (by rw [f11 16 (by omega)])))))))))]
                  have z476 : (σ457 16 2).toInt = (σ 16 2).toInt := by rw [(show σ457 16 2 = (σ 16 2) from (by rw [f459 16 (by omega)]; exact (by rw [f441 16 (by omega)]; exact (by rw [f403 16 (by omega)]; exact (by rw [f391 16 (by omega)]; exact (by rw [f171 16 (by omega)]; exact (by rw [f45 16 (by omega)]; exact (by rw [f32 16 (by omega)]; exact (by rw [f11 16 (by omega)])))))))))]
                  have w477 : ∀ k : Nat, k < 8 → 0 ≤ (σ457 17 k).toInt ∧ (σ457 17 k).toInt ≤ 3 := (by rw [f459 17 (by omega)]; exact (by rw [f441 17 (by omega)]; exact (by rw [f403 17 (by omega)]; exact (by rw [f391 17 (by omega)]; exact (by rw [f171 17 (by omega)]; exact (by rw [f45 17 (by omega)]; exact (by rw [f32 17 (by omega)]; exact (by rw [f11 17 (by omega)]; exact w7))))))))
                  have I478 : jI16 σ457 := ⟨(by omega), (by omega), (by omega), w477⟩
                  exact hret r458 σ457 τ _ _ _ _ rfl ⟨rfl, (fun i hi => by rw [f459 i (by omega), f441 i (by omega), f403 i (by omega), f391 i (by omega), f171 i (by omega), f45 i (by omega), f32 i (by omega), f11 i (by omega)]), (fun k hk => by rw [f460 k (by omega), f442 k (by omega), f404 k (by omega), f392 k (by omega), f172 k (by omega), f46 k (by omega), f33 k (by omega), f12 k (by omega)]), (fun k hk => by rw [f459 16 (by omega), f441 16 (by omega), f403 16 (by omega), f391 16 (by omega), f171 16 (by omega), f45 16 (by omega), f32 16 (by omega), f11 16 (by omega)]), I461, I478, trivial⟩ hP hS dX7_readOrder_147
      · have kc36 := jnle c36 jz_8 rfl
        refine lv_aload_n hx hb dX7_readOrder_18 rfl (lv_at hl 3 rfl) ?_
        have w479 : ∀ k : Nat, k < 80 → 0 ≤ (σ26 10 k).toInt ∧ (σ26 10 k).toInt ≤ 255 := (by rw [f32 10 (by omega)]; exact w17)
        have I480 : jI9 σ26 := ⟨(by omega), w479, w34⟩
        refine jcallV (As := []) (rest := []) ⟨hx, hb, hml, hown, hts⟩ hK hP hA hS hZ (c_X7_sign_9 l D cI cL ad zz hJ σ26 τ I480) cw_RX7_35 (jc_9 cI cL ad σ26 τ) rfl ⟨Nat.le_of_ble_eq_true rfl, Nat.le_of_ble_eq_true rfl⟩ rfl rfl rfl hl.1 rfl (Nat.le_of_ble_eq_true rfl) dX7_readOrder_19 ⟨Nat.zero_le _, Nat.zero_le _⟩ (fun r482 σ481 τ481 H locs h481 hP hS => ?_)
        obtain ⟨⟨rfl, rfl⟩, h481⟩ := h481
        rcases h481 with h483 | h484
        · obtain ⟨q487, k485, k486⟩ := h483
          have q488 : r482 = (σ 10 (σ26 9 1).toNatClampNeg) := q487.trans (by rw [f32 10 (by omega), f11 10 (by omega)])
          have q488e : (σ26 10 (σ26 9 1).toNatClampNeg).toInt = (σ 10 (σ26 9 1).toNatClampNeg).toInt := by rw [← q487, ← q488]
          have q488 := q488.symm
          subst q488
          refine lv_bipush (v := 48) hx hb dX7_readOrder_22 (by decide) ?_
          refine lv_icmp_lt (tgt := 67) hx hb dX7_readOrder_24 (by decide) (fun c489 => ?_) (fun c489 => ?_)
          · have kc489 := jlt c489 rfl jz_48
            refine lv_iload_n hx hb dX7_readOrder_67 rfl (lv_at hl 2 rfl) ?_
            refine lv_if_ne (tgt := 79) hx hb dX7_readOrder_68 (by decide) (fun c490 => ?_) (fun c490 => ?_)
            · have kc490 := jne c490 rfl jz_0
              refine lv_aload_n hx hb dX7_readOrder_79 rfl (lv_at hl 3 rfl) ?_
              refine lv_bipush (v := 58) hx hb dX7_readOrder_80 (by decide) ?_
              have I491 : jI91 σ26 := ⟨(by omega), (by omega)⟩
              have z492 : (σ26 9 2).toInt = (σ9 9 2).toInt := by rw [(show σ26 9 2 = (σ9 9 2) from (by rw [f33 2 (by omega)]))]
              have I493 : jI92 σ26 := (show (-1) ≤ (σ26 9 2).toInt by omega)
              refine jcallV (As := [.int 58]) (rest := []) ⟨hx, hb, hml, hown, hts⟩ hK hP hA hS hZ (c_X7_skip_9 l D cI cL ad zz hJ σ26 τ 58 (58) jz_58 I480 I491 I493 (by omega)) cw_RX7_50 (jc_9 cI cL ad σ26 τ) rfl ⟨Nat.le_of_ble_eq_true rfl, Nat.le_of_ble_eq_true rfl⟩ rfl rfl rfl hl.1 rfl (Nat.le_of_ble_eq_true rfl) dX7_readOrder_82 ⟨Nat.zero_le _, Nat.zero_le _⟩ (fun r495 σ494 τ494 H locs h494 hP hS => ?_)
              obtain ⟨rfl, f496, f497, I498, I499, I500, h494⟩ := h494
              obtain ⟨i501, w502, w503⟩ : (0 ≤ (σ494 9 0).toInt ∧ (σ494 9 0).toInt ≤ 80) ∧ (∀ k : Nat, k < 80 → 0 ≤ (σ494 10 k).toInt ∧ (σ494 10 k).toInt ≤ 255) ∧ (∀ k : Nat, k < 8 → 0 ≤ (σ494 11 k).toInt ∧ (σ494 11 k).toInt ≤ 3) := id I498
              obtain ⟨i504, i505⟩ : (0 ≤ (σ494 9 1).toInt) ∧ ((σ494 9 1).toInt ≤ (σ494 9 0).toInt) := id I499
              have i506 : (-1) ≤ (σ494 9 2).toInt := I500
              have z507 : (σ494 9 0).toInt = (σ 9 0).toInt := by rw [(show σ494 9 0 = (σ 9 0) from (by rw [f497 0 (by omega)]; exact (by rw [f33 0 (by omega)]; exact (by rw [f12 0 (by omega)]))))]
              have z508 : (σ494 9 2).toInt = (σ9 9 2).toInt := by rw [(show σ494 9 2 = (σ9 9 2) from (by rw [f497 2 (by omega)]; exact (by rw [f33 2 (by omega)])))]
              refine lv_if_eq (tgt := 117) hx hb dX7_readOrder_85 (by decide) (fun c509 => ?_) (fun c509 => ?_)
              · have kc509 := jeq c509 rfl jz_0
                refine lv_aload_n hx hb dX7_readOrder_117 rfl (lv_at hl 3 rfl) ?_
                refine lv_bipush (v := 114) hx hb dX7_readOrder_118 (by decide) ?_
                refine jcallV (As := [.int 114]) (rest := []) ⟨hx, hb, hml, hown, hts⟩ hK hP hA hS hZ (c_X7_skip_9 l D cI cL ad zz hJ σ494 τ 114 (114) jz_114 I498 I499 I500 (by omega)) cw_RX7_50 (jc_9 cI cL ad σ494 τ) rfl ⟨Nat.le_of_ble_eq_true rfl, Nat.le_of_ble_eq_true rfl⟩ rfl rfl rfl hl.1 rfl (Nat.le_of_ble_eq_true rfl) dX7_readOrder_120 ⟨Nat.zero_le _, Nat.zero_le _⟩ (fun r511 σ510 τ510 H locs h510 hP hS => ?_)
                obtain ⟨rfl, f512, f513, I514, I515, I516, h510⟩ := h510
                obtain ⟨i517, w518, w519⟩ : (0 ≤ (σ510 9 0).toInt ∧ (σ510 9 0).toInt ≤ 80) ∧ (∀ k : Nat, k < 80 → 0 ≤ (σ510 10 k).toInt ∧ (σ510 10 k).toInt ≤ 255) ∧ (∀ k : Nat, k < 8 → 0 ≤ (σ510 11 k).toInt ∧ (σ510 11 k).toInt ≤ 3) := id I514
                obtain ⟨i520, i521⟩ : (0 ≤ (σ510 9 1).toInt) ∧ ((σ510 9 1).toInt ≤ (σ510 9 0).toInt) := id I515
                have i522 : (-1) ≤ (σ510 9 2).toInt := I516
                have z523 : (σ510 9 0).toInt = (σ 9 0).toInt := by rw [(show σ510 9 0 = (σ 9 0) from (by rw [f513 0 (by omega)]; exact (by rw [f497 0 (by omega)]; exact (by rw [f33 0 (by omega)]; exact (by rw [f12 0 (by omega)])))))]
                have z524 : (σ510 9 2).toInt = (σ9 9 2).toInt := by rw [(show σ510 9 2 = (σ9 9 2) from (by rw [f513 2 (by omega)]; exact (by rw [f497 2 (by omega)]; exact (by rw [f33 2 (by omega)]))))]
                refine lv_if_eq (tgt := 133) hx hb dX7_readOrder_123 (by decide) (fun c525 => ?_) (fun c525 => ?_)
                · have kc525 := jeq c525 rfl jz_0
                  refine lv_aload_n hx hb dX7_readOrder_133 rfl (lv_at hl 3 rfl) ?_
                  refine jcallV (As := []) (rest := []) ⟨hx, hb, hml, hown, hts⟩ hK hP hA hS hZ (c_X7_end_9 l D cI cL ad zz hJ σ510 τ I514 I515 I516) cw_RX7_57 (jc_9 cI cL ad σ510 τ) rfl ⟨Nat.le_of_ble_eq_true rfl, Nat.le_of_ble_eq_true rfl⟩ rfl rfl rfl hl.1 rfl (Nat.le_of_ble_eq_true rfl) dX7_readOrder_134 ⟨Nat.zero_le _, Nat.zero_le _⟩ (fun r527 σ526 τ526 H locs h526 hP hS => ?_)
                  obtain ⟨rfl, f528, f529, I530, I531, h526⟩ := h526
                  obtain ⟨i532, w533, w534⟩ : (0 ≤ (σ526 9 0).toInt ∧ (σ526 9 0).toInt ≤ 80) ∧ (∀ k : Nat, k < 80 → 0 ≤ (σ526 10 k).toInt ∧ (σ526 10 k).toInt ≤ 255) ∧ (∀ k : Nat, k < 8 → 0 ≤ (σ526 11 k).toInt ∧ (σ526 11 k).toInt ≤ 3) := id I530
                  have i535 : (-1) ≤ (σ526 9 2).toInt := I531
                  rcases h526 with h536 | h537
                  · obtain ⟨q539, k538⟩ := h536
                    have q539 := q539.symm
                    subst q539
                    refine lv_istore (lv' := [(5, .int (-1)), (4, .int 0), (3, .int 8), (2, .int x25), (0, .ref (ad 9)), (1, .ref (ad 16))]) hx hb dX7_readOrder_137 hl (by decide) rfl (fun ls hl => ?_)
                    refine lv_iload hx hb dX7_readOrder_139 (lv_at hl 0 rfl) ?_
                    refine lv_iconst (v := (-1)) hx hb dX7_readOrder_141 (by decide) ?_
                    refine lv_icmp_eq (tgt := 148) hx hb dX7_readOrder_142 (by decide) (fun _ => ?_) (fun c => absurd (by decide) c)
                    refine lv_aload_n hx hb dX7_readOrder_148 rfl (lv_at hl 5 rfl) ?_
                    refine lv_iload_n hx hb dX7_readOrder_149 rfl (lv_at hl 3 rfl) ?_
                    refine jput (ty := .int) hx hb hts inlX6 tyX6 tyX6_ok nmX6 hown hK hP hJ hA hS (jc_16 cI cL ad σ526 τ) rfl (k := 0) (by decide) (Nat.le_of_ble_eq_true rfl) (jp_16_0 cI cL ad σ526 τ x25) (hts _ kw_13_18) (fun _ h9 => h9) rfl (by decide +kernel) rfl rfl dX7_readOrder_150 (fun σ540 H locs eσ540 hP hS => ?_)
                    refine lv_aload_n hx hb dX7_readOrder_153 rfl (lv_at hl 5 rfl) ?_
                    refine lv_iload_n hx hb dX7_readOrder_154 rfl (lv_at hl 2 rfl) ?_
                    refine jput (ty := .int) hx hb hts inlX6 tyX6 tyX6_ok nmX6 hown hK hP hJ hA hS (jc_16 cI cL ad σ540 τ) rfl (k := 1) (by decide) (Nat.le_of_ble_eq_true rfl) (jp_16_1 cI cL ad σ540 τ 8) (hts _ kw_13_19) (fun _ h9 => h9) rfl (by decide +kernel) rfl rfl dX7_readOrder_155 (fun σ541 H locs eσ541 hP hS => ?_)
                    refine lv_aload_n hx hb dX7_readOrder_158 rfl (lv_at hl 5 rfl) ?_
                    refine lv_iload hx hb dX7_readOrder_159 (lv_at hl 1 rfl) ?_
                    refine jput (ty := .int) hx hb hts inlX6 tyX6 tyX6_ok nmX6 hown hK hP hJ hA hS (jc_16 cI cL ad σ541 τ) rfl (k := 2) (by decide) (Nat.le_of_ble_eq_true rfl) (jp_16_2 cI cL ad σ541 τ 0) (hts _ kw_13_20) (fun _ h9 => h9) rfl (by decide +kernel) rfl rfl dX7_readOrder_161 (fun σ542 H locs eσ542 hP hS => ?_)
                    refine lv_aload_n hx hb dX7_readOrder_164 rfl (lv_at hl 4 rfl) ?_
                    refine va_get (D := D) hx hb hts inlX7 hown hK hP 9 (jc_9 cI cL ad σ542 τ) rfl 4 (by decide) (hts _ kw_3_21) (fun _ h9 => h9) rfl dX7_readOrder_165 ?_
                    refine lv_iconst (v := 0) hx hb dX7_readOrder_168 (by decide) ?_
                    refine lv_aload_n hx hb dX7_readOrder_169 rfl (lv_at hl 5 rfl) ?_
                    refine va_get (D := D) hx hb hts inlX6 hown hK hP 16 (jc_16 cI cL ad σ542 τ) rfl 3 (by decide) (hts _ kw_13_21) (fun _ h9 => h9) rfl dX7_readOrder_170 ?_
                    refine lv_iconst (v := 0) hx hb dX7_readOrder_173 (by decide) ?_
                    refine lv_iload_n hx hb dX7_readOrder_174 rfl (lv_at hl 3 rfl) ?_
                    refine jcpyI (q0 := 11) (q1 := 17) hx hb (hml.trans hl.1.symm) hown (hts _ kw_13_22) (hts _ kw_13_23) (hts _ kw_14_0) (hts _ kw_14_1) hK hP hJ hA hS (jc_11 cI cL ad σ542 τ) (jc_17 cI cL ad σ542 τ) (fun _ => rfl) jz_0 jz_0 rfl (by omega) (by omega) (by omega) (by omega) (by omega) (Nat.le_of_ble_eq_true rfl) (Nat.le_of_ble_eq_true rfl) dX7_readOrder_175 (fun σ543 H locs eσ543 hP hS => ?_)
                    have w544 : ∀ k : Nat, k < 8 → 0 ≤ (σ542 11 k).toInt ∧ (σ542 11 k).toInt ≤ 3 := (by rw [eσ542, jup_n (by decide)]; exact (by rw [eσ541, jup_n (by decide)]; exact (by rw [eσ540, jup_n (by decide)]; exact w534)))
                    have w545 : ∀ k : Nat, k < 8 → 0 ≤ (σ542 17 k).toInt ∧ (σ542 17 k).toInt ≤ 3 := (by rw [eσ542, jup_n (by decide)]; exact (by rw [eσ541, jup_n (by decide)]; exact (by rw [eσ540, jup_n (by decide)]; exact (by rw [f528 17 (by omega)]; exact (by rw [f512 17 (by omega)]; exact (by rw [f496 17 (by omega)]; exact (by rw [f32 17 (by omega)]; exact (by rw [f11 17 (by omega)]; exact w7))))))))
                    have f546 : (∀ i : Nat, (i < 17 ∨ 17 < i) → σ543 i = σ542 i) := by rw [eσ543]; exact jrow_n
                    have w547 : ∀ k : Nat, k < 8 → 0 ≤ (σ543 17 k).toInt ∧ (σ543 17 k).toInt ≤ 3 := by rw [eσ543]; exact jrow_rr w544 w545 jz_0 rfl (n0 := 8) (by omega) (by omega) (by omega)
                    refine lv_iconst (v := (-1)) hx hb dX7_readOrder_178 (by decide) ?_
                    have z548 : (σ543 9 0).toInt = (σ526 9 0).toInt := by rw [(show σ543 9 0 = (σ526 9 0) from (by rw [f546 9 (by omega)]; exact (by rw [eσ542, jup_n (by decide)]; exact (by rw [eσ541, jup_n (by decide)]; exact (by rw [eσ540, jup_n (by decide)])))))]
                    have w549 : ∀ k : Nat, k < 80 → 0 ≤ (σ543 10 k).toInt ∧ (σ543 10 k).toInt ≤ 255 := (by rw [f546 10 (by omega)]; exact (by rw [eσ542, jup_n (by decide)]; exact (by rw [eσ541, jup_n (by decide)]; exact (by rw [eσ540, jup_n (by decide)]; exact w533))))
                    have w550 : ∀ k : Nat, k < 8 → 0 ≤ (σ543 11 k).toInt ∧ (σ543 11 k).toInt ≤ 3 := (by rw [f546 11 (by omega)]; exact w544)
                    have I551 : jI9 σ543 := ⟨(by omega), w549, w550⟩
                    have z552 : (σ543 16 0).toInt = x25.toInt := by rw [(show σ543 16 0 = x25 from (by rw [f546 16 (by omega)]; exact (by rw [eσ542, jup_k (by decide)]; exact (by rw [eσ541, jup_k (by decide)]; exact (by rw [eσ540]; exact jup_s)))))]
                    have z553 : (σ543 16 1).toInt = 8 := by rw [(show σ543 16 1 = 8 from (by rw [f546 16 (by omega)]; exact (by rw [eσ542, jup_k (by decide)]; exact (by rw [eσ541]; exact jup_s))))]; exact jz_8
                    have z554 : (σ543 16 2).toInt = 0 := by rw [(show σ543 16 2 = 0 from (by rw [f546 16 (by omega)]; exact (by rw [eσ542]; exact jup_s)))]; exact jz_0
                    have I555 : jI16 σ543 := ⟨(by omega), (by omega), (by omega), w547⟩
                    exact hret (-1) σ543 τ _ _ _ _ rfl ⟨rfl, (fun i hi => by rw [f546 i (by omega), eσ542, jup_n (by omega), eσ541, jup_n (by omega), eσ540, jup_n (by omega), f528 i (by omega), f512 i (by omega), f496 i (by omega), f32 i (by omega), f11 i (by omega)]), (fun k hk => by rw [f546 9 (by omega), eσ542, jup_n (by decide), eσ541, jup_n (by decide), eσ540, jup_n (by decide), f529 k (by omega), f513 k (by omega), f497 k (by omega), f33 k (by omega), f12 k (by omega)]), (fun k hk => by rw [f546 16 (by omega), eσ542, jup_k (by omega), eσ541, jup_k (by omega), eσ540, jup_k (by omega), f528 16 (by omega), f512 16 (by omega), f496 16 (by omega), f32 16 (by omega), f11 16 (by omega)]), I551, I555, trivial⟩ hP hS dX7_readOrder_179
                  · obtain ⟨q557, k556⟩ := h537
                    refine lv_istore (lv' := [(5, .int r527), (4, .int 0), (3, .int 8), (2, .int x25), (0, .ref (ad 9)), (1, .ref (ad 16))]) hx hb dX7_readOrder_137 hl (by decide) rfl (fun ls hl => ?_)
                    refine lv_iload hx hb dX7_readOrder_139 (lv_at hl 0 rfl) ?_
                    refine lv_iconst (v := (-1)) hx hb dX7_readOrder_141 (by decide) ?_
                    refine lv_icmp_eq (tgt := 148) hx hb dX7_readOrder_142 (by decide) (fun c => absurd (jeq c rfl jz_m1) (by omega)) (fun c558 => ?_)
                    have kc558 := jne c558 rfl jz_m1
                    refine lv_iload hx hb dX7_readOrder_145 (lv_at hl 0 rfl) ?_
                    have z559 : (σ526 16 0).toInt = (σ 16 0).toInt := by rw [(show σ526 16 0 = (σ 16 0) from (by rw [f528 16 (by omega)]; exact (by rw [f512 16 (by omega)]; exact (by rw [f496 16 (by omega)]; exact (by rw [f32 16 (by omega)]; exact (by rw [f11 16 (by omega)]))))))]
                    have z560 : (σ526 16 1).toInt = (σ 16 1).toInt := by rw [(show σ526 16 1 = (σ 16 1) from (by rw [f528 16 (by omega)]; exact (by rw [f512 16 (by omega)]; exact (by rw [f496 16 (by omega)]; exact (by rw [f32 16 (by omega)]; exact (by rw [f11 16 (by omega)]))))))]
                    have z561 : (σ526 16 2).toInt = (σ 16 2).toInt := by rw [(show σ526 16 2 = (σ 16 2) from (by rw [f528 16 (by omega)]; exact (by rw [f512 16 (by omega)]; exact (by rw [f496 16 (by omega)]; exact (by rw [f32 16 (by omega)]; exact (by rw [f11 16 (by omega)]))))))]
                    have w562 : ∀ k : Nat, k < 8 → 0 ≤ (σ526 17 k).toInt ∧ (σ526 17 k).toInt ≤ 3 := (by rw [f528 17 (by omega)]; exact (by rw [f512 17 (by omega)]; exact (by rw [f496 17 (by omega)]; exact (by rw [f32 17 (by omega)]; exact (by rw [f11 17 (by omega)]; exact w7)))))
                    have I563 : jI16 σ526 := ⟨(by omega), (by omega), (by omega), w562⟩
                    exact hret r527 σ526 τ _ _ _ _ rfl ⟨rfl, (fun i hi => by rw [f528 i (by omega), f512 i (by omega), f496 i (by omega), f32 i (by omega), f11 i (by omega)]), (fun k hk => by rw [f529 k (by omega), f513 k (by omega), f497 k (by omega), f33 k (by omega), f12 k (by omega)]), (fun k hk => by rw [f528 16 (by omega), f512 16 (by omega), f496 16 (by omega), f32 16 (by omega), f11 16 (by omega)]), I530, I563, trivial⟩ hP hS dX7_readOrder_147
                · have kc525 := jne c525 rfl jz_0
                  refine lv_aload_n hx hb dX7_readOrder_126 rfl (lv_at hl 3 rfl) ?_
                  refine lv_iconst (v := 3) hx hb dX7_readOrder_127 (by decide) ?_
                  refine jcallV (As := [.int 3]) (rest := []) ⟨hx, hb, hml, hown, hts⟩ hK hP hA hS hZ (c_X7_number_3 l D cI cL ad zz hJ σ510 τ I514 I515 I516) cw_RX7_53 (jc_9 cI cL ad σ510 τ) rfl ⟨Nat.le_of_ble_eq_true rfl, Nat.le_of_ble_eq_true rfl⟩ rfl rfl rfl hl.1 rfl (Nat.le_of_ble_eq_true rfl) dX7_readOrder_128 ⟨Nat.zero_le _, Nat.zero_le _⟩ (fun r565 σ564 τ564 H locs h564 hP hS => ?_)
                  obtain ⟨rfl, f566, f567, I568, I569, I570, h564⟩ := h564
                  obtain ⟨i571, w572, w573⟩ : (0 ≤ (σ564 9 0).toInt ∧ (σ564 9 0).toInt ≤ 80) ∧ (∀ k : Nat, k < 80 → 0 ≤ (σ564 10 k).toInt ∧ (σ564 10 k).toInt ≤ 255) ∧ (∀ k : Nat, k < 8 → 0 ≤ (σ564 11 k).toInt ∧ (σ564 11 k).toInt ≤ 3) := id I568
                  obtain ⟨i574, i575⟩ : (0 ≤ (σ564 9 1).toInt) ∧ ((σ564 9 1).toInt ≤ (σ564 9 0).toInt) := id I569
                  have i576 : (-1) ≤ (σ564 9 2).toInt := I570
                  have z577 : (σ564 9 0).toInt = (σ 9 0).toInt := by rw [(show σ564 9 0 = (σ 9 0) from (by rw [f567 0 (by omega)]; exact (by rw [f513 0 (by omega)]; exact (by rw [f497 0 (by omega)]; exact (by rw [f33 0 (by omega)]; exact (by rw [f12 0 (by omega)]))))))]
                  obtain ⟨k578, h564⟩ := h564
                  have h579 := h564
                  obtain ⟨q581, k580⟩ := h579
                  refine lv_istore (lv' := [(4, .int r565), (3, .int 8), (2, .int x25), (0, .ref (ad 9)), (1, .ref (ad 16))]) hx hb dX7_readOrder_131 hl (by decide) rfl (fun ls hl => ?_)
                  refine lv_aload_n hx hb dX7_readOrder_133 rfl (lv_at hl 3 rfl) ?_
                  refine jcallV (As := []) (rest := []) ⟨hx, hb, hml, hown, hts⟩ hK hP hA hS hZ (c_X7_end_9 l D cI cL ad zz hJ σ564 τ I568 I569 I570) cw_RX7_57 (jc_9 cI cL ad σ564 τ) rfl ⟨Nat.le_of_ble_eq_true rfl, Nat.le_of_ble_eq_true rfl⟩ rfl rfl rfl hl.1 rfl (Nat.le_of_ble_eq_true rfl) dX7_readOrder_134 ⟨Nat.zero_le _, Nat.zero_le _⟩ (fun r583 σ582 τ582 H locs h582 hP hS => ?_)
                  obtain ⟨rfl, f584, f585, I586, I587, h582⟩ := h582
                  obtain ⟨i588, w589, w590⟩ : (0 ≤ (σ582 9 0).toInt ∧ (σ582 9 0).toInt ≤ 80) ∧ (∀ k : Nat, k < 80 → 0 ≤ (σ582 10 k).toInt ∧ (σ582 10 k).toInt ≤ 255) ∧ (∀ k : Nat, k < 8 → 0 ≤ (σ582 11 k).toInt ∧ (σ582 11 k).toInt ≤ 3) := id I586
                  have i591 : (-1) ≤ (σ582 9 2).toInt := I587
                  rcases h582 with h592 | h593
                  · obtain ⟨q595, k594⟩ := h592
                    have q595 := q595.symm
                    subst q595
                    refine lv_istore (lv' := [(5, .int (-1)), (4, .int r565), (3, .int 8), (2, .int x25), (0, .ref (ad 9)), (1, .ref (ad 16))]) hx hb dX7_readOrder_137 hl (by decide) rfl (fun ls hl => ?_)
                    refine lv_iload hx hb dX7_readOrder_139 (lv_at hl 0 rfl) ?_
                    refine lv_iconst (v := (-1)) hx hb dX7_readOrder_141 (by decide) ?_
                    refine lv_icmp_eq (tgt := 148) hx hb dX7_readOrder_142 (by decide) (fun _ => ?_) (fun c => absurd (by decide) c)
                    refine lv_aload_n hx hb dX7_readOrder_148 rfl (lv_at hl 5 rfl) ?_
                    refine lv_iload_n hx hb dX7_readOrder_149 rfl (lv_at hl 3 rfl) ?_
                    refine jput (ty := .int) hx hb hts inlX6 tyX6 tyX6_ok nmX6 hown hK hP hJ hA hS (jc_16 cI cL ad σ582 τ) rfl (k := 0) (by decide) (Nat.le_of_ble_eq_true rfl) (jp_16_0 cI cL ad σ582 τ x25) (hts _ kw_13_18) (fun _ h9 => h9) rfl (by decide +kernel) rfl rfl dX7_readOrder_150 (fun σ596 H locs eσ596 hP hS => ?_)
                    refine lv_aload_n hx hb dX7_readOrder_153 rfl (lv_at hl 5 rfl) ?_
                    refine lv_iload_n hx hb dX7_readOrder_154 rfl (lv_at hl 2 rfl) ?_
                    refine jput (ty := .int) hx hb hts inlX6 tyX6 tyX6_ok nmX6 hown hK hP hJ hA hS (jc_16 cI cL ad σ596 τ) rfl (k := 1) (by decide) (Nat.le_of_ble_eq_true rfl) (jp_16_1 cI cL ad σ596 τ 8) (hts _ kw_13_19) (fun _ h9 => h9) rfl (by decide +kernel) rfl rfl dX7_readOrder_155 (fun σ597 H locs eσ597 hP hS => ?_)
                    refine lv_aload_n hx hb dX7_readOrder_158 rfl (lv_at hl 5 rfl) ?_
                    refine lv_iload hx hb dX7_readOrder_159 (lv_at hl 1 rfl) ?_
                    refine jput (ty := .int) hx hb hts inlX6 tyX6 tyX6_ok nmX6 hown hK hP hJ hA hS (jc_16 cI cL ad σ597 τ) rfl (k := 2) (by decide) (Nat.le_of_ble_eq_true rfl) (jp_16_2 cI cL ad σ597 τ r565) (hts _ kw_13_20) (fun _ h9 => h9) rfl (by decide +kernel) rfl rfl dX7_readOrder_161 (fun σ598 H locs eσ598 hP hS => ?_)
                    refine lv_aload_n hx hb dX7_readOrder_164 rfl (lv_at hl 4 rfl) ?_
                    refine va_get (D := D) hx hb hts inlX7 hown hK hP 9 (jc_9 cI cL ad σ598 τ) rfl 4 (by decide) (hts _ kw_3_21) (fun _ h9 => h9) rfl dX7_readOrder_165 ?_
                    refine lv_iconst (v := 0) hx hb dX7_readOrder_168 (by decide) ?_
                    refine lv_aload_n hx hb dX7_readOrder_169 rfl (lv_at hl 5 rfl) ?_
                    refine va_get (D := D) hx hb hts inlX6 hown hK hP 16 (jc_16 cI cL ad σ598 τ) rfl 3 (by decide) (hts _ kw_13_21) (fun _ h9 => h9) rfl dX7_readOrder_170 ?_
                    refine lv_iconst (v := 0) hx hb dX7_readOrder_173 (by decide) ?_
                    refine lv_iload_n hx hb dX7_readOrder_174 rfl (lv_at hl 3 rfl) ?_
                    refine jcpyI (q0 := 11) (q1 := 17) hx hb (hml.trans hl.1.symm) hown (hts _ kw_13_22) (hts _ kw_13_23) (hts _ kw_14_0) (hts _ kw_14_1) hK hP hJ hA hS (jc_11 cI cL ad σ598 τ) (jc_17 cI cL ad σ598 τ) (fun _ => rfl) jz_0 jz_0 rfl (by omega) (by omega) (by omega) (by omega) (by omega) (Nat.le_of_ble_eq_true rfl) (Nat.le_of_ble_eq_true rfl) dX7_readOrder_175 (fun σ599 H locs eσ599 hP hS => ?_)
                    have w600 : ∀ k : Nat, k < 8 → 0 ≤ (σ598 11 k).toInt ∧ (σ598 11 k).toInt ≤ 3 := (by rw [eσ598, jup_n (by decide)]; exact (by rw [eσ597, jup_n (by decide)]; exact (by rw [eσ596, jup_n (by decide)]; exact w590)))
                    have w601 : ∀ k : Nat, k < 8 → 0 ≤ (σ598 17 k).toInt ∧ (σ598 17 k).toInt ≤ 3 := (by rw [eσ598, jup_n (by decide)]; exact (by rw [eσ597, jup_n (by decide)]; exact (by rw [eσ596, jup_n (by decide)]; exact (by rw [f584 17 (by omega)]; exact (by rw [f566 17 (by omega)]; exact (by rw [f512 17 (by omega)]; exact (by rw [f496 17 (by omega)]; exact (by rw [f32 17 (by omega)]; exact (by rw [f11 17 (by omega)]; exact w7)))))))))
                    have f602 : (∀ i : Nat, (i < 17 ∨ 17 < i) → σ599 i = σ598 i) := by rw [eσ599]; exact jrow_n
                    have w603 : ∀ k : Nat, k < 8 → 0 ≤ (σ599 17 k).toInt ∧ (σ599 17 k).toInt ≤ 3 := by rw [eσ599]; exact jrow_rr w600 w601 jz_0 rfl (n0 := 8) (by omega) (by omega) (by omega)
                    refine lv_iconst (v := (-1)) hx hb dX7_readOrder_178 (by decide) ?_
                    have z604 : (σ599 9 0).toInt = (σ582 9 0).toInt := by rw [(show σ599 9 0 = (σ582 9 0) from (by rw [f602 9 (by omega)]; exact (by rw [eσ598, jup_n (by decide)]; exact (by rw [eσ597, jup_n (by decide)]; exact (by rw [eσ596, jup_n (by decide)])))))]
                    have w605 : ∀ k : Nat, k < 80 → 0 ≤ (σ599 10 k).toInt ∧ (σ599 10 k).toInt ≤ 255 := (by rw [f602 10 (by omega)]; exact (by rw [eσ598, jup_n (by decide)]; exact (by rw [eσ597, jup_n (by decide)]; exact (by rw [eσ596, jup_n (by decide)]; exact w589))))
                    have w606 : ∀ k : Nat, k < 8 → 0 ≤ (σ599 11 k).toInt ∧ (σ599 11 k).toInt ≤ 3 := (by rw [f602 11 (by omega)]; exact w600)
                    have I607 : jI9 σ599 := ⟨(by omega), w605, w606⟩
                    have z608 : (σ599 16 0).toInt = x25.toInt := by rw [(show σ599 16 0 = x25 from (by rw [f602 16 (by omega)]; exact (by rw [eσ598, jup_k (by decide)]; exact (by rw [eσ597, jup_k (by decide)]; exact (by rw [eσ596]; exact jup_s)))))]
                    have z609 : (σ599 16 1).toInt = 8 := by rw [(show σ599 16 1 = 8 from (by rw [f602 16 (by omega)]; exact (by rw [eσ598, jup_k (by decide)]; exact (by rw [eσ597]; exact jup_s))))]; exact jz_8
                    have z610 : (σ599 16 2).toInt = r565.toInt := by rw [(show σ599 16 2 = r565 from (by rw [f602 16 (by omega)]; exact (by rw [eσ598]; exact jup_s)))]
                    have I611 : jI16 σ599 := ⟨(by omega), (by omega), (by omega), w603⟩
                    exact hret (-1) σ599 τ _ _ _ _ rfl ⟨rfl, (fun i hi => by rw [f602 i (by omega), eσ598, jup_n (by omega), eσ597, jup_n (by omega), eσ596, jup_n (by omega), f584 i (by omega), f566 i (by omega), f512 i (by omega), f496 i (by omega), f32 i (by omega), f11 i (by omega)]), (fun k hk => by rw [f602 9 (by omega), eσ598, jup_n (by decide), eσ597, jup_n (by decide), eσ596, jup_n (by decide), f585 k (by omega), f567 k (by omega), f513 k (by omega), f497 k (by omega), f33 k (by omega), f12 k (by omega)]), (fun k hk => by rw [f602 16 (by omega), eσ598, jup_k (by omega), eσ597, jup_k (by omega), eσ596, jup_k (by omega), f584 16 (by omega), f566 16 (by omega), f512 16 (by omega), f496 16 (by omega), f32 16 (by omega), f11 16 (by omega)]), I607, I611, trivial⟩ hP hS dX7_readOrder_179
                  · obtain ⟨q613, k612⟩ := h593
                    refine lv_istore (lv' := [(5, .int r583), (4, .int r565), (3, .int 8), (2, .int x25), (0, .ref (ad 9)), (1, .ref (ad 16))]) hx hb dX7_readOrder_137 hl (by decide) rfl (fun ls hl => ?_)
                    refine lv_iload hx hb dX7_readOrder_139 (lv_at hl 0 rfl) ?_
                    refine lv_iconst (v := (-1)) hx hb dX7_readOrder_141 (by decide) ?_
                    refine lv_icmp_eq (tgt := 148) hx hb dX7_readOrder_142 (by decide) (fun c => absurd (jeq c rfl jz_m1) (by omega)) (fun c614 => ?_)
                    have kc614 := jne c614 rfl jz_m1
                    refine lv_iload hx hb dX7_readOrder_145 (lv_at hl 0 rfl) ?_
                    have z615 : (σ582 16 0).toInt = (σ 16 0).toInt := by rw [(show σ582 16 0 = (σ 16 0) from (by rw [f584 16 (by omega)]; exact (by rw [f566 16 (by omega)]; exact (by rw [f512 16 (by omega)]; exact (by rw [f496 16 (by omega)]; exact (by rw [f32 16 (by omega)]; exact (by rw [f11 16 (by omega)])))))))]
                    have z616 : (σ582 16 1).toInt = (σ 16 1).toInt := by rw [(show σ582 16 1 = (σ 16 1) from (by rw [f584 16 (by omega)]; exact (by rw [f566 16 (by omega)]; exact (by rw [f512 16 (by omega)]; exact (by rw [f496 16 (by omega)]; exact (by rw [f32 16 (by omega)]; exact (by rw [f11 16 (by omega)])))))))]
                    have z617 : (σ582 16 2).toInt = (σ 16 2).toInt := by rw [(show σ582 16 2 = (σ 16 2) from (by rw [f584 16 (by omega)]; exact (by rw [f566 16 (by omega)]; exact (by rw [f512 16 (by omega)]; exact (by rw [f496 16 (by omega)]; exact (by rw [f32 16 (by omega)]; exact (by rw [f11 16 (by omega)])))))))]
                    have w618 : ∀ k : Nat, k < 8 → 0 ≤ (σ582 17 k).toInt ∧ (σ582 17 k).toInt ≤ 3 := (by rw [f584 17 (by omega)]; exact (by rw [f566 17 (by omega)]; exact (by rw [f512 17 (by omega)]; exact (by rw [f496 17 (by omega)]; exact (by rw [f32 17 (by omega)]; exact (by rw [f11 17 (by omega)]; exact w7))))))
                    have I619 : jI16 σ582 := ⟨(by omega), (by omega), (by omega), w618⟩
                    exact hret r583 σ582 τ _ _ _ _ rfl ⟨rfl, (fun i hi => by rw [f584 i (by omega), f566 i (by omega), f512 i (by omega), f496 i (by omega), f32 i (by omega), f11 i (by omega)]), (fun k hk => by rw [f585 k (by omega), f567 k (by omega), f513 k (by omega), f497 k (by omega), f33 k (by omega), f12 k (by omega)]), (fun k hk => by rw [f584 16 (by omega), f566 16 (by omega), f512 16 (by omega), f496 16 (by omega), f32 16 (by omega), f11 16 (by omega)]), I586, I619, trivial⟩ hP hS dX7_readOrder_147
              · have kc509 := jne c509 rfl jz_0
                refine lv_aload_n hx hb dX7_readOrder_88 rfl (lv_at hl 3 rfl) ?_
                refine va_get (D := D) hx hb hts inlX7 hown hK hP 9 (jc_9 cI cL ad σ494 τ) rfl 1 (by decide) (hts _ kw_13_17) (fun _ h9 => h9) rfl dX7_readOrder_89 ?_
                refine lv_istore (lv' := [(5, .int (σ494 9 1)), (4, .int 0), (3, .int 8), (2, .int x25), (0, .ref (ad 9)), (1, .ref (ad 16))]) hx hb dX7_readOrder_92 hl (by decide) rfl (fun ls hl => ?_)
                refine lv_aload_n hx hb dX7_readOrder_94 rfl (lv_at hl 4 rfl) ?_
                refine lv_iconst (v := 2) hx hb dX7_readOrder_95 (by decide) ?_
                refine jcallV (As := [.int 2]) (rest := []) ⟨hx, hb, hml, hown, hts⟩ hK hP hA hS hZ (c_X7_number_2 l D cI cL ad zz hJ σ494 τ I498 I499 I500) cw_RX7_53 (jc_9 cI cL ad σ494 τ) rfl ⟨Nat.le_of_ble_eq_true rfl, Nat.le_of_ble_eq_true rfl⟩ rfl rfl rfl hl.1 rfl (Nat.le_of_ble_eq_true rfl) dX7_readOrder_96 ⟨Nat.zero_le _, Nat.zero_le _⟩ (fun r621 σ620 τ620 H locs h620 hP hS => ?_)
                obtain ⟨rfl, f622, f623, I624, I625, I626, h620⟩ := h620
                obtain ⟨i627, w628, w629⟩ : (0 ≤ (σ620 9 0).toInt ∧ (σ620 9 0).toInt ≤ 80) ∧ (∀ k : Nat, k < 80 → 0 ≤ (σ620 10 k).toInt ∧ (σ620 10 k).toInt ≤ 255) ∧ (∀ k : Nat, k < 8 → 0 ≤ (σ620 11 k).toInt ∧ (σ620 11 k).toInt ≤ 3) := id I624
                obtain ⟨i630, i631⟩ : (0 ≤ (σ620 9 1).toInt) ∧ ((σ620 9 1).toInt ≤ (σ620 9 0).toInt) := id I625
                have i632 : (-1) ≤ (σ620 9 2).toInt := I626
                have z633 : (σ620 9 0).toInt = (σ 9 0).toInt := by rw [(show σ620 9 0 = (σ 9 0) from (by rw [f623 0 (by omega)]; exact (by rw [f497 0 (by omega)]; exact (by rw [f33 0 (by omega)]; exact (by rw [f12 0 (by omega)])))))]
                obtain ⟨k634, h620⟩ := h620
                have h635 := h620
                obtain ⟨q637, k636⟩ := h635
                refine lv_istore_n (lv' := [(3, .int r621), (5, .int (σ494 9 1)), (4, .int 0), (2, .int x25), (0, .ref (ad 9)), (1, .ref (ad 16))]) hx hb dX7_readOrder_99 rfl hl (by decide) rfl (fun ls hl => ?_)
                refine lv_iload_n hx hb dX7_readOrder_100 rfl (lv_at hl 0 rfl) ?_
                refine lv_iconst (v := 1) hx hb dX7_readOrder_101 (by decide) ?_
                refine lv_icmp_lt (tgt := 111) hx hb dX7_readOrder_102 (by decide) (fun c638 => ?_) (fun c638 => ?_)
                · have kc638 := jlt c638 rfl jz_1
                  refine lv_aload_n hx hb dX7_readOrder_111 rfl (lv_at hl 4 rfl) ?_
                  refine lv_iload hx hb dX7_readOrder_112 (lv_at hl 1 rfl) ?_
                  refine jcallVv (As := [.int (σ494 9 1)]) (rest := []) ⟨hx, hb, hml, hown, hts⟩ hK hP hA hS hZ (c_X7_fail_9 l D cI cL ad zz hJ σ620 τ (σ494 9 1) ((σ494 9 1).toInt) rfl I626 (by omega)) cw_RX7_43 (jc_9 cI cL ad σ620 τ) rfl ⟨Nat.le_of_ble_eq_true rfl, Nat.le_of_ble_eq_true rfl⟩ rfl rfl rfl hl.1 rfl (Nat.le_of_ble_eq_true rfl) dX7_readOrder_114 ⟨Nat.zero_le _, Nat.zero_le _⟩ (fun σ639 τ639 H locs h639 hP hS => ?_)
                  obtain ⟨rfl, f641, f642, h639⟩ := h639
                  obtain ⟨k643, h639⟩ := h639
                  refine lv_aload_n hx hb dX7_readOrder_117 rfl (lv_at hl 4 rfl) ?_
                  refine lv_bipush (v := 114) hx hb dX7_readOrder_118 (by decide) ?_
                  have z644 : (σ639 9 0).toInt = (σ 9 0).toInt := by rw [(show σ639 9 0 = (σ 9 0) from (by rw [f642 0 (by omega)]; exact (by rw [f623 0 (by omega)]; exact (by rw [f497 0 (by omega)]; exact (by rw [f33 0 (by omega)]; exact (by rw [f12 0 (by omega)]))))))]
                  have w645 : ∀ k : Nat, k < 80 → 0 ≤ (σ639 10 k).toInt ∧ (σ639 10 k).toInt ≤ 255 := (by rw [f641 10 (by omega)]; exact w628)
                  have w646 : ∀ k : Nat, k < 8 → 0 ≤ (σ639 11 k).toInt ∧ (σ639 11 k).toInt ≤ 3 := (by rw [f641 11 (by omega)]; exact w629)
                  have I647 : jI9 σ639 := ⟨(by omega), w645, w646⟩
                  have z648 : (σ639 9 1).toInt = (σ620 9 1).toInt := by rw [(show σ639 9 1 = (σ620 9 1) from (by rw [f642 1 (by omega)]))]
                  have I649 : jI91 σ639 := ⟨(by omega), (by omega)⟩
                  have I650 : jI92 σ639 := (show (-1) ≤ (σ639 9 2).toInt by omega)
                  refine jcallV (As := [.int 114]) (rest := []) ⟨hx, hb, hml, hown, hts⟩ hK hP hA hS hZ (c_X7_skip_9 l D cI cL ad zz hJ σ639 τ 114 (114) jz_114 I647 I649 I650 (by omega)) cw_RX7_50 (jc_9 cI cL ad σ639 τ) rfl ⟨Nat.le_of_ble_eq_true rfl, Nat.le_of_ble_eq_true rfl⟩ rfl rfl rfl hl.1 rfl (Nat.le_of_ble_eq_true rfl) dX7_readOrder_120 ⟨Nat.zero_le _, Nat.zero_le _⟩ (fun r652 σ651 τ651 H locs h651 hP hS => ?_)
                  obtain ⟨rfl, f653, f654, I655, I656, I657, h651⟩ := h651
                  obtain ⟨i658, w659, w660⟩ : (0 ≤ (σ651 9 0).toInt ∧ (σ651 9 0).toInt ≤ 80) ∧ (∀ k : Nat, k < 80 → 0 ≤ (σ651 10 k).toInt ∧ (σ651 10 k).toInt ≤ 255) ∧ (∀ k : Nat, k < 8 → 0 ≤ (σ651 11 k).toInt ∧ (σ651 11 k).toInt ≤ 3) := id I655
                  obtain ⟨i661, i662⟩ : (0 ≤ (σ651 9 1).toInt) ∧ ((σ651 9 1).toInt ≤ (σ651 9 0).toInt) := id I656
                  have i663 : (-1) ≤ (σ651 9 2).toInt := I657
                  have z664 : (σ651 9 0).toInt = (σ 9 0).toInt := by rw [(show σ651 9 0 = (σ 9 0) from (by rw [f654 0 (by omega)]; exact (by rw [f642 0 (by omega)]; exact (by rw [f623 0 (by omega)]; exact (by rw [f497 0 (by omega)]; exact (by rw [f33 0 (by omega)]; exact (by rw [f12 0 (by omega)])))))))]
                  have z665 : (σ651 9 2).toInt = (σ639 9 2).toInt := by rw [(show σ651 9 2 = (σ639 9 2) from (by rw [f654 2 (by omega)]))]
                  refine lv_if_eq (tgt := 133) hx hb dX7_readOrder_123 (by decide) (fun c666 => ?_) (fun c666 => ?_)
                  · have kc666 := jeq c666 rfl jz_0
                    refine lv_aload_n hx hb dX7_readOrder_133 rfl (lv_at hl 4 rfl) ?_
                    refine jcallV (As := []) (rest := []) ⟨hx, hb, hml, hown, hts⟩ hK hP hA hS hZ (c_X7_end_9 l D cI cL ad zz hJ σ651 τ I655 I656 I657) cw_RX7_57 (jc_9 cI cL ad σ651 τ) rfl ⟨Nat.le_of_ble_eq_true rfl, Nat.le_of_ble_eq_true rfl⟩ rfl rfl rfl hl.1 rfl (Nat.le_of_ble_eq_true rfl) dX7_readOrder_134 ⟨Nat.zero_le _, Nat.zero_le _⟩ (fun r668 σ667 τ667 H locs h667 hP hS => ?_)
                    obtain ⟨rfl, f669, f670, I671, I672, h667⟩ := h667
                    obtain ⟨i673, w674, w675⟩ : (0 ≤ (σ667 9 0).toInt ∧ (σ667 9 0).toInt ≤ 80) ∧ (∀ k : Nat, k < 80 → 0 ≤ (σ667 10 k).toInt ∧ (σ667 10 k).toInt ≤ 255) ∧ (∀ k : Nat, k < 8 → 0 ≤ (σ667 11 k).toInt ∧ (σ667 11 k).toInt ≤ 3) := id I671
                    have i676 : (-1) ≤ (σ667 9 2).toInt := I672
                    rcases h667 with h677 | h678
                    · obtain ⟨q680, k679⟩ := h677
                      exact absurd (by omega : False) id
                    · obtain ⟨q682, k681⟩ := h678
                      refine lv_istore (lv' := [(5, .int r668), (3, .int r621), (4, .int 0), (2, .int x25), (0, .ref (ad 9)), (1, .ref (ad 16))]) hx hb dX7_readOrder_137 hl (by decide) rfl (fun ls hl => ?_)
                      refine lv_iload hx hb dX7_readOrder_139 (lv_at hl 0 rfl) ?_
                      refine lv_iconst (v := (-1)) hx hb dX7_readOrder_141 (by decide) ?_
                      refine lv_icmp_eq (tgt := 148) hx hb dX7_readOrder_142 (by decide) (fun c => absurd (jeq c rfl jz_m1) (by omega)) (fun c683 => ?_)
                      have kc683 := jne c683 rfl jz_m1
                      refine lv_iload hx hb dX7_readOrder_145 (lv_at hl 0 rfl) ?_
                      have z684 : (σ667 16 0).toInt = (σ 16 0).toInt := by rw [(show σ667 16 0 = (σ 16 0) from (by rw [f669 16 (by omega)]; exact (by rw [f653 16 (by omega)]; exact (by rw [f641 16 (by omega)]; exact (by rw [f622 16 (by omega)]; exact (by rw [f496 16 (by omega)]; exact (by rw [f32 16 (by omega)]; exact (by rw [f11 16 (by omega)]))))))))]
                      have z685 : (σ667 16 1).toInt = (σ 16 1).toInt := by rw [(show σ667 16 1 = (σ 16 1) from (by rw [f669 16 (by omega)]; exact (by rw [f653 16 (by omega)]; exact (by rw [f641 16 (by omega)]; exact (by rw [f622 16 (by omega)]; exact (by rw [f496 16 (by omega)]; exact (by rw [f32 16 (by omega)]; exact (by rw [f11 16 (by omega)]))))))))]
                      have z686 : (σ667 16 2).toInt = (σ 16 2).toInt := by rw [(show σ667 16 2 = (σ 16 2) from (by rw [f669 16 (by omega)]; exact (by rw [f653 16 (by omega)]; exact (by rw [f641 16 (by omega)]; exact (by rw [f622 16 (by omega)]; exact (by rw [f496 16 (by omega)]; exact (by rw [f32 16 (by omega)]; exact (by rw [f11 16 (by omega)]))))))))]
                      have w687 : ∀ k : Nat, k < 8 → 0 ≤ (σ667 17 k).toInt ∧ (σ667 17 k).toInt ≤ 3 := (by rw [f669 17 (by omega)]; exact (by rw [f653 17 (by omega)]; exact (by rw [f641 17 (by omega)]; exact (by rw [f622 17 (by omega)]; exact (by rw [f496 17 (by omega)]; exact (by rw [f32 17 (by omega)]; exact (by rw [f11 17 (by omega)]; exact w7)))))))
                      have I688 : jI16 σ667 := ⟨(by omega), (by omega), (by omega), w687⟩
                      exact hret r668 σ667 τ _ _ _ _ rfl ⟨rfl, (fun i hi => by rw [f669 i (by omega), f653 i (by omega), f641 i (by omega), f622 i (by omega), f496 i (by omega), f32 i (by omega), f11 i (by omega)]), (fun k hk => by rw [f670 k (by omega), f654 k (by omega), f642 k (by omega), f623 k (by omega), f497 k (by omega), f33 k (by omega), f12 k (by omega)]), (fun k hk => by rw [f669 16 (by omega), f653 16 (by omega), f641 16 (by omega), f622 16 (by omega), f496 16 (by omega), f32 16 (by omega), f11 16 (by omega)]), I671, I688, trivial⟩ hP hS dX7_readOrder_147
                  · have kc666 := jne c666 rfl jz_0
                    refine lv_aload_n hx hb dX7_readOrder_126 rfl (lv_at hl 4 rfl) ?_
                    refine lv_iconst (v := 3) hx hb dX7_readOrder_127 (by decide) ?_
                    refine jcallV (As := [.int 3]) (rest := []) ⟨hx, hb, hml, hown, hts⟩ hK hP hA hS hZ (c_X7_number_3 l D cI cL ad zz hJ σ651 τ I655 I656 I657) cw_RX7_53 (jc_9 cI cL ad σ651 τ) rfl ⟨Nat.le_of_ble_eq_true rfl, Nat.le_of_ble_eq_true rfl⟩ rfl rfl rfl hl.1 rfl (Nat.le_of_ble_eq_true rfl) dX7_readOrder_128 ⟨Nat.zero_le _, Nat.zero_le _⟩ (fun r690 σ689 τ689 H locs h689 hP hS => ?_)
                    obtain ⟨rfl, f691, f692, I693, I694, I695, h689⟩ := h689
                    obtain ⟨i696, w697, w698⟩ : (0 ≤ (σ689 9 0).toInt ∧ (σ689 9 0).toInt ≤ 80) ∧ (∀ k : Nat, k < 80 → 0 ≤ (σ689 10 k).toInt ∧ (σ689 10 k).toInt ≤ 255) ∧ (∀ k : Nat, k < 8 → 0 ≤ (σ689 11 k).toInt ∧ (σ689 11 k).toInt ≤ 3) := id I693
                    obtain ⟨i699, i700⟩ : (0 ≤ (σ689 9 1).toInt) ∧ ((σ689 9 1).toInt ≤ (σ689 9 0).toInt) := id I694
                    have i701 : (-1) ≤ (σ689 9 2).toInt := I695
                    have z702 : (σ689 9 0).toInt = (σ 9 0).toInt := by rw [(show σ689 9 0 = (σ 9 0) from (by rw [f692 0 (by omega)]; exact (by rw [f654 0 (by omega)]; exact (by rw [f642 0 (by omega)]; exact (by rw [f623 0 (by omega)]; exact (by rw [f497 0 (by omega)]; exact (by rw [f33 0 (by omega)]; exact (by rw [f12 0 (by omega)]))))))))]
                    obtain ⟨k703, h689⟩ := h689
                    have h704 := h689
                    obtain ⟨q706, k705⟩ := h704
                    refine lv_istore (lv' := [(4, .int r690), (3, .int r621), (5, .int (σ494 9 1)), (2, .int x25), (0, .ref (ad 9)), (1, .ref (ad 16))]) hx hb dX7_readOrder_131 hl (by decide) rfl (fun ls hl => ?_)
                    refine lv_aload_n hx hb dX7_readOrder_133 rfl (lv_at hl 4 rfl) ?_
                    refine jcallV (As := []) (rest := []) ⟨hx, hb, hml, hown, hts⟩ hK hP hA hS hZ (c_X7_end_9 l D cI cL ad zz hJ σ689 τ I693 I694 I695) cw_RX7_57 (jc_9 cI cL ad σ689 τ) rfl ⟨Nat.le_of_ble_eq_true rfl, Nat.le_of_ble_eq_true rfl⟩ rfl rfl rfl hl.1 rfl (Nat.le_of_ble_eq_true rfl) dX7_readOrder_134 ⟨Nat.zero_le _, Nat.zero_le _⟩ (fun r708 σ707 τ707 H locs h707 hP hS => ?_)
                    obtain ⟨rfl, f709, f710, I711, I712, h707⟩ := h707
                    obtain ⟨i713, w714, w715⟩ : (0 ≤ (σ707 9 0).toInt ∧ (σ707 9 0).toInt ≤ 80) ∧ (∀ k : Nat, k < 80 → 0 ≤ (σ707 10 k).toInt ∧ (σ707 10 k).toInt ≤ 255) ∧ (∀ k : Nat, k < 8 → 0 ≤ (σ707 11 k).toInt ∧ (σ707 11 k).toInt ≤ 3) := id I711
                    have i716 : (-1) ≤ (σ707 9 2).toInt := I712
                    rcases h707 with h717 | h718
                    · obtain ⟨q720, k719⟩ := h717
                      exact absurd (by omega : False) id
                    · obtain ⟨q722, k721⟩ := h718
                      refine lv_istore (lv' := [(5, .int r708), (4, .int r690), (3, .int r621), (2, .int x25), (0, .ref (ad 9)), (1, .ref (ad 16))]) hx hb dX7_readOrder_137 hl (by decide) rfl (fun ls hl => ?_)
                      refine lv_iload hx hb dX7_readOrder_139 (lv_at hl 0 rfl) ?_
                      refine lv_iconst (v := (-1)) hx hb dX7_readOrder_141 (by decide) ?_
                      refine lv_icmp_eq (tgt := 148) hx hb dX7_readOrder_142 (by decide) (fun c => absurd (jeq c rfl jz_m1) (by omega)) (fun c723 => ?_)
                      have kc723 := jne c723 rfl jz_m1
                      refine lv_iload hx hb dX7_readOrder_145 (lv_at hl 0 rfl) ?_
                      have z724 : (σ707 16 0).toInt = (σ 16 0).toInt := by rw [(show σ707 16 0 = (σ 16 0) from (by rw [f709 16 (by omega)]; exact (by rw [f691 16 (by omega)]; exact (by rw [f653 16 (by omega)]; exact (by rw [f641 16 (by omega)]; exact (by rw [f622 16 (by omega)]; exact (by rw [f496 16 (by omega)]; exact (by rw [f32 16 (by omega)]; exact (by rw [f11 16 (by omega)])))))))))]
                      have z725 : (σ707 16 1).toInt = (σ 16 1).toInt := by rw [(show σ707 16 1 = (σ 16 1) from (by rw [f709 16 (by omega)]; exact (by rw [f691 16 (by omega)]; exact (by rw [f653 16 (by omega)]; exact (by rw [f641 16 (by omega)]; exact (by rw [f622 16 (by omega)]; exact (by rw [f496 16 (by omega)]; exact (by rw [f32 16 (by omega)]; exact (by rw [f11 16 (by omega)])))))))))]
                      have z726 : (σ707 16 2).toInt = (σ 16 2).toInt := by rw [(show σ707 16 2 = (σ 16 2) from (by rw [f709 16 (by omega)]; exact (by rw [f691 16 (by omega)]; exact (by rw [f653 16 (by omega)]; exact (by rw [f641 16 (by omega)]; exact (by rw [f622 16 (by omega)]; exact (by rw [f496 16 (by omega)]; exact (by rw [f32 16 (by omega)]; exact (by rw [f11 16 (by omega)])))))))))]
                      have w727 : ∀ k : Nat, k < 8 → 0 ≤ (σ707 17 k).toInt ∧ (σ707 17 k).toInt ≤ 3 := (by rw [f709 17 (by omega)]; exact (by rw [f691 17 (by omega)]; exact (by rw [f653 17 (by omega)]; exact (by rw [f641 17 (by omega)]; exact (by rw [f622 17 (by omega)]; exact (by rw [f496 17 (by omega)]; exact (by rw [f32 17 (by omega)]; exact (by rw [f11 17 (by omega)]; exact w7))))))))
                      have I728 : jI16 σ707 := ⟨(by omega), (by omega), (by omega), w727⟩
                      exact hret r708 σ707 τ _ _ _ _ rfl ⟨rfl, (fun i hi => by rw [f709 i (by omega), f691 i (by omega), f653 i (by omega), f641 i (by omega), f622 i (by omega), f496 i (by omega), f32 i (by omega), f11 i (by omega)]), (fun k hk => by rw [f710 k (by omega), f692 k (by omega), f654 k (by omega), f642 k (by omega), f623 k (by omega), f497 k (by omega), f33 k (by omega), f12 k (by omega)]), (fun k hk => by rw [f709 16 (by omega), f691 16 (by omega), f653 16 (by omega), f641 16 (by omega), f622 16 (by omega), f496 16 (by omega), f32 16 (by omega), f11 16 (by omega)]), I711, I728, trivial⟩ hP hS dX7_readOrder_147
                · have kc638 := jnlt c638 rfl jz_1
                  refine lv_iload_n hx hb dX7_readOrder_105 rfl (lv_at hl 0 rfl) ?_
                  refine lv_bipush (v := 12) hx hb dX7_readOrder_106 (by decide) ?_
                  refine lv_icmp_le (tgt := 117) hx hb dX7_readOrder_108 (by decide) (fun c729 => ?_) (fun c729 => ?_)
                  · have kc729 := jle c729 rfl jz_12
                    refine lv_aload_n hx hb dX7_readOrder_117 rfl (lv_at hl 4 rfl) ?_
                    refine lv_bipush (v := 114) hx hb dX7_readOrder_118 (by decide) ?_
                    refine jcallV (As := [.int 114]) (rest := []) ⟨hx, hb, hml, hown, hts⟩ hK hP hA hS hZ (c_X7_skip_9 l D cI cL ad zz hJ σ620 τ 114 (114) jz_114 I624 I625 I626 (by omega)) cw_RX7_50 (jc_9 cI cL ad σ620 τ) rfl ⟨Nat.le_of_ble_eq_true rfl, Nat.le_of_ble_eq_true rfl⟩ rfl rfl rfl hl.1 rfl (Nat.le_of_ble_eq_true rfl) dX7_readOrder_120 ⟨Nat.zero_le _, Nat.zero_le _⟩ (fun r731 σ730 τ730 H locs h730 hP hS => ?_)
                    obtain ⟨rfl, f732, f733, I734, I735, I736, h730⟩ := h730
                    obtain ⟨i737, w738, w739⟩ : (0 ≤ (σ730 9 0).toInt ∧ (σ730 9 0).toInt ≤ 80) ∧ (∀ k : Nat, k < 80 → 0 ≤ (σ730 10 k).toInt ∧ (σ730 10 k).toInt ≤ 255) ∧ (∀ k : Nat, k < 8 → 0 ≤ (σ730 11 k).toInt ∧ (σ730 11 k).toInt ≤ 3) := id I734
                    obtain ⟨i740, i741⟩ : (0 ≤ (σ730 9 1).toInt) ∧ ((σ730 9 1).toInt ≤ (σ730 9 0).toInt) := id I735
                    have i742 : (-1) ≤ (σ730 9 2).toInt := I736
                    have z743 : (σ730 9 0).toInt = (σ 9 0).toInt := by rw [(show σ730 9 0 = (σ 9 0) from (by rw [f733 0 (by omega)]; exact (by rw [f623 0 (by omega)]; exact (by rw [f497 0 (by omega)]; exact (by rw [f33 0 (by omega)]; exact (by rw [f12 0 (by omega)]))))))]
                    have z744 : (σ730 9 2).toInt = (σ620 9 2).toInt := by rw [(show σ730 9 2 = (σ620 9 2) from (by rw [f733 2 (by omega)]))]
                    refine lv_if_eq (tgt := 133) hx hb dX7_readOrder_123 (by decide) (fun c745 => ?_) (fun c745 => ?_)
                    · have kc745 := jeq c745 rfl jz_0
                      refine lv_aload_n hx hb dX7_readOrder_133 rfl (lv_at hl 4 rfl) ?_
                      refine jcallV (As := []) (rest := []) ⟨hx, hb, hml, hown, hts⟩ hK hP hA hS hZ (c_X7_end_9 l D cI cL ad zz hJ σ730 τ I734 I735 I736) cw_RX7_57 (jc_9 cI cL ad σ730 τ) rfl ⟨Nat.le_of_ble_eq_true rfl, Nat.le_of_ble_eq_true rfl⟩ rfl rfl rfl hl.1 rfl (Nat.le_of_ble_eq_true rfl) dX7_readOrder_134 ⟨Nat.zero_le _, Nat.zero_le _⟩ (fun r747 σ746 τ746 H locs h746 hP hS => ?_)
                      obtain ⟨rfl, f748, f749, I750, I751, h746⟩ := h746
                      obtain ⟨i752, w753, w754⟩ : (0 ≤ (σ746 9 0).toInt ∧ (σ746 9 0).toInt ≤ 80) ∧ (∀ k : Nat, k < 80 → 0 ≤ (σ746 10 k).toInt ∧ (σ746 10 k).toInt ≤ 255) ∧ (∀ k : Nat, k < 8 → 0 ≤ (σ746 11 k).toInt ∧ (σ746 11 k).toInt ≤ 3) := id I750
                      have i755 : (-1) ≤ (σ746 9 2).toInt := I751
                      rcases h746 with h756 | h757
                      · obtain ⟨q759, k758⟩ := h756
                        have q759 := q759.symm
                        subst q759
                        refine lv_istore (lv' := [(5, .int (-1)), (3, .int r621), (4, .int 0), (2, .int x25), (0, .ref (ad 9)), (1, .ref (ad 16))]) hx hb dX7_readOrder_137 hl (by decide) rfl (fun ls hl => ?_)
                        refine lv_iload hx hb dX7_readOrder_139 (lv_at hl 0 rfl) ?_
                        refine lv_iconst (v := (-1)) hx hb dX7_readOrder_141 (by decide) ?_
                        refine lv_icmp_eq (tgt := 148) hx hb dX7_readOrder_142 (by decide) (fun _ => ?_) (fun c => absurd (by decide) c)
                        refine lv_aload_n hx hb dX7_readOrder_148 rfl (lv_at hl 5 rfl) ?_
                        refine lv_iload_n hx hb dX7_readOrder_149 rfl (lv_at hl 3 rfl) ?_
                        refine jput (ty := .int) hx hb hts inlX6 tyX6 tyX6_ok nmX6 hown hK hP hJ hA hS (jc_16 cI cL ad σ746 τ) rfl (k := 0) (by decide) (Nat.le_of_ble_eq_true rfl) (jp_16_0 cI cL ad σ746 τ x25) (hts _ kw_13_18) (fun _ h9 => h9) rfl (by decide +kernel) rfl rfl dX7_readOrder_150 (fun σ760 H locs eσ760 hP hS => ?_)
                        refine lv_aload_n hx hb dX7_readOrder_153 rfl (lv_at hl 5 rfl) ?_
                        refine lv_iload_n hx hb dX7_readOrder_154 rfl (lv_at hl 1 rfl) ?_
                        refine jput (ty := .int) hx hb hts inlX6 tyX6 tyX6_ok nmX6 hown hK hP hJ hA hS (jc_16 cI cL ad σ760 τ) rfl (k := 1) (by decide) (Nat.le_of_ble_eq_true rfl) (jp_16_1 cI cL ad σ760 τ r621) (hts _ kw_13_19) (fun _ h9 => h9) rfl (by decide +kernel) rfl rfl dX7_readOrder_155 (fun σ761 H locs eσ761 hP hS => ?_)
                        refine lv_aload_n hx hb dX7_readOrder_158 rfl (lv_at hl 5 rfl) ?_
                        refine lv_iload hx hb dX7_readOrder_159 (lv_at hl 2 rfl) ?_
                        refine jput (ty := .int) hx hb hts inlX6 tyX6 tyX6_ok nmX6 hown hK hP hJ hA hS (jc_16 cI cL ad σ761 τ) rfl (k := 2) (by decide) (Nat.le_of_ble_eq_true rfl) (jp_16_2 cI cL ad σ761 τ 0) (hts _ kw_13_20) (fun _ h9 => h9) rfl (by decide +kernel) rfl rfl dX7_readOrder_161 (fun σ762 H locs eσ762 hP hS => ?_)
                        refine lv_aload_n hx hb dX7_readOrder_164 rfl (lv_at hl 4 rfl) ?_
                        refine va_get (D := D) hx hb hts inlX7 hown hK hP 9 (jc_9 cI cL ad σ762 τ) rfl 4 (by decide) (hts _ kw_3_21) (fun _ h9 => h9) rfl dX7_readOrder_165 ?_
                        refine lv_iconst (v := 0) hx hb dX7_readOrder_168 (by decide) ?_
                        refine lv_aload_n hx hb dX7_readOrder_169 rfl (lv_at hl 5 rfl) ?_
                        refine va_get (D := D) hx hb hts inlX6 hown hK hP 16 (jc_16 cI cL ad σ762 τ) rfl 3 (by decide) (hts _ kw_13_21) (fun _ h9 => h9) rfl dX7_readOrder_170 ?_
                        refine lv_iconst (v := 0) hx hb dX7_readOrder_173 (by decide) ?_
                        refine lv_iload_n hx hb dX7_readOrder_174 rfl (lv_at hl 3 rfl) ?_
                        refine jcpyI (q0 := 11) (q1 := 17) hx hb (hml.trans hl.1.symm) hown (hts _ kw_13_22) (hts _ kw_13_23) (hts _ kw_14_0) (hts _ kw_14_1) hK hP hJ hA hS (jc_11 cI cL ad σ762 τ) (jc_17 cI cL ad σ762 τ) (fun _ => rfl) jz_0 jz_0 rfl (by omega) (by omega) (by omega) (by omega) (by omega) (Nat.le_of_ble_eq_true rfl) (Nat.le_of_ble_eq_true rfl) dX7_readOrder_175 (fun σ763 H locs eσ763 hP hS => ?_)
                        have w764 : ∀ k : Nat, k < 8 → 0 ≤ (σ762 11 k).toInt ∧ (σ762 11 k).toInt ≤ 3 := (by rw [eσ762, jup_n (by decide)]; exact (by rw [eσ761, jup_n (by decide)]; exact (by rw [eσ760, jup_n (by decide)]; exact w754)))
                        have w765 : ∀ k : Nat, k < 8 → 0 ≤ (σ762 17 k).toInt ∧ (σ762 17 k).toInt ≤ 3 := (by rw [eσ762, jup_n (by decide)]; exact (by rw [eσ761, jup_n (by decide)]; exact (by rw [eσ760, jup_n (by decide)]; exact (by rw [f748 17 (by omega)]; exact (by rw [f732 17 (by omega)]; exact (by rw [f622 17 (by omega)]; exact (by rw [f496 17 (by omega)]; exact (by rw [f32 17 (by omega)]; exact (by rw [f11 17 (by omega)]; exact w7)))))))))
                        have f766 : (∀ i : Nat, (i < 17 ∨ 17 < i) → σ763 i = σ762 i) := by rw [eσ763]; exact jrow_n
                        have w767 : ∀ k : Nat, k < 8 → 0 ≤ (σ763 17 k).toInt ∧ (σ763 17 k).toInt ≤ 3 := by rw [eσ763]; exact jrow_rr w764 w765 jz_0 rfl (n0 := 8) (by omega) (by omega) (by omega)
                        refine lv_iconst (v := (-1)) hx hb dX7_readOrder_178 (by decide) ?_
                        have z768 : (σ763 9 0).toInt = (σ746 9 0).toInt := by rw [(show σ763 9 0 = (σ746 9 0) from (by rw [f766 9 (by omega)]; exact (by rw [eσ762, jup_n (by decide)]; exact (by rw [eσ761, jup_n (by decide)]; exact (by rw [eσ760, jup_n (by decide)])))))]
                        have w769 : ∀ k : Nat, k < 80 → 0 ≤ (σ763 10 k).toInt ∧ (σ763 10 k).toInt ≤ 255 := (by rw [f766 10 (by omega)]; exact (by rw [eσ762, jup_n (by decide)]; exact (by rw [eσ761, jup_n (by decide)]; exact (by rw [eσ760, jup_n (by decide)]; exact w753))))
                        have w770 : ∀ k : Nat, k < 8 → 0 ≤ (σ763 11 k).toInt ∧ (σ763 11 k).toInt ≤ 3 := (by rw [f766 11 (by omega)]; exact w764)
                        have I771 : jI9 σ763 := ⟨(by omega), w769, w770⟩
                        have z772 : (σ763 16 0).toInt = x25.toInt := by rw [(show σ763 16 0 = x25 from (by rw [f766 16 (by omega)]; exact (by rw [eσ762, jup_k (by decide)]; exact (by rw [eσ761, jup_k (by decide)]; exact (by rw [eσ760]; exact jup_s)))))]
                        have z773 : (σ763 16 1).toInt = r621.toInt := by rw [(show σ763 16 1 = r621 from (by rw [f766 16 (by omega)]; exact (by rw [eσ762, jup_k (by decide)]; exact (by rw [eσ761]; exact jup_s))))]
                        have z774 : (σ763 16 2).toInt = 0 := by rw [(show σ763 16 2 = 0 from (by rw [f766 16 (by omega)]; exact (by rw [eσ762]; exact jup_s)))]; exact jz_0
                        have I775 : jI16 σ763 := ⟨(by omega), (by omega), (by omega), w767⟩
                        exact hret (-1) σ763 τ _ _ _ _ rfl ⟨rfl, (fun i hi => by rw [f766 i (by omega), eσ762, jup_n (by omega), eσ761, jup_n (by omega), eσ760, jup_n (by omega), f748 i (by omega), f732 i (by omega), f622 i (by omega), f496 i (by omega), f32 i (by omega), f11 i (by omega)]), (fun k hk => by rw [f766 9 (by omega), eσ762, jup_n (by decide), eσ761, jup_n (by decide), eσ760, jup_n (by decide), f749 k (by omega), f733 k (by omega), f623 k (by omega), f497 k (by omega), f33 k (by omega), f12 k (by omega)]), (fun k hk => by rw [f766 16 (by omega), eσ762, jup_k (by omega), eσ761, jup_k (by omega), eσ760, jup_k (by omega), f748 16 (by omega), f732 16 (by omega), f622 16 (by omega), f496 16 (by omega), f32 16 (by omega), f11 16 (by omega)]), I771, I775, trivial⟩ hP hS dX7_readOrder_179
                      · obtain ⟨q777, k776⟩ := h757
                        refine lv_istore (lv' := [(5, .int r747), (3, .int r621), (4, .int 0), (2, .int x25), (0, .ref (ad 9)), (1, .ref (ad 16))]) hx hb dX7_readOrder_137 hl (by decide) rfl (fun ls hl => ?_)
                        refine lv_iload hx hb dX7_readOrder_139 (lv_at hl 0 rfl) ?_
                        refine lv_iconst (v := (-1)) hx hb dX7_readOrder_141 (by decide) ?_
                        refine lv_icmp_eq (tgt := 148) hx hb dX7_readOrder_142 (by decide) (fun c => absurd (jeq c rfl jz_m1) (by omega)) (fun c778 => ?_)
                        have kc778 := jne c778 rfl jz_m1
                        refine lv_iload hx hb dX7_readOrder_145 (lv_at hl 0 rfl) ?_
                        have z779 : (σ746 16 0).toInt = (σ 16 0).toInt := by rw [(show σ746 16 0 = (σ 16 0) from (by rw [f748 16 (by omega)]; exact (by rw [f732 16 (by omega)]; exact (by rw [f622 16 (by omega)]; exact (by rw [f496 16 (by omega)]; exact (by rw [f32 16 (by omega)]; exact (by rw [f11 16 (by omega)])))))))]
                        have z780 : (σ746 16 1).toInt = (σ 16 1).toInt := by rw [(show σ746 16 1 = (σ 16 1) from (by rw [f748 16 (by omega)]; exact (by rw [f732 16 (by omega)]; exact (by rw [f622 16 (by omega)]; exact (by rw [f496 16 (by omega)]; exact (by rw [f32 16 (by omega)]; exact (by rw [f11 16 (by omega)])))))))]
                        have z781 : (σ746 16 2).toInt = (σ 16 2).toInt := by rw [(show σ746 16 2 = (σ 16 2) from (by rw [f748 16 (by omega)]; exact (by rw [f732 16 (by omega)]; exact (by rw [f622 16 (by omega)]; exact (by rw [f496 16 (by omega)]; exact (by rw [f32 16 (by omega)]; exact (by rw [f11 16 (by omega)])))))))]
                        have w782 : ∀ k : Nat, k < 8 → 0 ≤ (σ746 17 k).toInt ∧ (σ746 17 k).toInt ≤ 3 := (by rw [f748 17 (by omega)]; exact (by rw [f732 17 (by omega)]; exact (by rw [f622 17 (by omega)]; exact (by rw [f496 17 (by omega)]; exact (by rw [f32 17 (by omega)]; exact (by rw [f11 17 (by omega)]; exact w7))))))
                        have I783 : jI16 σ746 := ⟨(by omega), (by omega), (by omega), w782⟩
                        exact hret r747 σ746 τ _ _ _ _ rfl ⟨rfl, (fun i hi => by rw [f748 i (by omega), f732 i (by omega), f622 i (by omega), f496 i (by omega), f32 i (by omega), f11 i (by omega)]), (fun k hk => by rw [f749 k (by omega), f733 k (by omega), f623 k (by omega), f497 k (by omega), f33 k (by omega), f12 k (by omega)]), (fun k hk => by rw [f748 16 (by omega), f732 16 (by omega), f622 16 (by omega), f496 16 (by omega), f32 16 (by omega), f11 16 (by omega)]), I750, I783, trivial⟩ hP hS dX7_readOrder_147
                    · have kc745 := jne c745 rfl jz_0
                      refine lv_aload_n hx hb dX7_readOrder_126 rfl (lv_at hl 4 rfl) ?_
                      refine lv_iconst (v := 3) hx hb dX7_readOrder_127 (by decide) ?_
                      refine jcallV (As := [.int 3]) (rest := []) ⟨hx, hb, hml, hown, hts⟩ hK hP hA hS hZ (c_X7_number_3 l D cI cL ad zz hJ σ730 τ I734 I735 I736) cw_RX7_53 (jc_9 cI cL ad σ730 τ) rfl ⟨Nat.le_of_ble_eq_true rfl, Nat.le_of_ble_eq_true rfl⟩ rfl rfl rfl hl.1 rfl (Nat.le_of_ble_eq_true rfl) dX7_readOrder_128 ⟨Nat.zero_le _, Nat.zero_le _⟩ (fun r785 σ784 τ784 H locs h784 hP hS => ?_)
                      obtain ⟨rfl, f786, f787, I788, I789, I790, h784⟩ := h784
                      obtain ⟨i791, w792, w793⟩ : (0 ≤ (σ784 9 0).toInt ∧ (σ784 9 0).toInt ≤ 80) ∧ (∀ k : Nat, k < 80 → 0 ≤ (σ784 10 k).toInt ∧ (σ784 10 k).toInt ≤ 255) ∧ (∀ k : Nat, k < 8 → 0 ≤ (σ784 11 k).toInt ∧ (σ784 11 k).toInt ≤ 3) := id I788
                      obtain ⟨i794, i795⟩ : (0 ≤ (σ784 9 1).toInt) ∧ ((σ784 9 1).toInt ≤ (σ784 9 0).toInt) := id I789
                      have i796 : (-1) ≤ (σ784 9 2).toInt := I790
                      have z797 : (σ784 9 0).toInt = (σ 9 0).toInt := by rw [(show σ784 9 0 = (σ 9 0) from (by rw [f787 0 (by omega)]; exact (by rw [f733 0 (by omega)]; exact (by rw [f623 0 (by omega)]; exact (by rw [f497 0 (by omega)]; exact (by rw [f33 0 (by omega)]; exact (by rw [f12 0 (by omega)])))))))]
                      obtain ⟨k798, h784⟩ := h784
                      have h799 := h784
                      obtain ⟨q801, k800⟩ := h799
                      refine lv_istore (lv' := [(4, .int r785), (3, .int r621), (5, .int (σ494 9 1)), (2, .int x25), (0, .ref (ad 9)), (1, .ref (ad 16))]) hx hb dX7_readOrder_131 hl (by decide) rfl (fun ls hl => ?_)
                      refine lv_aload_n hx hb dX7_readOrder_133 rfl (lv_at hl 4 rfl) ?_
                      refine jcallV (As := []) (rest := []) ⟨hx, hb, hml, hown, hts⟩ hK hP hA hS hZ (c_X7_end_9 l D cI cL ad zz hJ σ784 τ I788 I789 I790) cw_RX7_57 (jc_9 cI cL ad σ784 τ) rfl ⟨Nat.le_of_ble_eq_true rfl, Nat.le_of_ble_eq_true rfl⟩ rfl rfl rfl hl.1 rfl (Nat.le_of_ble_eq_true rfl) dX7_readOrder_134 ⟨Nat.zero_le _, Nat.zero_le _⟩ (fun r803 σ802 τ802 H locs h802 hP hS => ?_)
                      obtain ⟨rfl, f804, f805, I806, I807, h802⟩ := h802
                      obtain ⟨i808, w809, w810⟩ : (0 ≤ (σ802 9 0).toInt ∧ (σ802 9 0).toInt ≤ 80) ∧ (∀ k : Nat, k < 80 → 0 ≤ (σ802 10 k).toInt ∧ (σ802 10 k).toInt ≤ 255) ∧ (∀ k : Nat, k < 8 → 0 ≤ (σ802 11 k).toInt ∧ (σ802 11 k).toInt ≤ 3) := id I806
                      have i811 : (-1) ≤ (σ802 9 2).toInt := I807
                      rcases h802 with h812 | h813
                      · obtain ⟨q815, k814⟩ := h812
                        have q815 := q815.symm
                        subst q815
                        refine lv_istore (lv' := [(5, .int (-1)), (4, .int r785), (3, .int r621), (2, .int x25), (0, .ref (ad 9)), (1, .ref (ad 16))]) hx hb dX7_readOrder_137 hl (by decide) rfl (fun ls hl => ?_)
                        refine lv_iload hx hb dX7_readOrder_139 (lv_at hl 0 rfl) ?_
                        refine lv_iconst (v := (-1)) hx hb dX7_readOrder_141 (by decide) ?_
                        refine lv_icmp_eq (tgt := 148) hx hb dX7_readOrder_142 (by decide) (fun _ => ?_) (fun c => absurd (by decide) c)
                        refine lv_aload_n hx hb dX7_readOrder_148 rfl (lv_at hl 5 rfl) ?_
                        refine lv_iload_n hx hb dX7_readOrder_149 rfl (lv_at hl 3 rfl) ?_
                        refine jput (ty := .int) hx hb hts inlX6 tyX6 tyX6_ok nmX6 hown hK hP hJ hA hS (jc_16 cI cL ad σ802 τ) rfl (k := 0) (by decide) (Nat.le_of_ble_eq_true rfl) (jp_16_0 cI cL ad σ802 τ x25) (hts _ kw_13_18) (fun _ h9 => h9) rfl (by decide +kernel) rfl rfl dX7_readOrder_150 (fun σ816 H locs eσ816 hP hS => ?_)
                        refine lv_aload_n hx hb dX7_readOrder_153 rfl (lv_at hl 5 rfl) ?_
                        refine lv_iload_n hx hb dX7_readOrder_154 rfl (lv_at hl 2 rfl) ?_
                        refine jput (ty := .int) hx hb hts inlX6 tyX6 tyX6_ok nmX6 hown hK hP hJ hA hS (jc_16 cI cL ad σ816 τ) rfl (k := 1) (by decide) (Nat.le_of_ble_eq_true rfl) (jp_16_1 cI cL ad σ816 τ r621) (hts _ kw_13_19) (fun _ h9 => h9) rfl (by decide +kernel) rfl rfl dX7_readOrder_155 (fun σ817 H locs eσ817 hP hS => ?_)
                        refine lv_aload_n hx hb dX7_readOrder_158 rfl (lv_at hl 5 rfl) ?_
                        refine lv_iload hx hb dX7_readOrder_159 (lv_at hl 1 rfl) ?_
                        refine jput (ty := .int) hx hb hts inlX6 tyX6 tyX6_ok nmX6 hown hK hP hJ hA hS (jc_16 cI cL ad σ817 τ) rfl (k := 2) (by decide) (Nat.le_of_ble_eq_true rfl) (jp_16_2 cI cL ad σ817 τ r785) (hts _ kw_13_20) (fun _ h9 => h9) rfl (by decide +kernel) rfl rfl dX7_readOrder_161 (fun σ818 H locs eσ818 hP hS => ?_)
                        refine lv_aload_n hx hb dX7_readOrder_164 rfl (lv_at hl 4 rfl) ?_
                        refine va_get (D := D) hx hb hts inlX7 hown hK hP 9 (jc_9 cI cL ad σ818 τ) rfl 4 (by decide) (hts _ kw_3_21) (fun _ h9 => h9) rfl dX7_readOrder_165 ?_
                        refine lv_iconst (v := 0) hx hb dX7_readOrder_168 (by decide) ?_
                        refine lv_aload_n hx hb dX7_readOrder_169 rfl (lv_at hl 5 rfl) ?_
                        refine va_get (D := D) hx hb hts inlX6 hown hK hP 16 (jc_16 cI cL ad σ818 τ) rfl 3 (by decide) (hts _ kw_13_21) (fun _ h9 => h9) rfl dX7_readOrder_170 ?_
                        refine lv_iconst (v := 0) hx hb dX7_readOrder_173 (by decide) ?_
                        refine lv_iload_n hx hb dX7_readOrder_174 rfl (lv_at hl 3 rfl) ?_
                        refine jcpyI (q0 := 11) (q1 := 17) hx hb (hml.trans hl.1.symm) hown (hts _ kw_13_22) (hts _ kw_13_23) (hts _ kw_14_0) (hts _ kw_14_1) hK hP hJ hA hS (jc_11 cI cL ad σ818 τ) (jc_17 cI cL ad σ818 τ) (fun _ => rfl) jz_0 jz_0 rfl (by omega) (by omega) (by omega) (by omega) (by omega) (Nat.le_of_ble_eq_true rfl) (Nat.le_of_ble_eq_true rfl) dX7_readOrder_175 (fun σ819 H locs eσ819 hP hS => ?_)
                        have w820 : ∀ k : Nat, k < 8 → 0 ≤ (σ818 11 k).toInt ∧ (σ818 11 k).toInt ≤ 3 := (by rw [eσ818, jup_n (by decide)]; exact (by rw [eσ817, jup_n (by decide)]; exact (by rw [eσ816, jup_n (by decide)]; exact w810)))
                        have w821 : ∀ k : Nat, k < 8 → 0 ≤ (σ818 17 k).toInt ∧ (σ818 17 k).toInt ≤ 3 := (by rw [eσ818, jup_n (by decide)]; exact (by rw [eσ817, jup_n (by decide)]; exact (by rw [eσ816, jup_n (by decide)]; exact (by rw [f804 17 (by omega)]; exact (by rw [f786 17 (by omega)]; exact (by rw [f732 17 (by omega)]; exact (by rw [f622 17 (by omega)]; exact (by rw [f496 17 (by omega)]; exact (by rw [f32 17 (by omega)]; exact (by rw [f11 17 (by omega)]; exact w7))))))))))
                        have f822 : (∀ i : Nat, (i < 17 ∨ 17 < i) → σ819 i = σ818 i) := by rw [eσ819]; exact jrow_n
                        have w823 : ∀ k : Nat, k < 8 → 0 ≤ (σ819 17 k).toInt ∧ (σ819 17 k).toInt ≤ 3 := by rw [eσ819]; exact jrow_rr w820 w821 jz_0 rfl (n0 := 8) (by omega) (by omega) (by omega)
                        refine lv_iconst (v := (-1)) hx hb dX7_readOrder_178 (by decide) ?_
                        have z824 : (σ819 9 0).toInt = (σ802 9 0).toInt := by rw [(show σ819 9 0 = (σ802 9 0) from (by rw [f822 9 (by omega)]; exact (by rw [eσ818, jup_n (by decide)]; exact (by rw [eσ817, jup_n (by decide)]; exact (by rw [eσ816, jup_n (by decide)])))))]
                        have w825 : ∀ k : Nat, k < 80 → 0 ≤ (σ819 10 k).toInt ∧ (σ819 10 k).toInt ≤ 255 := (by rw [f822 10 (by omega)]; exact (by rw [eσ818, jup_n (by decide)]; exact (by rw [eσ817, jup_n (by decide)]; exact (by rw [eσ816, jup_n (by decide)]; exact w809))))
                        have w826 : ∀ k : Nat, k < 8 → 0 ≤ (σ819 11 k).toInt ∧ (σ819 11 k).toInt ≤ 3 := (by rw [f822 11 (by omega)]; exact w820)
                        have I827 : jI9 σ819 := ⟨(by omega), w825, w826⟩
                        have z828 : (σ819 16 0).toInt = x25.toInt := by rw [(show σ819 16 0 = x25 from (by rw [f822 16 (by omega)]; exact (by rw [eσ818, jup_k (by decide)]; exact (by rw [eσ817, jup_k (by decide)]; exact (by rw [eσ816]; exact jup_s)))))]
                        have z829 : (σ819 16 1).toInt = r621.toInt := by rw [(show σ819 16 1 = r621 from (by rw [f822 16 (by omega)]; exact (by rw [eσ818, jup_k (by decide)]; exact (by rw [eσ817]; exact jup_s))))]
                        have z830 : (σ819 16 2).toInt = r785.toInt := by rw [(show σ819 16 2 = r785 from (by rw [f822 16 (by omega)]; exact (by rw [eσ818]; exact jup_s)))]
                        have I831 : jI16 σ819 := ⟨(by omega), (by omega), (by omega), w823⟩
                        exact hret (-1) σ819 τ _ _ _ _ rfl ⟨rfl, (fun i hi => by rw [f822 i (by omega), eσ818, jup_n (by omega), eσ817, jup_n (by omega), eσ816, jup_n (by omega), f804 i (by omega), f786 i (by omega), f732 i (by omega), f622 i (by omega), f496 i (by omega), f32 i (by omega), f11 i (by omega)]), (fun k hk => by rw [f822 9 (by omega), eσ818, jup_n (by decide), eσ817, jup_n (by decide), eσ816, jup_n (by decide), f805 k (by omega), f787 k (by omega), f733 k (by omega), f623 k (by omega), f497 k (by omega), f33 k (by omega), f12 k (by omega)]), (fun k hk => by rw [f822 16 (by omega), eσ818, jup_k (by omega), eσ817, jup_k (by omega), eσ816, jup_k (by omega), f804 16 (by omega), f786 16 (by omega), f732 16 (by omega), f622 16 (by omega), f496 16 (by omega), f32 16 (by omega), f11 16 (by omega)]), I827, I831, trivial⟩ hP hS dX7_readOrder_179
                      · obtain ⟨q833, k832⟩ := h813
                        refine lv_istore (lv' := [(5, .int r803), (4, .int r785), (3, .int r621), (2, .int x25), (0, .ref (ad 9)), (1, .ref (ad 16))]) hx hb dX7_readOrder_137 hl (by decide) rfl (fun ls hl => ?_)
                        refine lv_iload hx hb dX7_readOrder_139 (lv_at hl 0 rfl) ?_
                        refine lv_iconst (v := (-1)) hx hb dX7_readOrder_141 (by decide) ?_
                        refine lv_icmp_eq (tgt := 148) hx hb dX7_readOrder_142 (by decide) (fun c => absurd (jeq c rfl jz_m1) (by omega)) (fun c834 => ?_)
                        have kc834 := jne c834 rfl jz_m1
                        refine lv_iload hx hb dX7_readOrder_145 (lv_at hl 0 rfl) ?_
                        have z835 : (σ802 16 0).toInt = (σ 16 0).toInt := by rw [(show σ802 16 0 = (σ 16 0) from (by rw [f804 16 (by omega)]; exact (by rw [f786 16 (by omega)]; exact (by rw [f732 16 (by omega)]; exact (by rw [f622 16 (by omega)]; exact (by rw [f496 16 (by omega)]; exact (by rw [f32 16 (by omega)]; exact (by rw [f11 16 (by omega)]))))))))]
                        have z836 : (σ802 16 1).toInt = (σ 16 1).toInt := by rw [(show σ802 16 1 = (σ 16 1) from (by rw [f804 16 (by omega)]; exact (by rw [f786 16 (by omega)]; exact (by rw [f732 16 (by omega)]; exact (by rw [f622 16 (by omega)]; exact (by rw [f496 16 (by omega)]; exact (by rw [f32 16 (by omega)]; exact (by rw [f11 16 (by omega)]))))))))]
                        have z837 : (σ802 16 2).toInt = (σ 16 2).toInt := by rw [(show σ802 16 2 = (σ 16 2) from (by rw [f804 16 (by omega)]; exact (by rw [f786 16 (by omega)]; exact (by rw [f732 16 (by omega)]; exact (by rw [f622 16 (by omega)]; exact (by rw [f496 16 (by omega)]; exact (by rw [f32 16 (by omega)]; exact (by rw [f11 16 (by omega)]))))))))]
                        have w838 : ∀ k : Nat, k < 8 → 0 ≤ (σ802 17 k).toInt ∧ (σ802 17 k).toInt ≤ 3 := (by rw [f804 17 (by omega)]; exact (by rw [f786 17 (by omega)]; exact (by rw [f732 17 (by omega)]; exact (by rw [f622 17 (by omega)]; exact (by rw [f496 17 (by omega)]; exact (by rw [f32 17 (by omega)]; exact (by rw [f11 17 (by omega)]; exact w7)))))))
                        have I839 : jI16 σ802 := ⟨(by omega), (by omega), (by omega), w838⟩
                        exact hret r803 σ802 τ _ _ _ _ rfl ⟨rfl, (fun i hi => by rw [f804 i (by omega), f786 i (by omega), f732 i (by omega), f622 i (by omega), f496 i (by omega), f32 i (by omega), f11 i (by omega)]), (fun k hk => by rw [f805 k (by omega), f787 k (by omega), f733 k (by omega), f623 k (by omega), f497 k (by omega), f33 k (by omega), f12 k (by omega)]), (fun k hk => by rw [f804 16 (by omega), f786 16 (by omega), f732 16 (by omega), f622 16 (by omega), f496 16 (by omega), f32 16 (by omega), f11 16 (by omega)]), I806, I839, trivial⟩ hP hS dX7_readOrder_147
                  · have kc729 := jnle c729 rfl jz_12
                    refine lv_aload_n hx hb dX7_readOrder_111 rfl (lv_at hl 4 rfl) ?_
                    refine lv_iload hx hb dX7_readOrder_112 (lv_at hl 1 rfl) ?_
                    refine jcallVv (As := [.int (σ494 9 1)]) (rest := []) ⟨hx, hb, hml, hown, hts⟩ hK hP hA hS hZ (c_X7_fail_9 l D cI cL ad zz hJ σ620 τ (σ494 9 1) ((σ494 9 1).toInt) rfl I626 (by omega)) cw_RX7_43 (jc_9 cI cL ad σ620 τ) rfl ⟨Nat.le_of_ble_eq_true rfl, Nat.le_of_ble_eq_true rfl⟩ rfl rfl rfl hl.1 rfl (Nat.le_of_ble_eq_true rfl) dX7_readOrder_114 ⟨Nat.zero_le _, Nat.zero_le _⟩ (fun σ840 τ840 H locs h840 hP hS => ?_)
                    obtain ⟨rfl, f842, f843, h840⟩ := h840
                    obtain ⟨k844, h840⟩ := h840
                    refine lv_aload_n hx hb dX7_readOrder_117 rfl (lv_at hl 4 rfl) ?_
                    refine lv_bipush (v := 114) hx hb dX7_readOrder_118 (by decide) ?_
                    have z845 : (σ840 9 0).toInt = (σ 9 0).toInt := by rw [(show σ840 9 0 = (σ 9 0) from (by rw [f843 0 (by omega)]; exact (by rw [f623 0 (by omega)]; exact (by rw [f497 0 (by omega)]; exact (by rw [f33 0 (by omega)]; exact (by rw [f12 0 (by omega)]))))))]
                    have w846 : ∀ k : Nat, k < 80 → 0 ≤ (σ840 10 k).toInt ∧ (σ840 10 k).toInt ≤ 255 := (by rw [f842 10 (by omega)]; exact w628)
                    have w847 : ∀ k : Nat, k < 8 → 0 ≤ (σ840 11 k).toInt ∧ (σ840 11 k).toInt ≤ 3 := (by rw [f842 11 (by omega)]; exact w629)
                    have I848 : jI9 σ840 := ⟨(by omega), w846, w847⟩
                    have z849 : (σ840 9 1).toInt = (σ620 9 1).toInt := by rw [(show σ840 9 1 = (σ620 9 1) from (by rw [f843 1 (by omega)]))]
                    have I850 : jI91 σ840 := ⟨(by omega), (by omega)⟩
                    have I851 : jI92 σ840 := (show (-1) ≤ (σ840 9 2).toInt by omega)
                    refine jcallV (As := [.int 114]) (rest := []) ⟨hx, hb, hml, hown, hts⟩ hK hP hA hS hZ (c_X7_skip_9 l D cI cL ad zz hJ σ840 τ 114 (114) jz_114 I848 I850 I851 (by omega)) cw_RX7_50 (jc_9 cI cL ad σ840 τ) rfl ⟨Nat.le_of_ble_eq_true rfl, Nat.le_of_ble_eq_true rfl⟩ rfl rfl rfl hl.1 rfl (Nat.le_of_ble_eq_true rfl) dX7_readOrder_120 ⟨Nat.zero_le _, Nat.zero_le _⟩ (fun r853 σ852 τ852 H locs h852 hP hS => ?_)
                    obtain ⟨rfl, f854, f855, I856, I857, I858, h852⟩ := h852
                    obtain ⟨i859, w860, w861⟩ : (0 ≤ (σ852 9 0).toInt ∧ (σ852 9 0).toInt ≤ 80) ∧ (∀ k : Nat, k < 80 → 0 ≤ (σ852 10 k).toInt ∧ (σ852 10 k).toInt ≤ 255) ∧ (∀ k : Nat, k < 8 → 0 ≤ (σ852 11 k).toInt ∧ (σ852 11 k).toInt ≤ 3) := id I856
                    obtain ⟨i862, i863⟩ : (0 ≤ (σ852 9 1).toInt) ∧ ((σ852 9 1).toInt ≤ (σ852 9 0).toInt) := id I857
                    have i864 : (-1) ≤ (σ852 9 2).toInt := I858
                    have z865 : (σ852 9 0).toInt = (σ 9 0).toInt := by rw [(show σ852 9 0 = (σ 9 0) from (by rw [f855 0 (by omega)]; exact (by rw [f843 0 (by omega)]; exact (by rw [f623 0 (by omega)]; exact (by rw [f497 0 (by omega)]; exact (by rw [f33 0 (by omega)]; exact (by rw [f12 0 (by omega)])))))))]
                    have z866 : (σ852 9 2).toInt = (σ840 9 2).toInt := by rw [(show σ852 9 2 = (σ840 9 2) from (by rw [f855 2 (by omega)]))]
                    refine lv_if_eq (tgt := 133) hx hb dX7_readOrder_123 (by decide) (fun c867 => ?_) (fun c867 => ?_)
                    · have kc867 := jeq c867 rfl jz_0
                      refine lv_aload_n hx hb dX7_readOrder_133 rfl (lv_at hl 4 rfl) ?_
                      refine jcallV (As := []) (rest := []) ⟨hx, hb, hml, hown, hts⟩ hK hP hA hS hZ (c_X7_end_9 l D cI cL ad zz hJ σ852 τ I856 I857 I858) cw_RX7_57 (jc_9 cI cL ad σ852 τ) rfl ⟨Nat.le_of_ble_eq_true rfl, Nat.le_of_ble_eq_true rfl⟩ rfl rfl rfl hl.1 rfl (Nat.le_of_ble_eq_true rfl) dX7_readOrder_134 ⟨Nat.zero_le _, Nat.zero_le _⟩ (fun r869 σ868 τ868 H locs h868 hP hS => ?_)
                      obtain ⟨rfl, f870, f871, I872, I873, h868⟩ := h868
                      obtain ⟨i874, w875, w876⟩ : (0 ≤ (σ868 9 0).toInt ∧ (σ868 9 0).toInt ≤ 80) ∧ (∀ k : Nat, k < 80 → 0 ≤ (σ868 10 k).toInt ∧ (σ868 10 k).toInt ≤ 255) ∧ (∀ k : Nat, k < 8 → 0 ≤ (σ868 11 k).toInt ∧ (σ868 11 k).toInt ≤ 3) := id I872
                      have i877 : (-1) ≤ (σ868 9 2).toInt := I873
                      rcases h868 with h878 | h879
                      · obtain ⟨q881, k880⟩ := h878
                        exact absurd (by omega : False) id
                      · obtain ⟨q883, k882⟩ := h879
                        refine lv_istore (lv' := [(5, .int r869), (3, .int r621), (4, .int 0), (2, .int x25), (0, .ref (ad 9)), (1, .ref (ad 16))]) hx hb dX7_readOrder_137 hl (by decide) rfl (fun ls hl => ?_)
                        refine lv_iload hx hb dX7_readOrder_139 (lv_at hl 0 rfl) ?_
                        refine lv_iconst (v := (-1)) hx hb dX7_readOrder_141 (by decide) ?_
                        refine lv_icmp_eq (tgt := 148) hx hb dX7_readOrder_142 (by decide) (fun c => absurd (jeq c rfl jz_m1) (by omega)) (fun c884 => ?_)
                        have kc884 := jne c884 rfl jz_m1
                        refine lv_iload hx hb dX7_readOrder_145 (lv_at hl 0 rfl) ?_
                        have z885 : (σ868 16 0).toInt = (σ 16 0).toInt := by rw [(show σ868 16 0 = (σ 16 0) from (by rw [f870 16 (by omega)]; exact (by rw [f854 16 (by omega)]; exact (by rw [f842 16 (by omega)]; exact (by rw [f622 16 (by omega)]; exact (by rw [f496 16 (by omega)]; exact (by rw [f32 16 (by omega)]; exact (by rw [f11 16 (by omega)]))))))))]
                        have z886 : (σ868 16 1).toInt = (σ 16 1).toInt := by rw [(show σ868 16 1 = (σ 16 1) from (by rw [f870 16 (by omega)]; exact (by rw [f854 16 (by omega)]; exact (by rw [f842 16 (by omega)]; exact (by rw [f622 16 (by omega)]; exact (by rw [f496 16 (by omega)]; exact (by rw [f32 16 (by omega)]; exact (by rw [f11 16 (by omega)]))))))))]
                        have z887 : (σ868 16 2).toInt = (σ 16 2).toInt := by rw [(show σ868 16 2 = (σ 16 2) from (by rw [f870 16 (by omega)]; exact (by rw [f854 16 (by omega)]; exact (by rw [f842 16 (by omega)]; exact (by rw [f622 16 (by omega)]; exact (by rw [f496 16 (by omega)]; exact (by rw [f32 16 (by omega)]; exact (by rw [f11 16 (by omega)]))))))))]
                        have w888 : ∀ k : Nat, k < 8 → 0 ≤ (σ868 17 k).toInt ∧ (σ868 17 k).toInt ≤ 3 := (by rw [f870 17 (by omega)]; exact (by rw [f854 17 (by omega)]; exact (by rw [f842 17 (by omega)]; exact (by rw [f622 17 (by omega)]; exact (by rw [f496 17 (by omega)]; exact (by rw [f32 17 (by omega)]; exact (by rw [f11 17 (by omega)]; exact w7)))))))
                        have I889 : jI16 σ868 := ⟨(by omega), (by omega), (by omega), w888⟩
                        exact hret r869 σ868 τ _ _ _ _ rfl ⟨rfl, (fun i hi => by rw [f870 i (by omega), f854 i (by omega), f842 i (by omega), f622 i (by omega), f496 i (by omega), f32 i (by omega), f11 i (by omega)]), (fun k hk => by rw [f871 k (by omega), f855 k (by omega), f843 k (by omega), f623 k (by omega), f497 k (by omega), f33 k (by omega), f12 k (by omega)]), (fun k hk => by rw [f870 16 (by omega), f854 16 (by omega), f842 16 (by omega), f622 16 (by omega), f496 16 (by omega), f32 16 (by omega), f11 16 (by omega)]), I872, I889, trivial⟩ hP hS dX7_readOrder_147
                    · have kc867 := jne c867 rfl jz_0
                      refine lv_aload_n hx hb dX7_readOrder_126 rfl (lv_at hl 4 rfl) ?_
                      refine lv_iconst (v := 3) hx hb dX7_readOrder_127 (by decide) ?_
                      refine jcallV (As := [.int 3]) (rest := []) ⟨hx, hb, hml, hown, hts⟩ hK hP hA hS hZ (c_X7_number_3 l D cI cL ad zz hJ σ852 τ I856 I857 I858) cw_RX7_53 (jc_9 cI cL ad σ852 τ) rfl ⟨Nat.le_of_ble_eq_true rfl, Nat.le_of_ble_eq_true rfl⟩ rfl rfl rfl hl.1 rfl (Nat.le_of_ble_eq_true rfl) dX7_readOrder_128 ⟨Nat.zero_le _, Nat.zero_le _⟩ (fun r891 σ890 τ890 H locs h890 hP hS => ?_)
                      obtain ⟨rfl, f892, f893, I894, I895, I896, h890⟩ := h890
                      obtain ⟨i897, w898, w899⟩ : (0 ≤ (σ890 9 0).toInt ∧ (σ890 9 0).toInt ≤ 80) ∧ (∀ k : Nat, k < 80 → 0 ≤ (σ890 10 k).toInt ∧ (σ890 10 k).toInt ≤ 255) ∧ (∀ k : Nat, k < 8 → 0 ≤ (σ890 11 k).toInt ∧ (σ890 11 k).toInt ≤ 3) := id I894
                      obtain ⟨i900, i901⟩ : (0 ≤ (σ890 9 1).toInt) ∧ ((σ890 9 1).toInt ≤ (σ890 9 0).toInt) := id I895
                      have i902 : (-1) ≤ (σ890 9 2).toInt := I896
                      have z903 : (σ890 9 0).toInt = (σ 9 0).toInt := by rw [(show σ890 9 0 = (σ 9 0) from (by rw [f893 0 (by omega)]; exact (by rw [f855 0 (by omega)]; exact (by rw [f843 0 (by omega)]; exact (by rw [f623 0 (by omega)]; exact (by rw [f497 0 (by omega)]; exact (by rw [f33 0 (by omega)]; exact (by rw [f12 0 (by omega)]))))))))]
                      obtain ⟨k904, h890⟩ := h890
                      have h905 := h890
                      obtain ⟨q907, k906⟩ := h905
                      refine lv_istore (lv' := [(4, .int r891), (3, .int r621), (5, .int (σ494 9 1)), (2, .int x25), (0, .ref (ad 9)), (1, .ref (ad 16))]) hx hb dX7_readOrder_131 hl (by decide) rfl (fun ls hl => ?_)
                      refine lv_aload_n hx hb dX7_readOrder_133 rfl (lv_at hl 4 rfl) ?_
                      refine jcallV (As := []) (rest := []) ⟨hx, hb, hml, hown, hts⟩ hK hP hA hS hZ (c_X7_end_9 l D cI cL ad zz hJ σ890 τ I894 I895 I896) cw_RX7_57 (jc_9 cI cL ad σ890 τ) rfl ⟨Nat.le_of_ble_eq_true rfl, Nat.le_of_ble_eq_true rfl⟩ rfl rfl rfl hl.1 rfl (Nat.le_of_ble_eq_true rfl) dX7_readOrder_134 ⟨Nat.zero_le _, Nat.zero_le _⟩ (fun r909 σ908 τ908 H locs h908 hP hS => ?_)
                      obtain ⟨rfl, f910, f911, I912, I913, h908⟩ := h908
                      obtain ⟨i914, w915, w916⟩ : (0 ≤ (σ908 9 0).toInt ∧ (σ908 9 0).toInt ≤ 80) ∧ (∀ k : Nat, k < 80 → 0 ≤ (σ908 10 k).toInt ∧ (σ908 10 k).toInt ≤ 255) ∧ (∀ k : Nat, k < 8 → 0 ≤ (σ908 11 k).toInt ∧ (σ908 11 k).toInt ≤ 3) := id I912
                      have i917 : (-1) ≤ (σ908 9 2).toInt := I913
                      rcases h908 with h918 | h919
                      · obtain ⟨q921, k920⟩ := h918
                        exact absurd (by omega : False) id
                      · obtain ⟨q923, k922⟩ := h919
                        refine lv_istore (lv' := [(5, .int r909), (4, .int r891), (3, .int r621), (2, .int x25), (0, .ref (ad 9)), (1, .ref (ad 16))]) hx hb dX7_readOrder_137 hl (by decide) rfl (fun ls hl => ?_)
                        refine lv_iload hx hb dX7_readOrder_139 (lv_at hl 0 rfl) ?_
                        refine lv_iconst (v := (-1)) hx hb dX7_readOrder_141 (by decide) ?_
                        refine lv_icmp_eq (tgt := 148) hx hb dX7_readOrder_142 (by decide) (fun c => absurd (jeq c rfl jz_m1) (by omega)) (fun c924 => ?_)
                        have kc924 := jne c924 rfl jz_m1
                        refine lv_iload hx hb dX7_readOrder_145 (lv_at hl 0 rfl) ?_
                        have z925 : (σ908 16 0).toInt = (σ 16 0).toInt := by rw [(show σ908 16 0 = (σ 16 0) from (by rw [f910 16 (by omega)]; exact (by rw [f892 16 (by omega)]; exact (by rw [f854 16 (by omega)]; exact (by rw [f842 16 (by omega)]; exact (by rw [f622 16 (by omega)]; exact (by rw [f496 16 (by omega)]; exact (by rw [f32 16 (by omega)]; exact (by rw [f11 16 (by omega)])))))))))]
                        have z926 : (σ908 16 1).toInt = (σ 16 1).toInt := by rw [(show σ908 16 1 = (σ 16 1) from (by rw [f910 16 (by omega)]; exact (by rw [f892 16 (by omega)]; exact (by rw [f854 16 (by omega)]; exact (by rw [f842 16 (by omega)]; exact (by rw [f622 16 (by omega)]; exact (by rw [f496 16 (by omega)]; exact (by rw [f32 16 (by omega)]; exact (by rw [f11 16 (by omega)])))))))))]
                        have z927 : (σ908 16 2).toInt = (σ 16 2).toInt := by rw [(show σ908 16 2 = (σ 16 2) from (by rw [f910 16 (by omega)]; exact (by rw [f892 16 (by omega)]; exact (by rw [f854 16 (by omega)]; exact (by rw [f842 16 (by omega)]; exact (by rw [f622 16 (by omega)]; exact (by rw [f496 16 (by omega)]; exact (by rw [f32 16 (by omega)]; exact (by rw [f11 16 (by omega)])))))))))]
                        have w928 : ∀ k : Nat, k < 8 → 0 ≤ (σ908 17 k).toInt ∧ (σ908 17 k).toInt ≤ 3 := (by rw [f910 17 (by omega)]; exact (by rw [f892 17 (by omega)]; exact (by rw [f854 17 (by omega)]; exact (by rw [f842 17 (by omega)]; exact (by rw [f622 17 (by omega)]; exact (by rw [f496 17 (by omega)]; exact (by rw [f32 17 (by omega)]; exact (by rw [f11 17 (by omega)]; exact w7))))))))
                        have I929 : jI16 σ908 := ⟨(by omega), (by omega), (by omega), w928⟩
                        exact hret r909 σ908 τ _ _ _ _ rfl ⟨rfl, (fun i hi => by rw [f910 i (by omega), f892 i (by omega), f854 i (by omega), f842 i (by omega), f622 i (by omega), f496 i (by omega), f32 i (by omega), f11 i (by omega)]), (fun k hk => by rw [f911 k (by omega), f893 k (by omega), f855 k (by omega), f843 k (by omega), f623 k (by omega), f497 k (by omega), f33 k (by omega), f12 k (by omega)]), (fun k hk => by rw [f910 16 (by omega), f892 16 (by omega), f854 16 (by omega), f842 16 (by omega), f622 16 (by omega), f496 16 (by omega), f32 16 (by omega), f11 16 (by omega)]), I912, I929, trivial⟩ hP hS dX7_readOrder_147
            · have kc490 := jeq c490 rfl jz_0
              refine lv_aload_n hx hb dX7_readOrder_71 rfl (lv_at hl 3 rfl) ?_
              refine lv_aload_n hx hb dX7_readOrder_72 rfl (lv_at hl 3 rfl) ?_
              refine va_get (D := D) hx hb hts inlX7 hown hK hP 9 (jc_9 cI cL ad σ26 τ) rfl 1 (by decide) (hts _ kw_13_17) (fun _ h9 => h9) rfl dX7_readOrder_73 ?_
              have z930 : (σ26 9 2).toInt = (σ9 9 2).toInt := by rw [(show σ26 9 2 = (σ9 9 2) from (by rw [f33 2 (by omega)]))]
              have I931 : jI92 σ26 := (show (-1) ≤ (σ26 9 2).toInt by omega)
              refine jcallVv (As := [.int (σ26 9 1)]) (rest := []) ⟨hx, hb, hml, hown, hts⟩ hK hP hA hS hZ (c_X7_fail_9 l D cI cL ad zz hJ σ26 τ (σ26 9 1) ((σ26 9 1).toInt) rfl I931 (by omega)) cw_RX7_43 (jc_9 cI cL ad σ26 τ) rfl ⟨Nat.le_of_ble_eq_true rfl, Nat.le_of_ble_eq_true rfl⟩ rfl rfl rfl hl.1 rfl (Nat.le_of_ble_eq_true rfl) dX7_readOrder_76 ⟨Nat.zero_le _, Nat.zero_le _⟩ (fun σ932 τ932 H locs h932 hP hS => ?_)
              obtain ⟨rfl, f934, f935, h932⟩ := h932
              obtain ⟨k936, h932⟩ := h932
              refine lv_aload_n hx hb dX7_readOrder_79 rfl (lv_at hl 3 rfl) ?_
              refine lv_bipush (v := 58) hx hb dX7_readOrder_80 (by decide) ?_
              have z937 : (σ932 9 0).toInt = (σ 9 0).toInt := by rw [(show σ932 9 0 = (σ 9 0) from (by rw [f935 0 (by omega)]; exact (by rw [f33 0 (by omega)]; exact (by rw [f12 0 (by omega)]))))]
              have w938 : ∀ k : Nat, k < 80 → 0 ≤ (σ932 10 k).toInt ∧ (σ932 10 k).toInt ≤ 255 := (by rw [f934 10 (by omega)]; exact w479)
              have w939 : ∀ k : Nat, k < 8 → 0 ≤ (σ932 11 k).toInt ∧ (σ932 11 k).toInt ≤ 3 := (by rw [f934 11 (by omega)]; exact w34)
              have I940 : jI9 σ932 := ⟨(by omega), w938, w939⟩
              have z941 : (σ932 9 1).toInt = (σ26 9 1).toInt := by rw [(show σ932 9 1 = (σ26 9 1) from (by rw [f935 1 (by omega)]))]
              have I942 : jI91 σ932 := ⟨(by omega), (by omega)⟩
              have I943 : jI92 σ932 := (show (-1) ≤ (σ932 9 2).toInt by omega)
              refine jcallV (As := [.int 58]) (rest := []) ⟨hx, hb, hml, hown, hts⟩ hK hP hA hS hZ (c_X7_skip_9 l D cI cL ad zz hJ σ932 τ 58 (58) jz_58 I940 I942 I943 (by omega)) cw_RX7_50 (jc_9 cI cL ad σ932 τ) rfl ⟨Nat.le_of_ble_eq_true rfl, Nat.le_of_ble_eq_true rfl⟩ rfl rfl rfl hl.1 rfl (Nat.le_of_ble_eq_true rfl) dX7_readOrder_82 ⟨Nat.zero_le _, Nat.zero_le _⟩ (fun r945 σ944 τ944 H locs h944 hP hS => ?_)
              obtain ⟨rfl, f946, f947, I948, I949, I950, h944⟩ := h944
              obtain ⟨i951, w952, w953⟩ : (0 ≤ (σ944 9 0).toInt ∧ (σ944 9 0).toInt ≤ 80) ∧ (∀ k : Nat, k < 80 → 0 ≤ (σ944 10 k).toInt ∧ (σ944 10 k).toInt ≤ 255) ∧ (∀ k : Nat, k < 8 → 0 ≤ (σ944 11 k).toInt ∧ (σ944 11 k).toInt ≤ 3) := id I948
              obtain ⟨i954, i955⟩ : (0 ≤ (σ944 9 1).toInt) ∧ ((σ944 9 1).toInt ≤ (σ944 9 0).toInt) := id I949
              have i956 : (-1) ≤ (σ944 9 2).toInt := I950
              have z957 : (σ944 9 0).toInt = (σ 9 0).toInt := by rw [(show σ944 9 0 = (σ 9 0) from (by rw [f947 0 (by omega)]; exact (by rw [f935 0 (by omega)]; exact (by rw [f33 0 (by omega)]; exact (by rw [f12 0 (by omega)])))))]
              have z958 : (σ944 9 2).toInt = (σ932 9 2).toInt := by rw [(show σ944 9 2 = (σ932 9 2) from (by rw [f947 2 (by omega)]))]
              refine lv_if_eq (tgt := 117) hx hb dX7_readOrder_85 (by decide) (fun c959 => ?_) (fun c959 => ?_)
              · have kc959 := jeq c959 rfl jz_0
                refine lv_aload_n hx hb dX7_readOrder_117 rfl (lv_at hl 3 rfl) ?_
                refine lv_bipush (v := 114) hx hb dX7_readOrder_118 (by decide) ?_
                refine jcallV (As := [.int 114]) (rest := []) ⟨hx, hb, hml, hown, hts⟩ hK hP hA hS hZ (c_X7_skip_9 l D cI cL ad zz hJ σ944 τ 114 (114) jz_114 I948 I949 I950 (by omega)) cw_RX7_50 (jc_9 cI cL ad σ944 τ) rfl ⟨Nat.le_of_ble_eq_true rfl, Nat.le_of_ble_eq_true rfl⟩ rfl rfl rfl hl.1 rfl (Nat.le_of_ble_eq_true rfl) dX7_readOrder_120 ⟨Nat.zero_le _, Nat.zero_le _⟩ (fun r961 σ960 τ960 H locs h960 hP hS => ?_)
                obtain ⟨rfl, f962, f963, I964, I965, I966, h960⟩ := h960
                obtain ⟨i967, w968, w969⟩ : (0 ≤ (σ960 9 0).toInt ∧ (σ960 9 0).toInt ≤ 80) ∧ (∀ k : Nat, k < 80 → 0 ≤ (σ960 10 k).toInt ∧ (σ960 10 k).toInt ≤ 255) ∧ (∀ k : Nat, k < 8 → 0 ≤ (σ960 11 k).toInt ∧ (σ960 11 k).toInt ≤ 3) := id I964
                obtain ⟨i970, i971⟩ : (0 ≤ (σ960 9 1).toInt) ∧ ((σ960 9 1).toInt ≤ (σ960 9 0).toInt) := id I965
                have i972 : (-1) ≤ (σ960 9 2).toInt := I966
                have z973 : (σ960 9 0).toInt = (σ 9 0).toInt := by rw [(show σ960 9 0 = (σ 9 0) from (by rw [f963 0 (by omega)]; exact (by rw [f947 0 (by omega)]; exact (by rw [f935 0 (by omega)]; exact (by rw [f33 0 (by omega)]; exact (by rw [f12 0 (by omega)]))))))]
                have z974 : (σ960 9 2).toInt = (σ932 9 2).toInt := by rw [(show σ960 9 2 = (σ932 9 2) from (by rw [f963 2 (by omega)]; exact (by rw [f947 2 (by omega)])))]
                refine lv_if_eq (tgt := 133) hx hb dX7_readOrder_123 (by decide) (fun c975 => ?_) (fun c975 => ?_)
                · have kc975 := jeq c975 rfl jz_0
                  refine lv_aload_n hx hb dX7_readOrder_133 rfl (lv_at hl 3 rfl) ?_
                  refine jcallV (As := []) (rest := []) ⟨hx, hb, hml, hown, hts⟩ hK hP hA hS hZ (c_X7_end_9 l D cI cL ad zz hJ σ960 τ I964 I965 I966) cw_RX7_57 (jc_9 cI cL ad σ960 τ) rfl ⟨Nat.le_of_ble_eq_true rfl, Nat.le_of_ble_eq_true rfl⟩ rfl rfl rfl hl.1 rfl (Nat.le_of_ble_eq_true rfl) dX7_readOrder_134 ⟨Nat.zero_le _, Nat.zero_le _⟩ (fun r977 σ976 τ976 H locs h976 hP hS => ?_)
                  obtain ⟨rfl, f978, f979, I980, I981, h976⟩ := h976
                  obtain ⟨i982, w983, w984⟩ : (0 ≤ (σ976 9 0).toInt ∧ (σ976 9 0).toInt ≤ 80) ∧ (∀ k : Nat, k < 80 → 0 ≤ (σ976 10 k).toInt ∧ (σ976 10 k).toInt ≤ 255) ∧ (∀ k : Nat, k < 8 → 0 ≤ (σ976 11 k).toInt ∧ (σ976 11 k).toInt ≤ 3) := id I980
                  have i985 : (-1) ≤ (σ976 9 2).toInt := I981
                  rcases h976 with h986 | h987
                  · obtain ⟨q989, k988⟩ := h986
                    exact absurd (by omega : False) id
                  · obtain ⟨q991, k990⟩ := h987
                    refine lv_istore (lv' := [(5, .int r977), (4, .int 0), (3, .int 8), (2, .int x25), (0, .ref (ad 9)), (1, .ref (ad 16))]) hx hb dX7_readOrder_137 hl (by decide) rfl (fun ls hl => ?_)
                    refine lv_iload hx hb dX7_readOrder_139 (lv_at hl 0 rfl) ?_
                    refine lv_iconst (v := (-1)) hx hb dX7_readOrder_141 (by decide) ?_
                    refine lv_icmp_eq (tgt := 148) hx hb dX7_readOrder_142 (by decide) (fun c => absurd (jeq c rfl jz_m1) (by omega)) (fun c992 => ?_)
                    have kc992 := jne c992 rfl jz_m1
                    refine lv_iload hx hb dX7_readOrder_145 (lv_at hl 0 rfl) ?_
                    have z993 : (σ976 16 0).toInt = (σ 16 0).toInt := by rw [(show σ976 16 0 = (σ 16 0) from (by rw [f978 16 (by omega)]; exact (by rw [f962 16 (by omega)]; exact (by rw [f946 16 (by omega)]; exact (by rw [f934 16 (by omega)]; exact (by rw [f32 16 (by omega)]; exact (by rw [f11 16 (by omega)])))))))]
                    have z994 : (σ976 16 1).toInt = (σ 16 1).toInt := by rw [(show σ976 16 1 = (σ 16 1) from (by rw [f978 16 (by omega)]; exact (by rw [f962 16 (by omega)]; exact (by rw [f946 16 (by omega)]; exact (by rw [f934 16 (by omega)]; exact (by rw [f32 16 (by omega)]; exact (by rw [f11 16 (by omega)])))))))]
                    have z995 : (σ976 16 2).toInt = (σ 16 2).toInt := by rw [(show σ976 16 2 = (σ 16 2) from (by rw [f978 16 (by omega)]; exact (by rw [f962 16 (by omega)]; exact (by rw [f946 16 (by omega)]; exact (by rw [f934 16 (by omega)]; exact (by rw [f32 16 (by omega)]; exact (by rw [f11 16 (by omega)])))))))]
                    have w996 : ∀ k : Nat, k < 8 → 0 ≤ (σ976 17 k).toInt ∧ (σ976 17 k).toInt ≤ 3 := (by rw [f978 17 (by omega)]; exact (by rw [f962 17 (by omega)]; exact (by rw [f946 17 (by omega)]; exact (by rw [f934 17 (by omega)]; exact (by rw [f32 17 (by omega)]; exact (by rw [f11 17 (by omega)]; exact w7))))))
                    have I997 : jI16 σ976 := ⟨(by omega), (by omega), (by omega), w996⟩
                    exact hret r977 σ976 τ _ _ _ _ rfl ⟨rfl, (fun i hi => by rw [f978 i (by omega), f962 i (by omega), f946 i (by omega), f934 i (by omega), f32 i (by omega), f11 i (by omega)]), (fun k hk => by rw [f979 k (by omega), f963 k (by omega), f947 k (by omega), f935 k (by omega), f33 k (by omega), f12 k (by omega)]), (fun k hk => by rw [f978 16 (by omega), f962 16 (by omega), f946 16 (by omega), f934 16 (by omega), f32 16 (by omega), f11 16 (by omega)]), I980, I997, trivial⟩ hP hS dX7_readOrder_147
                · have kc975 := jne c975 rfl jz_0
                  refine lv_aload_n hx hb dX7_readOrder_126 rfl (lv_at hl 3 rfl) ?_
                  refine lv_iconst (v := 3) hx hb dX7_readOrder_127 (by decide) ?_
                  refine jcallV (As := [.int 3]) (rest := []) ⟨hx, hb, hml, hown, hts⟩ hK hP hA hS hZ (c_X7_number_3 l D cI cL ad zz hJ σ960 τ I964 I965 I966) cw_RX7_53 (jc_9 cI cL ad σ960 τ) rfl ⟨Nat.le_of_ble_eq_true rfl, Nat.le_of_ble_eq_true rfl⟩ rfl rfl rfl hl.1 rfl (Nat.le_of_ble_eq_true rfl) dX7_readOrder_128 ⟨Nat.zero_le _, Nat.zero_le _⟩ (fun r999 σ998 τ998 H locs h998 hP hS => ?_)
                  obtain ⟨rfl, f1000, f1001, I1002, I1003, I1004, h998⟩ := h998
                  obtain ⟨i1005, w1006, w1007⟩ : (0 ≤ (σ998 9 0).toInt ∧ (σ998 9 0).toInt ≤ 80) ∧ (∀ k : Nat, k < 80 → 0 ≤ (σ998 10 k).toInt ∧ (σ998 10 k).toInt ≤ 255) ∧ (∀ k : Nat, k < 8 → 0 ≤ (σ998 11 k).toInt ∧ (σ998 11 k).toInt ≤ 3) := id I1002
                  obtain ⟨i1008, i1009⟩ : (0 ≤ (σ998 9 1).toInt) ∧ ((σ998 9 1).toInt ≤ (σ998 9 0).toInt) := id I1003
                  have i1010 : (-1) ≤ (σ998 9 2).toInt := I1004
                  have z1011 : (σ998 9 0).toInt = (σ 9 0).toInt := by rw [(show σ998 9 0 = (σ 9 0) from (by rw [f1001 0 (by omega)]; exact (by rw [f963 0 (by omega)]; exact (by rw [f947 0 (by omega)]; exact (by rw [f935 0 (by omega)]; exact (by rw [f33 0 (by omega)]; exact (by rw [f12 0 (by omega)])))))))]
                  obtain ⟨k1012, h998⟩ := h998
                  have h1013 := h998
                  obtain ⟨q1015, k1014⟩ := h1013
                  refine lv_istore (lv' := [(4, .int r999), (3, .int 8), (2, .int x25), (0, .ref (ad 9)), (1, .ref (ad 16))]) hx hb dX7_readOrder_131 hl (by decide) rfl (fun ls hl => ?_)
                  refine lv_aload_n hx hb dX7_readOrder_133 rfl (lv_at hl 3 rfl) ?_
                  refine jcallV (As := []) (rest := []) ⟨hx, hb, hml, hown, hts⟩ hK hP hA hS hZ (c_X7_end_9 l D cI cL ad zz hJ σ998 τ I1002 I1003 I1004) cw_RX7_57 (jc_9 cI cL ad σ998 τ) rfl ⟨Nat.le_of_ble_eq_true rfl, Nat.le_of_ble_eq_true rfl⟩ rfl rfl rfl hl.1 rfl (Nat.le_of_ble_eq_true rfl) dX7_readOrder_134 ⟨Nat.zero_le _, Nat.zero_le _⟩ (fun r1017 σ1016 τ1016 H locs h1016 hP hS => ?_)
                  obtain ⟨rfl, f1018, f1019, I1020, I1021, h1016⟩ := h1016
                  obtain ⟨i1022, w1023, w1024⟩ : (0 ≤ (σ1016 9 0).toInt ∧ (σ1016 9 0).toInt ≤ 80) ∧ (∀ k : Nat, k < 80 → 0 ≤ (σ1016 10 k).toInt ∧ (σ1016 10 k).toInt ≤ 255) ∧ (∀ k : Nat, k < 8 → 0 ≤ (σ1016 11 k).toInt ∧ (σ1016 11 k).toInt ≤ 3) := id I1020
                  have i1025 : (-1) ≤ (σ1016 9 2).toInt := I1021
                  rcases h1016 with h1026 | h1027
                  · obtain ⟨q1029, k1028⟩ := h1026
                    exact absurd (by omega : False) id
                  · obtain ⟨q1031, k1030⟩ := h1027
                    refine lv_istore (lv' := [(5, .int r1017), (4, .int r999), (3, .int 8), (2, .int x25), (0, .ref (ad 9)), (1, .ref (ad 16))]) hx hb dX7_readOrder_137 hl (by decide) rfl (fun ls hl => ?_)
                    refine lv_iload hx hb dX7_readOrder_139 (lv_at hl 0 rfl) ?_
                    refine lv_iconst (v := (-1)) hx hb dX7_readOrder_141 (by decide) ?_
                    refine lv_icmp_eq (tgt := 148) hx hb dX7_readOrder_142 (by decide) (fun c => absurd (jeq c rfl jz_m1) (by omega)) (fun c1032 => ?_)
                    have kc1032 := jne c1032 rfl jz_m1
                    refine lv_iload hx hb dX7_readOrder_145 (lv_at hl 0 rfl) ?_
                    have z1033 : (σ1016 16 0).toInt = (σ 16 0).toInt := by rw [(show σ1016 16 0 = (σ 16 0) from (by rw [f1018 16 (by omega)]; exact (by rw [f1000 16 (by omega)]; exact (by rw [f962 16 (by omega)]; exact (by rw [f946 16 (by omega)]; exact (by rw [f934 16 (by omega)]; exact (by rw [f32 16 (by omega)]; exact (by rw [f11 16 (by omega)]))))))))]
                    have z1034 : (σ1016 16 1).toInt = (σ 16 1).toInt := by rw [(show σ1016 16 1 = (σ 16 1) from (by rw [f1018 16 (by omega)]; exact (by rw [f1000 16 (by omega)]; exact (by rw [f962 16 (by omega)]; exact (by rw [f946 16 (by omega)]; exact (by rw [f934 16 (by omega)]; exact (by rw [f32 16 (by omega)]; exact (by rw [f11 16 (by omega)]))))))))]
                    have z1035 : (σ1016 16 2).toInt = (σ 16 2).toInt := by rw [(show σ1016 16 2 = (σ 16 2) from (by rw [f1018 16 (by omega)]; exact (by rw [f1000 16 (by omega)]; exact (by rw [f962 16 (by omega)]; exact (by rw [f946 16 (by omega)]; exact (by rw [f934 16 (by omega)]; exact (by rw [f32 16 (by omega)]; exact (by rw [f11 16 (by omega)]))))))))]
                    have w1036 : ∀ k : Nat, k < 8 → 0 ≤ (σ1016 17 k).toInt ∧ (σ1016 17 k).toInt ≤ 3 := (by rw [f1018 17 (by omega)]; exact (by rw [f1000 17 (by omega)]; exact (by rw [f962 17 (by omega)]; exact (by rw [f946 17 (by omega)]; exact (by rw [f934 17 (by omega)]; exact (by rw [f32 17 (by omega)]; exact (by rw [f11 17 (by omega)]; exact w7)))))))
                    have I1037 : jI16 σ1016 := ⟨(by omega), (by omega), (by omega), w1036⟩
                    exact hret r1017 σ1016 τ _ _ _ _ rfl ⟨rfl, (fun i hi => by rw [f1018 i (by omega), f1000 i (by omega), f962 i (by omega), f946 i (by omega), f934 i (by omega), f32 i (by omega), f11 i (by omega)]), (fun k hk => by rw [f1019 k (by omega), f1001 k (by omega), f963 k (by omega), f947 k (by omega), f935 k (by omega), f33 k (by omega), f12 k (by omega)]), (fun k hk => by rw [f1018 16 (by omega), f1000 16 (by omega), f962 16 (by omega), f946 16 (by omega), f934 16 (by omega), f32 16 (by omega), f11 16 (by omega)]), I1020, I1037, trivial⟩ hP hS dX7_readOrder_147
              · have kc959 := jne c959 rfl jz_0
                refine lv_aload_n hx hb dX7_readOrder_88 rfl (lv_at hl 3 rfl) ?_
                refine va_get (D := D) hx hb hts inlX7 hown hK hP 9 (jc_9 cI cL ad σ944 τ) rfl 1 (by decide) (hts _ kw_13_17) (fun _ h9 => h9) rfl dX7_readOrder_89 ?_
                refine lv_istore (lv' := [(5, .int (σ944 9 1)), (4, .int 0), (3, .int 8), (2, .int x25), (0, .ref (ad 9)), (1, .ref (ad 16))]) hx hb dX7_readOrder_92 hl (by decide) rfl (fun ls hl => ?_)
                refine lv_aload_n hx hb dX7_readOrder_94 rfl (lv_at hl 4 rfl) ?_
                refine lv_iconst (v := 2) hx hb dX7_readOrder_95 (by decide) ?_
                refine jcallV (As := [.int 2]) (rest := []) ⟨hx, hb, hml, hown, hts⟩ hK hP hA hS hZ (c_X7_number_2 l D cI cL ad zz hJ σ944 τ I948 I949 I950) cw_RX7_53 (jc_9 cI cL ad σ944 τ) rfl ⟨Nat.le_of_ble_eq_true rfl, Nat.le_of_ble_eq_true rfl⟩ rfl rfl rfl hl.1 rfl (Nat.le_of_ble_eq_true rfl) dX7_readOrder_96 ⟨Nat.zero_le _, Nat.zero_le _⟩ (fun r1039 σ1038 τ1038 H locs h1038 hP hS => ?_)
                obtain ⟨rfl, f1040, f1041, I1042, I1043, I1044, h1038⟩ := h1038
                obtain ⟨i1045, w1046, w1047⟩ : (0 ≤ (σ1038 9 0).toInt ∧ (σ1038 9 0).toInt ≤ 80) ∧ (∀ k : Nat, k < 80 → 0 ≤ (σ1038 10 k).toInt ∧ (σ1038 10 k).toInt ≤ 255) ∧ (∀ k : Nat, k < 8 → 0 ≤ (σ1038 11 k).toInt ∧ (σ1038 11 k).toInt ≤ 3) := id I1042
                obtain ⟨i1048, i1049⟩ : (0 ≤ (σ1038 9 1).toInt) ∧ ((σ1038 9 1).toInt ≤ (σ1038 9 0).toInt) := id I1043
                have i1050 : (-1) ≤ (σ1038 9 2).toInt := I1044
                have z1051 : (σ1038 9 0).toInt = (σ 9 0).toInt := by rw [(show σ1038 9 0 = (σ 9 0) from (by rw [f1041 0 (by omega)]; exact (by rw [f947 0 (by omega)]; exact (by rw [f935 0 (by omega)]; exact (by rw [f33 0 (by omega)]; exact (by rw [f12 0 (by omega)]))))))]
                obtain ⟨k1052, h1038⟩ := h1038
                have h1053 := h1038
                obtain ⟨q1055, k1054⟩ := h1053
                refine lv_istore_n (lv' := [(3, .int r1039), (5, .int (σ944 9 1)), (4, .int 0), (2, .int x25), (0, .ref (ad 9)), (1, .ref (ad 16))]) hx hb dX7_readOrder_99 rfl hl (by decide) rfl (fun ls hl => ?_)
                refine lv_iload_n hx hb dX7_readOrder_100 rfl (lv_at hl 0 rfl) ?_
                refine lv_iconst (v := 1) hx hb dX7_readOrder_101 (by decide) ?_
                refine lv_icmp_lt (tgt := 111) hx hb dX7_readOrder_102 (by decide) (fun c1056 => ?_) (fun c1056 => ?_)
                · have kc1056 := jlt c1056 rfl jz_1
                  refine lv_aload_n hx hb dX7_readOrder_111 rfl (lv_at hl 4 rfl) ?_
                  refine lv_iload hx hb dX7_readOrder_112 (lv_at hl 1 rfl) ?_
                  refine jcallVv (As := [.int (σ944 9 1)]) (rest := []) ⟨hx, hb, hml, hown, hts⟩ hK hP hA hS hZ (c_X7_fail_9 l D cI cL ad zz hJ σ1038 τ (σ944 9 1) ((σ944 9 1).toInt) rfl I1044 (by omega)) cw_RX7_43 (jc_9 cI cL ad σ1038 τ) rfl ⟨Nat.le_of_ble_eq_true rfl, Nat.le_of_ble_eq_true rfl⟩ rfl rfl rfl hl.1 rfl (Nat.le_of_ble_eq_true rfl) dX7_readOrder_114 ⟨Nat.zero_le _, Nat.zero_le _⟩ (fun σ1057 τ1057 H locs h1057 hP hS => ?_)
                  obtain ⟨rfl, f1059, f1060, h1057⟩ := h1057
                  obtain ⟨k1061, h1057⟩ := h1057
                  refine lv_aload_n hx hb dX7_readOrder_117 rfl (lv_at hl 4 rfl) ?_
                  refine lv_bipush (v := 114) hx hb dX7_readOrder_118 (by decide) ?_
                  have z1062 : (σ1057 9 0).toInt = (σ 9 0).toInt := by rw [(show σ1057 9 0 = (σ 9 0) from (by rw [f1060 0 (by omega)]; exact (by rw [f1041 0 (by omega)]; exact (by rw [f947 0 (by omega)]; exact (by rw [f935 0 (by omega)]; exact (by rw [f33 0 (by omega)]; exact (by rw [f12 0 (by omega)])))))))]
                  have w1063 : ∀ k : Nat, k < 80 → 0 ≤ (σ1057 10 k).toInt ∧ (σ1057 10 k).toInt ≤ 255 := (by rw [f1059 10 (by omega)]; exact w1046)
                  have w1064 : ∀ k : Nat, k < 8 → 0 ≤ (σ1057 11 k).toInt ∧ (σ1057 11 k).toInt ≤ 3 := (by rw [f1059 11 (by omega)]; exact w1047)
                  have I1065 : jI9 σ1057 := ⟨(by omega), w1063, w1064⟩
                  have z1066 : (σ1057 9 1).toInt = (σ1038 9 1).toInt := by rw [(show σ1057 9 1 = (σ1038 9 1) from (by rw [f1060 1 (by omega)]))]
                  have I1067 : jI91 σ1057 := ⟨(by omega), (by omega)⟩
                  have I1068 : jI92 σ1057 := (show (-1) ≤ (σ1057 9 2).toInt by omega)
                  refine jcallV (As := [.int 114]) (rest := []) ⟨hx, hb, hml, hown, hts⟩ hK hP hA hS hZ (c_X7_skip_9 l D cI cL ad zz hJ σ1057 τ 114 (114) jz_114 I1065 I1067 I1068 (by omega)) cw_RX7_50 (jc_9 cI cL ad σ1057 τ) rfl ⟨Nat.le_of_ble_eq_true rfl, Nat.le_of_ble_eq_true rfl⟩ rfl rfl rfl hl.1 rfl (Nat.le_of_ble_eq_true rfl) dX7_readOrder_120 ⟨Nat.zero_le _, Nat.zero_le _⟩ (fun r1070 σ1069 τ1069 H locs h1069 hP hS => ?_)
                  obtain ⟨rfl, f1071, f1072, I1073, I1074, I1075, h1069⟩ := h1069
                  obtain ⟨i1076, w1077, w1078⟩ : (0 ≤ (σ1069 9 0).toInt ∧ (σ1069 9 0).toInt ≤ 80) ∧ (∀ k : Nat, k < 80 → 0 ≤ (σ1069 10 k).toInt ∧ (σ1069 10 k).toInt ≤ 255) ∧ (∀ k : Nat, k < 8 → 0 ≤ (σ1069 11 k).toInt ∧ (σ1069 11 k).toInt ≤ 3) := id I1073
                  obtain ⟨i1079, i1080⟩ : (0 ≤ (σ1069 9 1).toInt) ∧ ((σ1069 9 1).toInt ≤ (σ1069 9 0).toInt) := id I1074
                  have i1081 : (-1) ≤ (σ1069 9 2).toInt := I1075
                  have z1082 : (σ1069 9 0).toInt = (σ 9 0).toInt := by rw [(show σ1069 9 0 = (σ 9 0) from (by rw [f1072 0 (by omega)]; exact (by rw [f1060 0 (by omega)]; exact (by rw [f1041 0 (by omega)]; exact (by rw [f947 0 (by omega)]; exact (by rw [f935 0 (by omega)]; exact (by rw [f33 0 (by omega)]; exact (by rw [f12 0 (by omega)]))))))))]
                  have z1083 : (σ1069 9 2).toInt = (σ1057 9 2).toInt := by rw [(show σ1069 9 2 = (σ1057 9 2) from (by rw [f1072 2 (by omega)]))]
                  refine lv_if_eq (tgt := 133) hx hb dX7_readOrder_123 (by decide) (fun c1084 => ?_) (fun c1084 => ?_)
                  · have kc1084 := jeq c1084 rfl jz_0
                    refine lv_aload_n hx hb dX7_readOrder_133 rfl (lv_at hl 4 rfl) ?_
                    refine jcallV (As := []) (rest := []) ⟨hx, hb, hml, hown, hts⟩ hK hP hA hS hZ (c_X7_end_9 l D cI cL ad zz hJ σ1069 τ I1073 I1074 I1075) cw_RX7_57 (jc_9 cI cL ad σ1069 τ) rfl ⟨Nat.le_of_ble_eq_true rfl, Nat.le_of_ble_eq_true rfl⟩ rfl rfl rfl hl.1 rfl (Nat.le_of_ble_eq_true rfl) dX7_readOrder_134 ⟨Nat.zero_le _, Nat.zero_le _⟩ (fun r1086 σ1085 τ1085 H locs h1085 hP hS => ?_)
                    obtain ⟨rfl, f1087, f1088, I1089, I1090, h1085⟩ := h1085
                    obtain ⟨i1091, w1092, w1093⟩ : (0 ≤ (σ1085 9 0).toInt ∧ (σ1085 9 0).toInt ≤ 80) ∧ (∀ k : Nat, k < 80 → 0 ≤ (σ1085 10 k).toInt ∧ (σ1085 10 k).toInt ≤ 255) ∧ (∀ k : Nat, k < 8 → 0 ≤ (σ1085 11 k).toInt ∧ (σ1085 11 k).toInt ≤ 3) := id I1089
                    have i1094 : (-1) ≤ (σ1085 9 2).toInt := I1090
                    rcases h1085 with h1095 | h1096
                    · obtain ⟨q1098, k1097⟩ := h1095
                      exact absurd (by omega : False) id
                    · obtain ⟨q1100, k1099⟩ := h1096
                      refine lv_istore (lv' := [(5, .int r1086), (3, .int r1039), (4, .int 0), (2, .int x25), (0, .ref (ad 9)), (1, .ref (ad 16))]) hx hb dX7_readOrder_137 hl (by decide) rfl (fun ls hl => ?_)
                      refine lv_iload hx hb dX7_readOrder_139 (lv_at hl 0 rfl) ?_
                      refine lv_iconst (v := (-1)) hx hb dX7_readOrder_141 (by decide) ?_
                      refine lv_icmp_eq (tgt := 148) hx hb dX7_readOrder_142 (by decide) (fun c => absurd (jeq c rfl jz_m1) (by omega)) (fun c1101 => ?_)
                      have kc1101 := jne c1101 rfl jz_m1
                      refine lv_iload hx hb dX7_readOrder_145 (lv_at hl 0 rfl) ?_
                      have z1102 : (σ1085 16 0).toInt = (σ 16 0).toInt := by rw [(show σ1085 16 0 = (σ 16 0) from (by rw [f1087 16 (by omega)]; exact (by rw [f1071 16 (by omega)]; exact (by rw [f1059 16 (by omega)]; exact (by rw [f1040 16 (by omega)]; exact (by rw [f946 16 (by omega)]; exact (by rw [f934 16 (by omega)]; exact (by rw [f32 16 (by omega)]; exact (by rw [f11 16 (by omega)])))))))))]
                      have z1103 : (σ1085 16 1).toInt = (σ 16 1).toInt := by rw [(show σ1085 16 1 = (σ 16 1) from (by rw [f1087 16 (by omega)]; exact (by rw [f1071 16 (by omega)]; exact (by rw [f1059 16 (by omega)]; exact (by rw [f1040 16 (by omega)]; exact (by rw [f946 16 (by omega)]; exact (by rw [f934 16 (by omega)]; exact (by rw [f32 16 (by omega)]; exact (by rw [f11 16 (by omega)])))))))))]
                      have z1104 : (σ1085 16 2).toInt = (σ 16 2).toInt := by rw [(show σ1085 16 2 = (σ 16 2) from (by rw [f1087 16 (by omega)]; exact (by rw [f1071 16 (by omega)]; exact (by rw [f1059 16 (by omega)]; exact (by rw [f1040 16 (by omega)]; exact (by rw [f946 16 (by omega)]; exact (by rw [f934 16 (by omega)]; exact (by rw [f32 16 (by omega)]; exact (by rw [f11 16 (by omega)])))))))))]
                      have w1105 : ∀ k : Nat, k < 8 → 0 ≤ (σ1085 17 k).toInt ∧ (σ1085 17 k).toInt ≤ 3 := (by rw [f1087 17 (by omega)]; exact (by rw [f1071 17 (by omega)]; exact (by rw [f1059 17 (by omega)]; exact (by rw [f1040 17 (by omega)]; exact (by rw [f946 17 (by omega)]; exact (by rw [f934 17 (by omega)]; exact (by rw [f32 17 (by omega)]; exact (by rw [f11 17 (by omega)]; exact w7))))))))
                      have I1106 : jI16 σ1085 := ⟨(by omega), (by omega), (by omega), w1105⟩
                      exact hret r1086 σ1085 τ _ _ _ _ rfl ⟨rfl, (fun i hi => by rw [f1087 i (by omega), f1071 i (by omega), f1059 i (by omega), f1040 i (by omega), f946 i (by omega), f934 i (by omega), f32 i (by omega), f11 i (by omega)]), (fun k hk => by rw [f1088 k (by omega), f1072 k (by omega), f1060 k (by omega), f1041 k (by omega), f947 k (by omega), f935 k (by omega), f33 k (by omega), f12 k (by omega)]), (fun k hk => by rw [f1087 16 (by omega), f1071 16 (by omega), f1059 16 (by omega), f1040 16 (by omega), f946 16 (by omega), f934 16 (by omega), f32 16 (by omega), f11 16 (by omega)]), I1089, I1106, trivial⟩ hP hS dX7_readOrder_147
                  · have kc1084 := jne c1084 rfl jz_0
                    refine lv_aload_n hx hb dX7_readOrder_126 rfl (lv_at hl 4 rfl) ?_
                    refine lv_iconst (v := 3) hx hb dX7_readOrder_127 (by decide) ?_
                    refine jcallV (As := [.int 3]) (rest := []) ⟨hx, hb, hml, hown, hts⟩ hK hP hA hS hZ (c_X7_number_3 l D cI cL ad zz hJ σ1069 τ I1073 I1074 I1075) cw_RX7_53 (jc_9 cI cL ad σ1069 τ) rfl ⟨Nat.le_of_ble_eq_true rfl, Nat.le_of_ble_eq_true rfl⟩ rfl rfl rfl hl.1 rfl (Nat.le_of_ble_eq_true rfl) dX7_readOrder_128 ⟨Nat.zero_le _, Nat.zero_le _⟩ (fun r1108 σ1107 τ1107 H locs h1107 hP hS => ?_)
                    obtain ⟨rfl, f1109, f1110, I1111, I1112, I1113, h1107⟩ := h1107
                    obtain ⟨i1114, w1115, w1116⟩ : (0 ≤ (σ1107 9 0).toInt ∧ (σ1107 9 0).toInt ≤ 80) ∧ (∀ k : Nat, k < 80 → 0 ≤ (σ1107 10 k).toInt ∧ (σ1107 10 k).toInt ≤ 255) ∧ (∀ k : Nat, k < 8 → 0 ≤ (σ1107 11 k).toInt ∧ (σ1107 11 k).toInt ≤ 3) := id I1111
                    obtain ⟨i1117, i1118⟩ : (0 ≤ (σ1107 9 1).toInt) ∧ ((σ1107 9 1).toInt ≤ (σ1107 9 0).toInt) := id I1112
                    have i1119 : (-1) ≤ (σ1107 9 2).toInt := I1113
                    have z1120 : (σ1107 9 0).toInt = (σ 9 0).toInt := by rw [(show σ1107 9 0 = (σ 9 0) from (by rw [f1110 0 (by omega)]; exact (by rw [f1072 0 (by omega)]; exact (by rw [f1060 0 (by omega)]; exact (by rw [f1041 0 (by omega)]; exact (by rw [f947 0 (by omega)]; exact (by rw [f935 0 (by omega)]; exact (by rw [f33 0 (by omega)]; exact (by rw [f12 0 (by omega)])))))))))]
                    obtain ⟨k1121, h1107⟩ := h1107
                    have h1122 := h1107
                    obtain ⟨q1124, k1123⟩ := h1122
                    refine lv_istore (lv' := [(4, .int r1108), (3, .int r1039), (5, .int (σ944 9 1)), (2, .int x25), (0, .ref (ad 9)), (1, .ref (ad 16))]) hx hb dX7_readOrder_131 hl (by decide) rfl (fun ls hl => ?_)
                    refine lv_aload_n hx hb dX7_readOrder_133 rfl (lv_at hl 4 rfl) ?_
                    refine jcallV (As := []) (rest := []) ⟨hx, hb, hml, hown, hts⟩ hK hP hA hS hZ (c_X7_end_9 l D cI cL ad zz hJ σ1107 τ I1111 I1112 I1113) cw_RX7_57 (jc_9 cI cL ad σ1107 τ) rfl ⟨Nat.le_of_ble_eq_true rfl, Nat.le_of_ble_eq_true rfl⟩ rfl rfl rfl hl.1 rfl (Nat.le_of_ble_eq_true rfl) dX7_readOrder_134 ⟨Nat.zero_le _, Nat.zero_le _⟩ (fun r1126 σ1125 τ1125 H locs h1125 hP hS => ?_)
                    obtain ⟨rfl, f1127, f1128, I1129, I1130, h1125⟩ := h1125
                    obtain ⟨i1131, w1132, w1133⟩ : (0 ≤ (σ1125 9 0).toInt ∧ (σ1125 9 0).toInt ≤ 80) ∧ (∀ k : Nat, k < 80 → 0 ≤ (σ1125 10 k).toInt ∧ (σ1125 10 k).toInt ≤ 255) ∧ (∀ k : Nat, k < 8 → 0 ≤ (σ1125 11 k).toInt ∧ (σ1125 11 k).toInt ≤ 3) := id I1129
                    have i1134 : (-1) ≤ (σ1125 9 2).toInt := I1130
                    rcases h1125 with h1135 | h1136
                    · obtain ⟨q1138, k1137⟩ := h1135
                      exact absurd (by omega : False) id
                    · obtain ⟨q1140, k1139⟩ := h1136
                      refine lv_istore (lv' := [(5, .int r1126), (4, .int r1108), (3, .int r1039), (2, .int x25), (0, .ref (ad 9)), (1, .ref (ad 16))]) hx hb dX7_readOrder_137 hl (by decide) rfl (fun ls hl => ?_)
                      refine lv_iload hx hb dX7_readOrder_139 (lv_at hl 0 rfl) ?_
                      refine lv_iconst (v := (-1)) hx hb dX7_readOrder_141 (by decide) ?_
                      refine lv_icmp_eq (tgt := 148) hx hb dX7_readOrder_142 (by decide) (fun c => absurd (jeq c rfl jz_m1) (by omega)) (fun c1141 => ?_)
                      have kc1141 := jne c1141 rfl jz_m1
                      refine lv_iload hx hb dX7_readOrder_145 (lv_at hl 0 rfl) ?_
                      have z1142 : (σ1125 16 0).toInt = (σ 16 0).toInt := by rw [(show σ1125 16 0 = (σ 16 0) from (by rw [f1127 16 (by omega)]; exact (by rw [f1109 16 (by omega)]; exact (by rw [f1071 16 (by omega)]; exact (by rw [f1059 16 (by omega)]; exact (by rw [f1040 16 (by omega)]; exact (by rw [f946 16 (by omega)]; exact (by rw [f934 16 (by omega)]; exact (by rw [f32 16 (by omega)]; exact (by rw [f11 16 (by omega)]))))))))))]
                      have z1143 : (σ1125 16 1).toInt = (σ 16 1).toInt := by rw [(show σ1125 16 1 = (σ 16 1) from (by rw [f1127 16 (by omega)]; exact (by rw [f1109 16 (by omega)]; exact (by rw [f1071 16 (by omega)]; exact (by rw [f1059 16 (by omega)]; exact (by rw [f1040 16 (by omega)]; exact (by rw [f946 16 (by omega)]; exact (by rw [f934 16 (by omega)]; exact (by rw [f32 16 (by omega)]; exact (by rw [f11 16 (by omega)]))))))))))]
                      have z1144 : (σ1125 16 2).toInt = (σ 16 2).toInt := by rw [(show σ1125 16 2 = (σ 16 2) from (by rw [f1127 16 (by omega)]; exact (by rw [f1109 16 (by omega)]; exact (by rw [f1071 16 (by omega)]; exact (by rw [f1059 16 (by omega)]; exact (by rw [f1040 16 (by omega)]; exact (by rw [f946 16 (by omega)]; exact (by rw [f934 16 (by omega)]; exact (by rw [f32 16 (by omega)]; exact (by rw [f11 16 (by omega)]))))))))))]
                      have w1145 : ∀ k : Nat, k < 8 → 0 ≤ (σ1125 17 k).toInt ∧ (σ1125 17 k).toInt ≤ 3 := (by rw [f1127 17 (by omega)]; exact (by rw [f1109 17 (by omega)]; exact (by rw [f1071 17 (by omega)]; exact (by rw [f1059 17 (by omega)]; exact (by rw [f1040 17 (by omega)]; exact (by rw [f946 17 (by omega)]; exact (by rw [f934 17 (by omega)]; exact (by rw [f32 17 (by omega)]; exact (by rw [f11 17 (by omega)]; exact w7)))))))))
                      have I1146 : jI16 σ1125 := ⟨(by omega), (by omega), (by omega), w1145⟩
                      exact hret r1126 σ1125 τ _ _ _ _ rfl ⟨rfl, (fun i hi => by rw [f1127 i (by omega), f1109 i (by omega), f1071 i (by omega), f1059 i (by omega), f1040 i (by omega), f946 i (by omega), f934 i (by omega), f32 i (by omega), f11 i (by omega)]), (fun k hk => by rw [f1128 k (by omega), f1110 k (by omega), f1072 k (by omega), f1060 k (by omega), f1041 k (by omega), f947 k (by omega), f935 k (by omega), f33 k (by omega), f12 k (by omega)]), (fun k hk => by rw [f1127 16 (by omega), f1109 16 (by omega), f1071 16 (by omega), f1059 16 (by omega), f1040 16 (by omega), f946 16 (by omega), f934 16 (by omega), f32 16 (by omega), f11 16 (by omega)]), I1129, I1146, trivial⟩ hP hS dX7_readOrder_147
                · have kc1056 := jnlt c1056 rfl jz_1
                  refine lv_iload_n hx hb dX7_readOrder_105 rfl (lv_at hl 0 rfl) ?_
                  refine lv_bipush (v := 12) hx hb dX7_readOrder_106 (by decide) ?_
                  refine lv_icmp_le (tgt := 117) hx hb dX7_readOrder_108 (by decide) (fun c1147 => ?_) (fun c1147 => ?_)
                  · have kc1147 := jle c1147 rfl jz_12
                    refine lv_aload_n hx hb dX7_readOrder_117 rfl (lv_at hl 4 rfl) ?_
                    refine lv_bipush (v := 114) hx hb dX7_readOrder_118 (by decide) ?_
                    refine jcallV (As := [.int 114]) (rest := []) ⟨hx, hb, hml, hown, hts⟩ hK hP hA hS hZ (c_X7_skip_9 l D cI cL ad zz hJ σ1038 τ 114 (114) jz_114 I1042 I1043 I1044 (by omega)) cw_RX7_50 (jc_9 cI cL ad σ1038 τ) rfl ⟨Nat.le_of_ble_eq_true rfl, Nat.le_of_ble_eq_true rfl⟩ rfl rfl rfl hl.1 rfl (Nat.le_of_ble_eq_true rfl) dX7_readOrder_120 ⟨Nat.zero_le _, Nat.zero_le _⟩ (fun r1149 σ1148 τ1148 H locs h1148 hP hS => ?_)
                    obtain ⟨rfl, f1150, f1151, I1152, I1153, I1154, h1148⟩ := h1148
                    obtain ⟨i1155, w1156, w1157⟩ : (0 ≤ (σ1148 9 0).toInt ∧ (σ1148 9 0).toInt ≤ 80) ∧ (∀ k : Nat, k < 80 → 0 ≤ (σ1148 10 k).toInt ∧ (σ1148 10 k).toInt ≤ 255) ∧ (∀ k : Nat, k < 8 → 0 ≤ (σ1148 11 k).toInt ∧ (σ1148 11 k).toInt ≤ 3) := id I1152
                    obtain ⟨i1158, i1159⟩ : (0 ≤ (σ1148 9 1).toInt) ∧ ((σ1148 9 1).toInt ≤ (σ1148 9 0).toInt) := id I1153
                    have i1160 : (-1) ≤ (σ1148 9 2).toInt := I1154
                    have z1161 : (σ1148 9 0).toInt = (σ 9 0).toInt := by rw [(show σ1148 9 0 = (σ 9 0) from (by rw [f1151 0 (by omega)]; exact (by rw [f1041 0 (by omega)]; exact (by rw [f947 0 (by omega)]; exact (by rw [f935 0 (by omega)]; exact (by rw [f33 0 (by omega)]; exact (by rw [f12 0 (by omega)])))))))]
                    have z1162 : (σ1148 9 2).toInt = (σ1038 9 2).toInt := by rw [(show σ1148 9 2 = (σ1038 9 2) from (by rw [f1151 2 (by omega)]))]
                    refine lv_if_eq (tgt := 133) hx hb dX7_readOrder_123 (by decide) (fun c1163 => ?_) (fun c1163 => ?_)
                    · have kc1163 := jeq c1163 rfl jz_0
                      refine lv_aload_n hx hb dX7_readOrder_133 rfl (lv_at hl 4 rfl) ?_
                      refine jcallV (As := []) (rest := []) ⟨hx, hb, hml, hown, hts⟩ hK hP hA hS hZ (c_X7_end_9 l D cI cL ad zz hJ σ1148 τ I1152 I1153 I1154) cw_RX7_57 (jc_9 cI cL ad σ1148 τ) rfl ⟨Nat.le_of_ble_eq_true rfl, Nat.le_of_ble_eq_true rfl⟩ rfl rfl rfl hl.1 rfl (Nat.le_of_ble_eq_true rfl) dX7_readOrder_134 ⟨Nat.zero_le _, Nat.zero_le _⟩ (fun r1165 σ1164 τ1164 H locs h1164 hP hS => ?_)
                      obtain ⟨rfl, f1166, f1167, I1168, I1169, h1164⟩ := h1164
                      obtain ⟨i1170, w1171, w1172⟩ : (0 ≤ (σ1164 9 0).toInt ∧ (σ1164 9 0).toInt ≤ 80) ∧ (∀ k : Nat, k < 80 → 0 ≤ (σ1164 10 k).toInt ∧ (σ1164 10 k).toInt ≤ 255) ∧ (∀ k : Nat, k < 8 → 0 ≤ (σ1164 11 k).toInt ∧ (σ1164 11 k).toInt ≤ 3) := id I1168
                      have i1173 : (-1) ≤ (σ1164 9 2).toInt := I1169
                      rcases h1164 with h1174 | h1175
                      · obtain ⟨q1177, k1176⟩ := h1174
                        exact absurd (by omega : False) id
                      · obtain ⟨q1179, k1178⟩ := h1175
                        refine lv_istore (lv' := [(5, .int r1165), (3, .int r1039), (4, .int 0), (2, .int x25), (0, .ref (ad 9)), (1, .ref (ad 16))]) hx hb dX7_readOrder_137 hl (by decide) rfl (fun ls hl => ?_)
                        refine lv_iload hx hb dX7_readOrder_139 (lv_at hl 0 rfl) ?_
                        refine lv_iconst (v := (-1)) hx hb dX7_readOrder_141 (by decide) ?_
                        refine lv_icmp_eq (tgt := 148) hx hb dX7_readOrder_142 (by decide) (fun c => absurd (jeq c rfl jz_m1) (by omega)) (fun c1180 => ?_)
                        have kc1180 := jne c1180 rfl jz_m1
                        refine lv_iload hx hb dX7_readOrder_145 (lv_at hl 0 rfl) ?_
                        have z1181 : (σ1164 16 0).toInt = (σ 16 0).toInt := by rw [(show σ1164 16 0 = (σ 16 0) from (by rw [f1166 16 (by omega)]; exact (by rw [f1150 16 (by omega)]; exact (by rw [f1040 16 (by omega)]; exact (by rw [f946 16 (by omega)]; exact (by rw [f934 16 (by omega)]; exact (by rw [f32 16 (by omega)]; exact (by rw [f11 16 (by omega)]))))))))]
                        have z1182 : (σ1164 16 1).toInt = (σ 16 1).toInt := by rw [(show σ1164 16 1 = (σ 16 1) from (by rw [f1166 16 (by omega)]; exact (by rw [f1150 16 (by omega)]; exact (by rw [f1040 16 (by omega)]; exact (by rw [f946 16 (by omega)]; exact (by rw [f934 16 (by omega)]; exact (by rw [f32 16 (by omega)]; exact (by rw [f11 16 (by omega)]))))))))]
                        have z1183 : (σ1164 16 2).toInt = (σ 16 2).toInt := by rw [(show σ1164 16 2 = (σ 16 2) from (by rw [f1166 16 (by omega)]; exact (by rw [f1150 16 (by omega)]; exact (by rw [f1040 16 (by omega)]; exact (by rw [f946 16 (by omega)]; exact (by rw [f934 16 (by omega)]; exact (by rw [f32 16 (by omega)]; exact (by rw [f11 16 (by omega)]))))))))]
                        have w1184 : ∀ k : Nat, k < 8 → 0 ≤ (σ1164 17 k).toInt ∧ (σ1164 17 k).toInt ≤ 3 := (by rw [f1166 17 (by omega)]; exact (by rw [f1150 17 (by omega)]; exact (by rw [f1040 17 (by omega)]; exact (by rw [f946 17 (by omega)]; exact (by rw [f934 17 (by omega)]; exact (by rw [f32 17 (by omega)]; exact (by rw [f11 17 (by omega)]; exact w7)))))))
                        have I1185 : jI16 σ1164 := ⟨(by omega), (by omega), (by omega), w1184⟩
                        exact hret r1165 σ1164 τ _ _ _ _ rfl ⟨rfl, (fun i hi => by rw [f1166 i (by omega), f1150 i (by omega), f1040 i (by omega), f946 i (by omega), f934 i (by omega), f32 i (by omega), f11 i (by omega)]), (fun k hk => by rw [f1167 k (by omega), f1151 k (by omega), f1041 k (by omega), f947 k (by omega), f935 k (by omega), f33 k (by omega), f12 k (by omega)]), (fun k hk => by rw [f1166 16 (by omega), f1150 16 (by omega), f1040 16 (by omega), f946 16 (by omega), f934 16 (by omega), f32 16 (by omega), f11 16 (by omega)]), I1168, I1185, trivial⟩ hP hS dX7_readOrder_147
                    · have kc1163 := jne c1163 rfl jz_0
                      refine lv_aload_n hx hb dX7_readOrder_126 rfl (lv_at hl 4 rfl) ?_
                      refine lv_iconst (v := 3) hx hb dX7_readOrder_127 (by decide) ?_
                      refine jcallV (As := [.int 3]) (rest := []) ⟨hx, hb, hml, hown, hts⟩ hK hP hA hS hZ (c_X7_number_3 l D cI cL ad zz hJ σ1148 τ I1152 I1153 I1154) cw_RX7_53 (jc_9 cI cL ad σ1148 τ) rfl ⟨Nat.le_of_ble_eq_true rfl, Nat.le_of_ble_eq_true rfl⟩ rfl rfl rfl hl.1 rfl (Nat.le_of_ble_eq_true rfl) dX7_readOrder_128 ⟨Nat.zero_le _, Nat.zero_le _⟩ (fun r1187 σ1186 τ1186 H locs h1186 hP hS => ?_)
                      obtain ⟨rfl, f1188, f1189, I1190, I1191, I1192, h1186⟩ := h1186
                      obtain ⟨i1193, w1194, w1195⟩ : (0 ≤ (σ1186 9 0).toInt ∧ (σ1186 9 0).toInt ≤ 80) ∧ (∀ k : Nat, k < 80 → 0 ≤ (σ1186 10 k).toInt ∧ (σ1186 10 k).toInt ≤ 255) ∧ (∀ k : Nat, k < 8 → 0 ≤ (σ1186 11 k).toInt ∧ (σ1186 11 k).toInt ≤ 3) := id I1190
                      obtain ⟨i1196, i1197⟩ : (0 ≤ (σ1186 9 1).toInt) ∧ ((σ1186 9 1).toInt ≤ (σ1186 9 0).toInt) := id I1191
                      have i1198 : (-1) ≤ (σ1186 9 2).toInt := I1192
                      have z1199 : (σ1186 9 0).toInt = (σ 9 0).toInt := by rw [(show σ1186 9 0 = (σ 9 0) from (by rw [f1189 0 (by omega)]; exact (by rw [f1151 0 (by omega)]; exact (by rw [f1041 0 (by omega)]; exact (by rw [f947 0 (by omega)]; exact (by rw [f935 0 (by omega)]; exact (by rw [f33 0 (by omega)]; exact (by rw [f12 0 (by omega)]))))))))]
                      obtain ⟨k1200, h1186⟩ := h1186
                      have h1201 := h1186
                      obtain ⟨q1203, k1202⟩ := h1201
                      refine lv_istore (lv' := [(4, .int r1187), (3, .int r1039), (5, .int (σ944 9 1)), (2, .int x25), (0, .ref (ad 9)), (1, .ref (ad 16))]) hx hb dX7_readOrder_131 hl (by decide) rfl (fun ls hl => ?_)
                      refine lv_aload_n hx hb dX7_readOrder_133 rfl (lv_at hl 4 rfl) ?_
                      refine jcallV (As := []) (rest := []) ⟨hx, hb, hml, hown, hts⟩ hK hP hA hS hZ (c_X7_end_9 l D cI cL ad zz hJ σ1186 τ I1190 I1191 I1192) cw_RX7_57 (jc_9 cI cL ad σ1186 τ) rfl ⟨Nat.le_of_ble_eq_true rfl, Nat.le_of_ble_eq_true rfl⟩ rfl rfl rfl hl.1 rfl (Nat.le_of_ble_eq_true rfl) dX7_readOrder_134 ⟨Nat.zero_le _, Nat.zero_le _⟩ (fun r1205 σ1204 τ1204 H locs h1204 hP hS => ?_)
                      obtain ⟨rfl, f1206, f1207, I1208, I1209, h1204⟩ := h1204
                      obtain ⟨i1210, w1211, w1212⟩ : (0 ≤ (σ1204 9 0).toInt ∧ (σ1204 9 0).toInt ≤ 80) ∧ (∀ k : Nat, k < 80 → 0 ≤ (σ1204 10 k).toInt ∧ (σ1204 10 k).toInt ≤ 255) ∧ (∀ k : Nat, k < 8 → 0 ≤ (σ1204 11 k).toInt ∧ (σ1204 11 k).toInt ≤ 3) := id I1208
                      have i1213 : (-1) ≤ (σ1204 9 2).toInt := I1209
                      rcases h1204 with h1214 | h1215
                      · obtain ⟨q1217, k1216⟩ := h1214
                        exact absurd (by omega : False) id
                      · obtain ⟨q1219, k1218⟩ := h1215
                        refine lv_istore (lv' := [(5, .int r1205), (4, .int r1187), (3, .int r1039), (2, .int x25), (0, .ref (ad 9)), (1, .ref (ad 16))]) hx hb dX7_readOrder_137 hl (by decide) rfl (fun ls hl => ?_)
                        refine lv_iload hx hb dX7_readOrder_139 (lv_at hl 0 rfl) ?_
                        refine lv_iconst (v := (-1)) hx hb dX7_readOrder_141 (by decide) ?_
                        refine lv_icmp_eq (tgt := 148) hx hb dX7_readOrder_142 (by decide) (fun c => absurd (jeq c rfl jz_m1) (by omega)) (fun c1220 => ?_)
                        have kc1220 := jne c1220 rfl jz_m1
                        refine lv_iload hx hb dX7_readOrder_145 (lv_at hl 0 rfl) ?_
                        have z1221 : (σ1204 16 0).toInt = (σ 16 0).toInt := by rw [(show σ1204 16 0 = (σ 16 0) from (by rw [f1206 16 (by omega)]; exact (by rw [f1188 16 (by omega)]; exact (by rw [f1150 16 (by omega)]; exact (by rw [f1040 16 (by omega)]; exact (by rw [f946 16 (by omega)]; exact (by rw [f934 16 (by omega)]; exact (by rw [f32 16 (by omega)]; exact (by rw [f11 16 (by omega)])))))))))]
                        have z1222 : (σ1204 16 1).toInt = (σ 16 1).toInt := by rw [(show σ1204 16 1 = (σ 16 1) from (by rw [f1206 16 (by omega)]; exact (by rw [f1188 16 (by omega)]; exact (by rw [f1150 16 (by omega)]; exact (by rw [f1040 16 (by omega)]; exact (by rw [f946 16 (by omega)]; exact (by rw [f934 16 (by omega)]; exact (by rw [f32 16 (by omega)]; exact (by rw [f11 16 (by omega)])))))))))]
                        have z1223 : (σ1204 16 2).toInt = (σ 16 2).toInt := by rw [(show σ1204 16 2 = (σ 16 2) from (by rw [f1206 16 (by omega)]; exact (by rw [f1188 16 (by omega)]; exact (by rw [f1150 16 (by omega)]; exact (by rw [f1040 16 (by omega)]; exact (by rw [f946 16 (by omega)]; exact (by rw [f934 16 (by omega)]; exact (by rw [f32 16 (by omega)]; exact (by rw [f11 16 (by omega)])))))))))]
                        have w1224 : ∀ k : Nat, k < 8 → 0 ≤ (σ1204 17 k).toInt ∧ (σ1204 17 k).toInt ≤ 3 := (by rw [f1206 17 (by omega)]; exact (by rw [f1188 17 (by omega)]; exact (by rw [f1150 17 (by omega)]; exact (by rw [f1040 17 (by omega)]; exact (by rw [f946 17 (by omega)]; exact (by rw [f934 17 (by omega)]; exact (by rw [f32 17 (by omega)]; exact (by rw [f11 17 (by omega)]; exact w7))))))))
                        have I1225 : jI16 σ1204 := ⟨(by omega), (by omega), (by omega), w1224⟩
                        exact hret r1205 σ1204 τ _ _ _ _ rfl ⟨rfl, (fun i hi => by rw [f1206 i (by omega), f1188 i (by omega), f1150 i (by omega), f1040 i (by omega), f946 i (by omega), f934 i (by omega), f32 i (by omega), f11 i (by omega)]), (fun k hk => by rw [f1207 k (by omega), f1189 k (by omega), f1151 k (by omega), f1041 k (by omega), f947 k (by omega), f935 k (by omega), f33 k (by omega), f12 k (by omega)]), (fun k hk => by rw [f1206 16 (by omega), f1188 16 (by omega), f1150 16 (by omega), f1040 16 (by omega), f946 16 (by omega), f934 16 (by omega), f32 16 (by omega), f11 16 (by omega)]), I1208, I1225, trivial⟩ hP hS dX7_readOrder_147
                  · have kc1147 := jnle c1147 rfl jz_12
                    refine lv_aload_n hx hb dX7_readOrder_111 rfl (lv_at hl 4 rfl) ?_
                    refine lv_iload hx hb dX7_readOrder_112 (lv_at hl 1 rfl) ?_
                    refine jcallVv (As := [.int (σ944 9 1)]) (rest := []) ⟨hx, hb, hml, hown, hts⟩ hK hP hA hS hZ (c_X7_fail_9 l D cI cL ad zz hJ σ1038 τ (σ944 9 1) ((σ944 9 1).toInt) rfl I1044 (by omega)) cw_RX7_43 (jc_9 cI cL ad σ1038 τ) rfl ⟨Nat.le_of_ble_eq_true rfl, Nat.le_of_ble_eq_true rfl⟩ rfl rfl rfl hl.1 rfl (Nat.le_of_ble_eq_true rfl) dX7_readOrder_114 ⟨Nat.zero_le _, Nat.zero_le _⟩ (fun σ1226 τ1226 H locs h1226 hP hS => ?_)
                    obtain ⟨rfl, f1228, f1229, h1226⟩ := h1226
                    obtain ⟨k1230, h1226⟩ := h1226
                    refine lv_aload_n hx hb dX7_readOrder_117 rfl (lv_at hl 4 rfl) ?_
                    refine lv_bipush (v := 114) hx hb dX7_readOrder_118 (by decide) ?_
                    have z1231 : (σ1226 9 0).toInt = (σ 9 0).toInt := by rw [(show σ1226 9 0 = (σ 9 0) from (by rw [f1229 0 (by omega)]; exact (by rw [f1041 0 (by omega)]; exact (by rw [f947 0 (by omega)]; exact (by rw [f935 0 (by omega)]; exact (by rw [f33 0 (by omega)]; exact (by rw [f12 0 (by omega)])))))))]
                    have w1232 : ∀ k : Nat, k < 80 → 0 ≤ (σ1226 10 k).toInt ∧ (σ1226 10 k).toInt ≤ 255 := (by rw [f1228 10 (by omega)]; exact w1046)
                    have w1233 : ∀ k : Nat, k < 8 → 0 ≤ (σ1226 11 k).toInt ∧ (σ1226 11 k).toInt ≤ 3 := (by rw [f1228 11 (by omega)]; exact w1047)
                    have I1234 : jI9 σ1226 := ⟨(by omega), w1232, w1233⟩
                    have z1235 : (σ1226 9 1).toInt = (σ1038 9 1).toInt := by rw [(show σ1226 9 1 = (σ1038 9 1) from (by rw [f1229 1 (by omega)]))]
                    have I1236 : jI91 σ1226 := ⟨(by omega), (by omega)⟩
                    have I1237 : jI92 σ1226 := (show (-1) ≤ (σ1226 9 2).toInt by omega)
                    refine jcallV (As := [.int 114]) (rest := []) ⟨hx, hb, hml, hown, hts⟩ hK hP hA hS hZ (c_X7_skip_9 l D cI cL ad zz hJ σ1226 τ 114 (114) jz_114 I1234 I1236 I1237 (by omega)) cw_RX7_50 (jc_9 cI cL ad σ1226 τ) rfl ⟨Nat.le_of_ble_eq_true rfl, Nat.le_of_ble_eq_true rfl⟩ rfl rfl rfl hl.1 rfl (Nat.le_of_ble_eq_true rfl) dX7_readOrder_120 ⟨Nat.zero_le _, Nat.zero_le _⟩ (fun r1239 σ1238 τ1238 H locs h1238 hP hS => ?_)
                    obtain ⟨rfl, f1240, f1241, I1242, I1243, I1244, h1238⟩ := h1238
                    obtain ⟨i1245, w1246, w1247⟩ : (0 ≤ (σ1238 9 0).toInt ∧ (σ1238 9 0).toInt ≤ 80) ∧ (∀ k : Nat, k < 80 → 0 ≤ (σ1238 10 k).toInt ∧ (σ1238 10 k).toInt ≤ 255) ∧ (∀ k : Nat, k < 8 → 0 ≤ (σ1238 11 k).toInt ∧ (σ1238 11 k).toInt ≤ 3) := id I1242
                    obtain ⟨i1248, i1249⟩ : (0 ≤ (σ1238 9 1).toInt) ∧ ((σ1238 9 1).toInt ≤ (σ1238 9 0).toInt) := id I1243
                    have i1250 : (-1) ≤ (σ1238 9 2).toInt := I1244
                    have z1251 : (σ1238 9 0).toInt = (σ 9 0).toInt := by rw [(show σ1238 9 0 = (σ 9 0) from (by rw [f1241 0 (by omega)]; exact (by rw [f1229 0 (by omega)]; exact (by rw [f1041 0 (by omega)]; exact (by rw [f947 0 (by omega)]; exact (by rw [f935 0 (by omega)]; exact (by rw [f33 0 (by omega)]; exact (by rw [f12 0 (by omega)]))))))))]
                    have z1252 : (σ1238 9 2).toInt = (σ1226 9 2).toInt := by rw [(show σ1238 9 2 = (σ1226 9 2) from (by rw [f1241 2 (by omega)]))]
                    refine lv_if_eq (tgt := 133) hx hb dX7_readOrder_123 (by decide) (fun c1253 => ?_) (fun c1253 => ?_)
                    · have kc1253 := jeq c1253 rfl jz_0
                      refine lv_aload_n hx hb dX7_readOrder_133 rfl (lv_at hl 4 rfl) ?_
                      refine jcallV (As := []) (rest := []) ⟨hx, hb, hml, hown, hts⟩ hK hP hA hS hZ (c_X7_end_9 l D cI cL ad zz hJ σ1238 τ I1242 I1243 I1244) cw_RX7_57 (jc_9 cI cL ad σ1238 τ) rfl ⟨Nat.le_of_ble_eq_true rfl, Nat.le_of_ble_eq_true rfl⟩ rfl rfl rfl hl.1 rfl (Nat.le_of_ble_eq_true rfl) dX7_readOrder_134 ⟨Nat.zero_le _, Nat.zero_le _⟩ (fun r1255 σ1254 τ1254 H locs h1254 hP hS => ?_)
                      obtain ⟨rfl, f1256, f1257, I1258, I1259, h1254⟩ := h1254
                      obtain ⟨i1260, w1261, w1262⟩ : (0 ≤ (σ1254 9 0).toInt ∧ (σ1254 9 0).toInt ≤ 80) ∧ (∀ k : Nat, k < 80 → 0 ≤ (σ1254 10 k).toInt ∧ (σ1254 10 k).toInt ≤ 255) ∧ (∀ k : Nat, k < 8 → 0 ≤ (σ1254 11 k).toInt ∧ (σ1254 11 k).toInt ≤ 3) := id I1258
                      have i1263 : (-1) ≤ (σ1254 9 2).toInt := I1259
                      rcases h1254 with h1264 | h1265
                      · obtain ⟨q1267, k1266⟩ := h1264
                        exact absurd (by omega : False) id
                      · obtain ⟨q1269, k1268⟩ := h1265
                        refine lv_istore (lv' := [(5, .int r1255), (3, .int r1039), (4, .int 0), (2, .int x25), (0, .ref (ad 9)), (1, .ref (ad 16))]) hx hb dX7_readOrder_137 hl (by decide) rfl (fun ls hl => ?_)
                        refine lv_iload hx hb dX7_readOrder_139 (lv_at hl 0 rfl) ?_
                        refine lv_iconst (v := (-1)) hx hb dX7_readOrder_141 (by decide) ?_
                        refine lv_icmp_eq (tgt := 148) hx hb dX7_readOrder_142 (by decide) (fun c => absurd (jeq c rfl jz_m1) (by omega)) (fun c1270 => ?_)
                        have kc1270 := jne c1270 rfl jz_m1
                        refine lv_iload hx hb dX7_readOrder_145 (lv_at hl 0 rfl) ?_
                        have z1271 : (σ1254 16 0).toInt = (σ 16 0).toInt := by rw [(show σ1254 16 0 = (σ 16 0) from (by rw [f1256 16 (by omega)]; exact (by rw [f1240 16 (by omega)]; exact (by rw [f1228 16 (by omega)]; exact (by rw [f1040 16 (by omega)]; exact (by rw [f946 16 (by omega)]; exact (by rw [f934 16 (by omega)]; exact (by rw [f32 16 (by omega)]; exact (by rw [f11 16 (by omega)])))))))))]
                        have z1272 : (σ1254 16 1).toInt = (σ 16 1).toInt := by rw [(show σ1254 16 1 = (σ 16 1) from (by rw [f1256 16 (by omega)]; exact (by rw [f1240 16 (by omega)]; exact (by rw [f1228 16 (by omega)]; exact (by rw [f1040 16 (by omega)]; exact (by rw [f946 16 (by omega)]; exact (by rw [f934 16 (by omega)]; exact (by rw [f32 16 (by omega)]; exact (by rw [f11 16 (by omega)])))))))))]
                        have z1273 : (σ1254 16 2).toInt = (σ 16 2).toInt := by rw [(show σ1254 16 2 = (σ 16 2) from (by rw [f1256 16 (by omega)]; exact (by rw [f1240 16 (by omega)]; exact (by rw [f1228 16 (by omega)]; exact (by rw [f1040 16 (by omega)]; exact (by rw [f946 16 (by omega)]; exact (by rw [f934 16 (by omega)]; exact (by rw [f32 16 (by omega)]; exact (by rw [f11 16 (by omega)])))))))))]
                        have w1274 : ∀ k : Nat, k < 8 → 0 ≤ (σ1254 17 k).toInt ∧ (σ1254 17 k).toInt ≤ 3 := (by rw [f1256 17 (by omega)]; exact (by rw [f1240 17 (by omega)]; exact (by rw [f1228 17 (by omega)]; exact (by rw [f1040 17 (by omega)]; exact (by rw [f946 17 (by omega)]; exact (by rw [f934 17 (by omega)]; exact (by rw [f32 17 (by omega)]; exact (by rw [f11 17 (by omega)]; exact w7))))))))
                        have I1275 : jI16 σ1254 := ⟨(by omega), (by omega), (by omega), w1274⟩
                        exact hret r1255 σ1254 τ _ _ _ _ rfl ⟨rfl, (fun i hi => by rw [f1256 i (by omega), f1240 i (by omega), f1228 i (by omega), f1040 i (by omega), f946 i (by omega), f934 i (by omega), f32 i (by omega), f11 i (by omega)]), (fun k hk => by rw [f1257 k (by omega), f1241 k (by omega), f1229 k (by omega), f1041 k (by omega), f947 k (by omega), f935 k (by omega), f33 k (by omega), f12 k (by omega)]), (fun k hk => by rw [f1256 16 (by omega), f1240 16 (by omega), f1228 16 (by omega), f1040 16 (by omega), f946 16 (by omega), f934 16 (by omega), f32 16 (by omega), f11 16 (by omega)]), I1258, I1275, trivial⟩ hP hS dX7_readOrder_147
                    · have kc1253 := jne c1253 rfl jz_0
                      refine lv_aload_n hx hb dX7_readOrder_126 rfl (lv_at hl 4 rfl) ?_
                      refine lv_iconst (v := 3) hx hb dX7_readOrder_127 (by decide) ?_
                      refine jcallV (As := [.int 3]) (rest := []) ⟨hx, hb, hml, hown, hts⟩ hK hP hA hS hZ (c_X7_number_3 l D cI cL ad zz hJ σ1238 τ I1242 I1243 I1244) cw_RX7_53 (jc_9 cI cL ad σ1238 τ) rfl ⟨Nat.le_of_ble_eq_true rfl, Nat.le_of_ble_eq_true rfl⟩ rfl rfl rfl hl.1 rfl (Nat.le_of_ble_eq_true rfl) dX7_readOrder_128 ⟨Nat.zero_le _, Nat.zero_le _⟩ (fun r1277 σ1276 τ1276 H locs h1276 hP hS => ?_)
                      obtain ⟨rfl, f1278, f1279, I1280, I1281, I1282, h1276⟩ := h1276
                      obtain ⟨i1283, w1284, w1285⟩ : (0 ≤ (σ1276 9 0).toInt ∧ (σ1276 9 0).toInt ≤ 80) ∧ (∀ k : Nat, k < 80 → 0 ≤ (σ1276 10 k).toInt ∧ (σ1276 10 k).toInt ≤ 255) ∧ (∀ k : Nat, k < 8 → 0 ≤ (σ1276 11 k).toInt ∧ (σ1276 11 k).toInt ≤ 3) := id I1280
                      obtain ⟨i1286, i1287⟩ : (0 ≤ (σ1276 9 1).toInt) ∧ ((σ1276 9 1).toInt ≤ (σ1276 9 0).toInt) := id I1281
                      have i1288 : (-1) ≤ (σ1276 9 2).toInt := I1282
                      have z1289 : (σ1276 9 0).toInt = (σ 9 0).toInt := by rw [(show σ1276 9 0 = (σ 9 0) from (by rw [f1279 0 (by omega)]; exact (by rw [f1241 0 (by omega)]; exact (by rw [f1229 0 (by omega)]; exact (by rw [f1041 0 (by omega)]; exact (by rw [f947 0 (by omega)]; exact (by rw [f935 0 (by omega)]; exact (by rw [f33 0 (by omega)]; exact (by rw [f12 0 (by omega)])))))))))]
                      obtain ⟨k1290, h1276⟩ := h1276
                      have h1291 := h1276
                      obtain ⟨q1293, k1292⟩ := h1291
                      refine lv_istore (lv' := [(4, .int r1277), (3, .int r1039), (5, .int (σ944 9 1)), (2, .int x25), (0, .ref (ad 9)), (1, .ref (ad 16))]) hx hb dX7_readOrder_131 hl (by decide) rfl (fun ls hl => ?_)
                      refine lv_aload_n hx hb dX7_readOrder_133 rfl (lv_at hl 4 rfl) ?_
                      refine jcallV (As := []) (rest := []) ⟨hx, hb, hml, hown, hts⟩ hK hP hA hS hZ (c_X7_end_9 l D cI cL ad zz hJ σ1276 τ I1280 I1281 I1282) cw_RX7_57 (jc_9 cI cL ad σ1276 τ) rfl ⟨Nat.le_of_ble_eq_true rfl, Nat.le_of_ble_eq_true rfl⟩ rfl rfl rfl hl.1 rfl (Nat.le_of_ble_eq_true rfl) dX7_readOrder_134 ⟨Nat.zero_le _, Nat.zero_le _⟩ (fun r1295 σ1294 τ1294 H locs h1294 hP hS => ?_)
                      obtain ⟨rfl, f1296, f1297, I1298, I1299, h1294⟩ := h1294
                      obtain ⟨i1300, w1301, w1302⟩ : (0 ≤ (σ1294 9 0).toInt ∧ (σ1294 9 0).toInt ≤ 80) ∧ (∀ k : Nat, k < 80 → 0 ≤ (σ1294 10 k).toInt ∧ (σ1294 10 k).toInt ≤ 255) ∧ (∀ k : Nat, k < 8 → 0 ≤ (σ1294 11 k).toInt ∧ (σ1294 11 k).toInt ≤ 3) := id I1298
                      have i1303 : (-1) ≤ (σ1294 9 2).toInt := I1299
                      rcases h1294 with h1304 | h1305
                      · obtain ⟨q1307, k1306⟩ := h1304
                        exact absurd (by omega : False) id
                      · obtain ⟨q1309, k1308⟩ := h1305
                        refine lv_istore (lv' := [(5, .int r1295), (4, .int r1277), (3, .int r1039), (2, .int x25), (0, .ref (ad 9)), (1, .ref (ad 16))]) hx hb dX7_readOrder_137 hl (by decide) rfl (fun ls hl => ?_)
                        refine lv_iload hx hb dX7_readOrder_139 (lv_at hl 0 rfl) ?_
                        refine lv_iconst (v := (-1)) hx hb dX7_readOrder_141 (by decide) ?_
                        refine lv_icmp_eq (tgt := 148) hx hb dX7_readOrder_142 (by decide) (fun c => absurd (jeq c rfl jz_m1) (by omega)) (fun c1310 => ?_)
                        have kc1310 := jne c1310 rfl jz_m1
                        refine lv_iload hx hb dX7_readOrder_145 (lv_at hl 0 rfl) ?_
                        have z1311 : (σ1294 16 0).toInt = (σ 16 0).toInt := by rw [(show σ1294 16 0 = (σ 16 0) from (by rw [f1296 16 (by omega)]; exact (by rw [f1278 16 (by omega)]; exact (by rw [f1240 16 (by omega)]; exact (by rw [f1228 16 (by omega)]; exact (by rw [f1040 16 (by omega)]; exact (by rw [f946 16 (by omega)]; exact (by rw [f934 16 (by omega)]; exact (by rw [f32 16 (by omega)]; exact (by rw [f11 16 (by omega)]))))))))))]
                        have z1312 : (σ1294 16 1).toInt = (σ 16 1).toInt := by rw [(show σ1294 16 1 = (σ 16 1) from (by rw [f1296 16 (by omega)]; exact (by rw [f1278 16 (by omega)]; exact (by rw [f1240 16 (by omega)]; exact (by rw [f1228 16 (by omega)]; exact (by rw [f1040 16 (by omega)]; exact (by rw [f946 16 (by omega)]; exact (by rw [f934 16 (by omega)]; exact (by rw [f32 16 (by omega)]; exact (by rw [f11 16 (by omega)]))))))))))]
                        have z1313 : (σ1294 16 2).toInt = (σ 16 2).toInt := by rw [(show σ1294 16 2 = (σ 16 2) from (by rw [f1296 16 (by omega)]; exact (by rw [f1278 16 (by omega)]; exact (by rw [f1240 16 (by omega)]; exact (by rw [f1228 16 (by omega)]; exact (by rw [f1040 16 (by omega)]; exact (by rw [f946 16 (by omega)]; exact (by rw [f934 16 (by omega)]; exact (by rw [f32 16 (by omega)]; exact (by rw [f11 16 (by omega)]))))))))))]
                        have w1314 : ∀ k : Nat, k < 8 → 0 ≤ (σ1294 17 k).toInt ∧ (σ1294 17 k).toInt ≤ 3 := (by rw [f1296 17 (by omega)]; exact (by rw [f1278 17 (by omega)]; exact (by rw [f1240 17 (by omega)]; exact (by rw [f1228 17 (by omega)]; exact (by rw [f1040 17 (by omega)]; exact (by rw [f946 17 (by omega)]; exact (by rw [f934 17 (by omega)]; exact (by rw [f32 17 (by omega)]; exact (by rw [f11 17 (by omega)]; exact w7)))))))))
                        have I1315 : jI16 σ1294 := ⟨(by omega), (by omega), (by omega), w1314⟩
                        exact hret r1295 σ1294 τ _ _ _ _ rfl ⟨rfl, (fun i hi => by rw [f1296 i (by omega), f1278 i (by omega), f1240 i (by omega), f1228 i (by omega), f1040 i (by omega), f946 i (by omega), f934 i (by omega), f32 i (by omega), f11 i (by omega)]), (fun k hk => by rw [f1297 k (by omega), f1279 k (by omega), f1241 k (by omega), f1229 k (by omega), f1041 k (by omega), f947 k (by omega), f935 k (by omega), f33 k (by omega), f12 k (by omega)]), (fun k hk => by rw [f1296 16 (by omega), f1278 16 (by omega), f1240 16 (by omega), f1228 16 (by omega), f1040 16 (by omega), f946 16 (by omega), f934 16 (by omega), f32 16 (by omega), f11 16 (by omega)]), I1298, I1315, trivial⟩ hP hS dX7_readOrder_147
          · have kc489 := jnlt c489 rfl jz_48
            refine lv_aload_n hx hb dX7_readOrder_27 rfl (lv_at hl 3 rfl) ?_
            refine jcallV (As := []) (rest := []) ⟨hx, hb, hml, hown, hts⟩ hK hP hA hS hZ (c_X7_sign_9 l D cI cL ad zz hJ σ26 τ I480) cw_RX7_35 (jc_9 cI cL ad σ26 τ) rfl ⟨Nat.le_of_ble_eq_true rfl, Nat.le_of_ble_eq_true rfl⟩ rfl rfl rfl hl.1 rfl (Nat.le_of_ble_eq_true rfl) dX7_readOrder_28 ⟨Nat.zero_le _, Nat.zero_le _⟩ (fun r1317 σ1316 τ1316 H locs h1316 hP hS => ?_)
            obtain ⟨⟨rfl, rfl⟩, h1316⟩ := h1316
            rcases h1316 with h1318 | h1319
            · obtain ⟨q1322, k1320, k1321⟩ := h1318
              have q1323 : r1317 = (σ 10 (σ26 9 1).toNatClampNeg) := q1322.trans (by rw [f32 10 (by omega), f11 10 (by omega)])
              have q1323e : (σ26 10 (σ26 9 1).toNatClampNeg).toInt = (σ 10 (σ26 9 1).toNatClampNeg).toInt := by rw [← q1322, ← q1323]
              have q1323 := q1323.symm
              subst q1323
              refine lv_bipush (v := 51) hx hb dX7_readOrder_31 (by decide) ?_
              refine lv_icmp_gt (tgt := 67) hx hb dX7_readOrder_33 (by decide) (fun c1324 => ?_) (fun c1324 => ?_)
              · have kc1324 := jlt c1324 jz_51 rfl
                refine lv_iload_n hx hb dX7_readOrder_67 rfl (lv_at hl 2 rfl) ?_
                refine lv_if_ne (tgt := 79) hx hb dX7_readOrder_68 (by decide) (fun c1325 => ?_) (fun c1325 => ?_)
                · have kc1325 := jne c1325 rfl jz_0
                  refine lv_aload_n hx hb dX7_readOrder_79 rfl (lv_at hl 3 rfl) ?_
                  refine lv_bipush (v := 58) hx hb dX7_readOrder_80 (by decide) ?_
                  have I1326 : jI91 σ26 := ⟨(by omega), (by omega)⟩
                  have z1327 : (σ26 9 2).toInt = (σ9 9 2).toInt := by rw [(show σ26 9 2 = (σ9 9 2) from (by rw [f33 2 (by omega)]))]
                  have I1328 : jI92 σ26 := (show (-1) ≤ (σ26 9 2).toInt by omega)
                  refine jcallV (As := [.int 58]) (rest := []) ⟨hx, hb, hml, hown, hts⟩ hK hP hA hS hZ (c_X7_skip_9 l D cI cL ad zz hJ σ26 τ 58 (58) jz_58 I480 I1326 I1328 (by omega)) cw_RX7_50 (jc_9 cI cL ad σ26 τ) rfl ⟨Nat.le_of_ble_eq_true rfl, Nat.le_of_ble_eq_true rfl⟩ rfl rfl rfl hl.1 rfl (Nat.le_of_ble_eq_true rfl) dX7_readOrder_82 ⟨Nat.zero_le _, Nat.zero_le _⟩ (fun r1330 σ1329 τ1329 H locs h1329 hP hS => ?_)
                  obtain ⟨rfl, f1331, f1332, I1333, I1334, I1335, h1329⟩ := h1329
                  obtain ⟨i1336, w1337, w1338⟩ : (0 ≤ (σ1329 9 0).toInt ∧ (σ1329 9 0).toInt ≤ 80) ∧ (∀ k : Nat, k < 80 → 0 ≤ (σ1329 10 k).toInt ∧ (σ1329 10 k).toInt ≤ 255) ∧ (∀ k : Nat, k < 8 → 0 ≤ (σ1329 11 k).toInt ∧ (σ1329 11 k).toInt ≤ 3) := id I1333
                  obtain ⟨i1339, i1340⟩ : (0 ≤ (σ1329 9 1).toInt) ∧ ((σ1329 9 1).toInt ≤ (σ1329 9 0).toInt) := id I1334
                  have i1341 : (-1) ≤ (σ1329 9 2).toInt := I1335
                  have z1342 : (σ1329 9 0).toInt = (σ 9 0).toInt := by rw [(show σ1329 9 0 = (σ 9 0) from (by rw [f1332 0 (by omega)]; exact (by rw [f33 0 (by omega)]; exact (by rw [f12 0 (by omega)]))))]
                  have z1343 : (σ1329 9 2).toInt = (σ9 9 2).toInt := by rw [(show σ1329 9 2 = (σ9 9 2) from (by rw [f1332 2 (by omega)]; exact (by rw [f33 2 (by omega)])))]
                  refine lv_if_eq (tgt := 117) hx hb dX7_readOrder_85 (by decide) (fun c1344 => ?_) (fun c1344 => ?_)
                  · have kc1344 := jeq c1344 rfl jz_0
                    refine lv_aload_n hx hb dX7_readOrder_117 rfl (lv_at hl 3 rfl) ?_
                    refine lv_bipush (v := 114) hx hb dX7_readOrder_118 (by decide) ?_
                    refine jcallV (As := [.int 114]) (rest := []) ⟨hx, hb, hml, hown, hts⟩ hK hP hA hS hZ (c_X7_skip_9 l D cI cL ad zz hJ σ1329 τ 114 (114) jz_114 I1333 I1334 I1335 (by omega)) cw_RX7_50 (jc_9 cI cL ad σ1329 τ) rfl ⟨Nat.le_of_ble_eq_true rfl, Nat.le_of_ble_eq_true rfl⟩ rfl rfl rfl hl.1 rfl (Nat.le_of_ble_eq_true rfl) dX7_readOrder_120 ⟨Nat.zero_le _, Nat.zero_le _⟩ (fun r1346 σ1345 τ1345 H locs h1345 hP hS => ?_)
                    obtain ⟨rfl, f1347, f1348, I1349, I1350, I1351, h1345⟩ := h1345
                    obtain ⟨i1352, w1353, w1354⟩ : (0 ≤ (σ1345 9 0).toInt ∧ (σ1345 9 0).toInt ≤ 80) ∧ (∀ k : Nat, k < 80 → 0 ≤ (σ1345 10 k).toInt ∧ (σ1345 10 k).toInt ≤ 255) ∧ (∀ k : Nat, k < 8 → 0 ≤ (σ1345 11 k).toInt ∧ (σ1345 11 k).toInt ≤ 3) := id I1349
                    obtain ⟨i1355, i1356⟩ : (0 ≤ (σ1345 9 1).toInt) ∧ ((σ1345 9 1).toInt ≤ (σ1345 9 0).toInt) := id I1350
                    have i1357 : (-1) ≤ (σ1345 9 2).toInt := I1351
                    have z1358 : (σ1345 9 0).toInt = (σ 9 0).toInt := by rw [(show σ1345 9 0 = (σ 9 0) from (by rw [f1348 0 (by omega)]; exact (by rw [f1332 0 (by omega)]; exact (by rw [f33 0 (by omega)]; exact (by rw [f12 0 (by omega)])))))]
                    have z1359 : (σ1345 9 2).toInt = (σ9 9 2).toInt := by rw [(show σ1345 9 2 = (σ9 9 2) from (by rw [f1348 2 (by omega)]; exact (by rw [f1332 2 (by omega)]; exact (by rw [f33 2 (by omega)]))))]
                    refine lv_if_eq (tgt := 133) hx hb dX7_readOrder_123 (by decide) (fun c1360 => ?_) (fun c1360 => ?_)
                    · have kc1360 := jeq c1360 rfl jz_0
                      refine lv_aload_n hx hb dX7_readOrder_133 rfl (lv_at hl 3 rfl) ?_
                      refine jcallV (As := []) (rest := []) ⟨hx, hb, hml, hown, hts⟩ hK hP hA hS hZ (c_X7_end_9 l D cI cL ad zz hJ σ1345 τ I1349 I1350 I1351) cw_RX7_57 (jc_9 cI cL ad σ1345 τ) rfl ⟨Nat.le_of_ble_eq_true rfl, Nat.le_of_ble_eq_true rfl⟩ rfl rfl rfl hl.1 rfl (Nat.le_of_ble_eq_true rfl) dX7_readOrder_134 ⟨Nat.zero_le _, Nat.zero_le _⟩ (fun r1362 σ1361 τ1361 H locs h1361 hP hS => ?_)
                      obtain ⟨rfl, f1363, f1364, I1365, I1366, h1361⟩ := h1361
                      obtain ⟨i1367, w1368, w1369⟩ : (0 ≤ (σ1361 9 0).toInt ∧ (σ1361 9 0).toInt ≤ 80) ∧ (∀ k : Nat, k < 80 → 0 ≤ (σ1361 10 k).toInt ∧ (σ1361 10 k).toInt ≤ 255) ∧ (∀ k : Nat, k < 8 → 0 ≤ (σ1361 11 k).toInt ∧ (σ1361 11 k).toInt ≤ 3) := id I1365
                      have i1370 : (-1) ≤ (σ1361 9 2).toInt := I1366
                      rcases h1361 with h1371 | h1372
                      · obtain ⟨q1374, k1373⟩ := h1371
                        have q1374 := q1374.symm
                        subst q1374
                        refine lv_istore (lv' := [(5, .int (-1)), (4, .int 0), (3, .int 8), (2, .int x25), (0, .ref (ad 9)), (1, .ref (ad 16))]) hx hb dX7_readOrder_137 hl (by decide) rfl (fun ls hl => ?_)
                        refine lv_iload hx hb dX7_readOrder_139 (lv_at hl 0 rfl) ?_
                        refine lv_iconst (v := (-1)) hx hb dX7_readOrder_141 (by decide) ?_
                        refine lv_icmp_eq (tgt := 148) hx hb dX7_readOrder_142 (by decide) (fun _ => ?_) (fun c => absurd (by decide) c)
                        refine lv_aload_n hx hb dX7_readOrder_148 rfl (lv_at hl 5 rfl) ?_
                        refine lv_iload_n hx hb dX7_readOrder_149 rfl (lv_at hl 3 rfl) ?_
                        refine jput (ty := .int) hx hb hts inlX6 tyX6 tyX6_ok nmX6 hown hK hP hJ hA hS (jc_16 cI cL ad σ1361 τ) rfl (k := 0) (by decide) (Nat.le_of_ble_eq_true rfl) (jp_16_0 cI cL ad σ1361 τ x25) (hts _ kw_13_18) (fun _ h9 => h9) rfl (by decide +kernel) rfl rfl dX7_readOrder_150 (fun σ1375 H locs eσ1375 hP hS => ?_)
                        refine lv_aload_n hx hb dX7_readOrder_153 rfl (lv_at hl 5 rfl) ?_
                        refine lv_iload_n hx hb dX7_readOrder_154 rfl (lv_at hl 2 rfl) ?_
                        refine jput (ty := .int) hx hb hts inlX6 tyX6 tyX6_ok nmX6 hown hK hP hJ hA hS (jc_16 cI cL ad σ1375 τ) rfl (k := 1) (by decide) (Nat.le_of_ble_eq_true rfl) (jp_16_1 cI cL ad σ1375 τ 8) (hts _ kw_13_19) (fun _ h9 => h9) rfl (by decide +kernel) rfl rfl dX7_readOrder_155 (fun σ1376 H locs eσ1376 hP hS => ?_)
                        refine lv_aload_n hx hb dX7_readOrder_158 rfl (lv_at hl 5 rfl) ?_
                        refine lv_iload hx hb dX7_readOrder_159 (lv_at hl 1 rfl) ?_
                        refine jput (ty := .int) hx hb hts inlX6 tyX6 tyX6_ok nmX6 hown hK hP hJ hA hS (jc_16 cI cL ad σ1376 τ) rfl (k := 2) (by decide) (Nat.le_of_ble_eq_true rfl) (jp_16_2 cI cL ad σ1376 τ 0) (hts _ kw_13_20) (fun _ h9 => h9) rfl (by decide +kernel) rfl rfl dX7_readOrder_161 (fun σ1377 H locs eσ1377 hP hS => ?_)
                        refine lv_aload_n hx hb dX7_readOrder_164 rfl (lv_at hl 4 rfl) ?_
                        refine va_get (D := D) hx hb hts inlX7 hown hK hP 9 (jc_9 cI cL ad σ1377 τ) rfl 4 (by decide) (hts _ kw_3_21) (fun _ h9 => h9) rfl dX7_readOrder_165 ?_
                        refine lv_iconst (v := 0) hx hb dX7_readOrder_168 (by decide) ?_
                        refine lv_aload_n hx hb dX7_readOrder_169 rfl (lv_at hl 5 rfl) ?_
                        refine va_get (D := D) hx hb hts inlX6 hown hK hP 16 (jc_16 cI cL ad σ1377 τ) rfl 3 (by decide) (hts _ kw_13_21) (fun _ h9 => h9) rfl dX7_readOrder_170 ?_
                        refine lv_iconst (v := 0) hx hb dX7_readOrder_173 (by decide) ?_
                        refine lv_iload_n hx hb dX7_readOrder_174 rfl (lv_at hl 3 rfl) ?_
                        refine jcpyI (q0 := 11) (q1 := 17) hx hb (hml.trans hl.1.symm) hown (hts _ kw_13_22) (hts _ kw_13_23) (hts _ kw_14_0) (hts _ kw_14_1) hK hP hJ hA hS (jc_11 cI cL ad σ1377 τ) (jc_17 cI cL ad σ1377 τ) (fun _ => rfl) jz_0 jz_0 rfl (by omega) (by omega) (by omega) (by omega) (by omega) (Nat.le_of_ble_eq_true rfl) (Nat.le_of_ble_eq_true rfl) dX7_readOrder_175 (fun σ1378 H locs eσ1378 hP hS => ?_)
                        have w1379 : ∀ k : Nat, k < 8 → 0 ≤ (σ1377 11 k).toInt ∧ (σ1377 11 k).toInt ≤ 3 := (by rw [eσ1377, jup_n (by decide)]; exact (by rw [eσ1376, jup_n (by decide)]; exact (by rw [eσ1375, jup_n (by decide)]; exact w1369)))
                        have w1380 : ∀ k : Nat, k < 8 → 0 ≤ (σ1377 17 k).toInt ∧ (σ1377 17 k).toInt ≤ 3 := (by rw [eσ1377, jup_n (by decide)]; exact (by rw [eσ1376, jup_n (by decide)]; exact (by rw [eσ1375, jup_n (by decide)]; exact (by rw [f1363 17 (by omega)]; exact (by rw [f1347 17 (by omega)]; exact (by rw [f1331 17 (by omega)]; exact (by rw [f32 17 (by omega)]; exact (by rw [f11 17 (by omega)]; exact w7))))))))
                        have f1381 : (∀ i : Nat, (i < 17 ∨ 17 < i) → σ1378 i = σ1377 i) := by rw [eσ1378]; exact jrow_n
                        have w1382 : ∀ k : Nat, k < 8 → 0 ≤ (σ1378 17 k).toInt ∧ (σ1378 17 k).toInt ≤ 3 := by rw [eσ1378]; exact jrow_rr w1379 w1380 jz_0 rfl (n0 := 8) (by omega) (by omega) (by omega)
                        refine lv_iconst (v := (-1)) hx hb dX7_readOrder_178 (by decide) ?_
                        have z1383 : (σ1378 9 0).toInt = (σ1361 9 0).toInt := by rw [(show σ1378 9 0 = (σ1361 9 0) from (by rw [f1381 9 (by omega)]; exact (by rw [eσ1377, jup_n (by decide)]; exact (by rw [eσ1376, jup_n (by decide)]; exact (by rw [eσ1375, jup_n (by decide)])))))]
                        have w1384 : ∀ k : Nat, k < 80 → 0 ≤ (σ1378 10 k).toInt ∧ (σ1378 10 k).toInt ≤ 255 := (by rw [f1381 10 (by omega)]; exact (by rw [eσ1377, jup_n (by decide)]; exact (by rw [eσ1376, jup_n (by decide)]; exact (by rw [eσ1375, jup_n (by decide)]; exact w1368))))
                        have w1385 : ∀ k : Nat, k < 8 → 0 ≤ (σ1378 11 k).toInt ∧ (σ1378 11 k).toInt ≤ 3 := (by rw [f1381 11 (by omega)]; exact w1379)
                        have I1386 : jI9 σ1378 := ⟨(by omega), w1384, w1385⟩
                        have z1387 : (σ1378 16 0).toInt = x25.toInt := by rw [(show σ1378 16 0 = x25 from (by rw [f1381 16 (by omega)]; exact (by rw [eσ1377, jup_k (by decide)]; exact (by rw [eσ1376, jup_k (by decide)]; exact (by rw [eσ1375]; exact jup_s)))))]
                        have z1388 : (σ1378 16 1).toInt = 8 := by rw [(show σ1378 16 1 = 8 from (by rw [f1381 16 (by omega)]; exact (by rw [eσ1377, jup_k (by decide)]; exact (by rw [eσ1376]; exact jup_s))))]; exact jz_8
                        have z1389 : (σ1378 16 2).toInt = 0 := by rw [(show σ1378 16 2 = 0 from (by rw [f1381 16 (by omega)]; exact (by rw [eσ1377]; exact jup_s)))]; exact jz_0
                        have I1390 : jI16 σ1378 := ⟨(by omega), (by omega), (by omega), w1382⟩
                        exact hret (-1) σ1378 τ _ _ _ _ rfl ⟨rfl, (fun i hi => by rw [f1381 i (by omega), eσ1377, jup_n (by omega), eσ1376, jup_n (by omega), eσ1375, jup_n (by omega), f1363 i (by omega), f1347 i (by omega), f1331 i (by omega), f32 i (by omega), f11 i (by omega)]), (fun k hk => by rw [f1381 9 (by omega), eσ1377, jup_n (by decide), eσ1376, jup_n (by decide), eσ1375, jup_n (by decide), f1364 k (by omega), f1348 k (by omega), f1332 k (by omega), f33 k (by omega), f12 k (by omega)]), (fun k hk => by rw [f1381 16 (by omega), eσ1377, jup_k (by omega), eσ1376, jup_k (by omega), eσ1375, jup_k (by omega), f1363 16 (by omega), f1347 16 (by omega), f1331 16 (by omega), f32 16 (by omega), f11 16 (by omega)]), I1386, I1390, trivial⟩ hP hS dX7_readOrder_179
                      · obtain ⟨q1392, k1391⟩ := h1372
                        refine lv_istore (lv' := [(5, .int r1362), (4, .int 0), (3, .int 8), (2, .int x25), (0, .ref (ad 9)), (1, .ref (ad 16))]) hx hb dX7_readOrder_137 hl (by decide) rfl (fun ls hl => ?_)
                        refine lv_iload hx hb dX7_readOrder_139 (lv_at hl 0 rfl) ?_
                        refine lv_iconst (v := (-1)) hx hb dX7_readOrder_141 (by decide) ?_
                        refine lv_icmp_eq (tgt := 148) hx hb dX7_readOrder_142 (by decide) (fun c => absurd (jeq c rfl jz_m1) (by omega)) (fun c1393 => ?_)
                        have kc1393 := jne c1393 rfl jz_m1
                        refine lv_iload hx hb dX7_readOrder_145 (lv_at hl 0 rfl) ?_
                        have z1394 : (σ1361 16 0).toInt = (σ 16 0).toInt := by rw [(show σ1361 16 0 = (σ 16 0) from (by rw [f1363 16 (by omega)]; exact (by rw [f1347 16 (by omega)]; exact (by rw [f1331 16 (by omega)]; exact (by rw [f32 16 (by omega)]; exact (by rw [f11 16 (by omega)]))))))]
                        have z1395 : (σ1361 16 1).toInt = (σ 16 1).toInt := by rw [(show σ1361 16 1 = (σ 16 1) from (by rw [f1363 16 (by omega)]; exact (by rw [f1347 16 (by omega)]; exact (by rw [f1331 16 (by omega)]; exact (by rw [f32 16 (by omega)]; exact (by rw [f11 16 (by omega)]))))))]
                        have z1396 : (σ1361 16 2).toInt = (σ 16 2).toInt := by rw [(show σ1361 16 2 = (σ 16 2) from (by rw [f1363 16 (by omega)]; exact (by rw [f1347 16 (by omega)]; exact (by rw [f1331 16 (by omega)]; exact (by rw [f32 16 (by omega)]; exact (by rw [f11 16 (by omega)]))))))]
                        have w1397 : ∀ k : Nat, k < 8 → 0 ≤ (σ1361 17 k).toInt ∧ (σ1361 17 k).toInt ≤ 3 := (by rw [f1363 17 (by omega)]; exact (by rw [f1347 17 (by omega)]; exact (by rw [f1331 17 (by omega)]; exact (by rw [f32 17 (by omega)]; exact (by rw [f11 17 (by omega)]; exact w7)))))
                        have I1398 : jI16 σ1361 := ⟨(by omega), (by omega), (by omega), w1397⟩
                        exact hret r1362 σ1361 τ _ _ _ _ rfl ⟨rfl, (fun i hi => by rw [f1363 i (by omega), f1347 i (by omega), f1331 i (by omega), f32 i (by omega), f11 i (by omega)]), (fun k hk => by rw [f1364 k (by omega), f1348 k (by omega), f1332 k (by omega), f33 k (by omega), f12 k (by omega)]), (fun k hk => by rw [f1363 16 (by omega), f1347 16 (by omega), f1331 16 (by omega), f32 16 (by omega), f11 16 (by omega)]), I1365, I1398, trivial⟩ hP hS dX7_readOrder_147
                    · have kc1360 := jne c1360 rfl jz_0
                      refine lv_aload_n hx hb dX7_readOrder_126 rfl (lv_at hl 3 rfl) ?_
                      refine lv_iconst (v := 3) hx hb dX7_readOrder_127 (by decide) ?_
                      refine jcallV (As := [.int 3]) (rest := []) ⟨hx, hb, hml, hown, hts⟩ hK hP hA hS hZ (c_X7_number_3 l D cI cL ad zz hJ σ1345 τ I1349 I1350 I1351) cw_RX7_53 (jc_9 cI cL ad σ1345 τ) rfl ⟨Nat.le_of_ble_eq_true rfl, Nat.le_of_ble_eq_true rfl⟩ rfl rfl rfl hl.1 rfl (Nat.le_of_ble_eq_true rfl) dX7_readOrder_128 ⟨Nat.zero_le _, Nat.zero_le _⟩ (fun r1400 σ1399 τ1399 H locs h1399 hP hS => ?_)
                      obtain ⟨rfl, f1401, f1402, I1403, I1404, I1405, h1399⟩ := h1399
                      obtain ⟨i1406, w1407, w1408⟩ : (0 ≤ (σ1399 9 0).toInt ∧ (σ1399 9 0).toInt ≤ 80) ∧ (∀ k : Nat, k < 80 → 0 ≤ (σ1399 10 k).toInt ∧ (σ1399 10 k).toInt ≤ 255) ∧ (∀ k : Nat, k < 8 → 0 ≤ (σ1399 11 k).toInt ∧ (σ1399 11 k).toInt ≤ 3) := id I1403
                      obtain ⟨i1409, i1410⟩ : (0 ≤ (σ1399 9 1).toInt) ∧ ((σ1399 9 1).toInt ≤ (σ1399 9 0).toInt) := id I1404
                      have i1411 : (-1) ≤ (σ1399 9 2).toInt := I1405
                      have z1412 : (σ1399 9 0).toInt = (σ 9 0).toInt := by rw [(show σ1399 9 0 = (σ 9 0) from (by rw [f1402 0 (by omega)]; exact (by rw [f1348 0 (by omega)]; exact (by rw [f1332 0 (by omega)]; exact (by rw [f33 0 (by omega)]; exact (by rw [f12 0 (by omega)]))))))]
                      obtain ⟨k1413, h1399⟩ := h1399
                      have h1414 := h1399
                      obtain ⟨q1416, k1415⟩ := h1414
                      refine lv_istore (lv' := [(4, .int r1400), (3, .int 8), (2, .int x25), (0, .ref (ad 9)), (1, .ref (ad 16))]) hx hb dX7_readOrder_131 hl (by decide) rfl (fun ls hl => ?_)
                      refine lv_aload_n hx hb dX7_readOrder_133 rfl (lv_at hl 3 rfl) ?_
                      refine jcallV (As := []) (rest := []) ⟨hx, hb, hml, hown, hts⟩ hK hP hA hS hZ (c_X7_end_9 l D cI cL ad zz hJ σ1399 τ I1403 I1404 I1405) cw_RX7_57 (jc_9 cI cL ad σ1399 τ) rfl ⟨Nat.le_of_ble_eq_true rfl, Nat.le_of_ble_eq_true rfl⟩ rfl rfl rfl hl.1 rfl (Nat.le_of_ble_eq_true rfl) dX7_readOrder_134 ⟨Nat.zero_le _, Nat.zero_le _⟩ (fun r1418 σ1417 τ1417 H locs h1417 hP hS => ?_)
                      obtain ⟨rfl, f1419, f1420, I1421, I1422, h1417⟩ := h1417
                      obtain ⟨i1423, w1424, w1425⟩ : (0 ≤ (σ1417 9 0).toInt ∧ (σ1417 9 0).toInt ≤ 80) ∧ (∀ k : Nat, k < 80 → 0 ≤ (σ1417 10 k).toInt ∧ (σ1417 10 k).toInt ≤ 255) ∧ (∀ k : Nat, k < 8 → 0 ≤ (σ1417 11 k).toInt ∧ (σ1417 11 k).toInt ≤ 3) := id I1421
                      have i1426 : (-1) ≤ (σ1417 9 2).toInt := I1422
                      rcases h1417 with h1427 | h1428
                      · obtain ⟨q1430, k1429⟩ := h1427
                        have q1430 := q1430.symm
                        subst q1430
                        refine lv_istore (lv' := [(5, .int (-1)), (4, .int r1400), (3, .int 8), (2, .int x25), (0, .ref (ad 9)), (1, .ref (ad 16))]) hx hb dX7_readOrder_137 hl (by decide) rfl (fun ls hl => ?_)
                        refine lv_iload hx hb dX7_readOrder_139 (lv_at hl 0 rfl) ?_
                        refine lv_iconst (v := (-1)) hx hb dX7_readOrder_141 (by decide) ?_
                        refine lv_icmp_eq (tgt := 148) hx hb dX7_readOrder_142 (by decide) (fun _ => ?_) (fun c => absurd (by decide) c)
                        refine lv_aload_n hx hb dX7_readOrder_148 rfl (lv_at hl 5 rfl) ?_
                        refine lv_iload_n hx hb dX7_readOrder_149 rfl (lv_at hl 3 rfl) ?_
                        refine jput (ty := .int) hx hb hts inlX6 tyX6 tyX6_ok nmX6 hown hK hP hJ hA hS (jc_16 cI cL ad σ1417 τ) rfl (k := 0) (by decide) (Nat.le_of_ble_eq_true rfl) (jp_16_0 cI cL ad σ1417 τ x25) (hts _ kw_13_18) (fun _ h9 => h9) rfl (by decide +kernel) rfl rfl dX7_readOrder_150 (fun σ1431 H locs eσ1431 hP hS => ?_)
                        refine lv_aload_n hx hb dX7_readOrder_153 rfl (lv_at hl 5 rfl) ?_
                        refine lv_iload_n hx hb dX7_readOrder_154 rfl (lv_at hl 2 rfl) ?_
                        refine jput (ty := .int) hx hb hts inlX6 tyX6 tyX6_ok nmX6 hown hK hP hJ hA hS (jc_16 cI cL ad σ1431 τ) rfl (k := 1) (by decide) (Nat.le_of_ble_eq_true rfl) (jp_16_1 cI cL ad σ1431 τ 8) (hts _ kw_13_19) (fun _ h9 => h9) rfl (by decide +kernel) rfl rfl dX7_readOrder_155 (fun σ1432 H locs eσ1432 hP hS => ?_)
                        refine lv_aload_n hx hb dX7_readOrder_158 rfl (lv_at hl 5 rfl) ?_
                        refine lv_iload hx hb dX7_readOrder_159 (lv_at hl 1 rfl) ?_
                        refine jput (ty := .int) hx hb hts inlX6 tyX6 tyX6_ok nmX6 hown hK hP hJ hA hS (jc_16 cI cL ad σ1432 τ) rfl (k := 2) (by decide) (Nat.le_of_ble_eq_true rfl) (jp_16_2 cI cL ad σ1432 τ r1400) (hts _ kw_13_20) (fun _ h9 => h9) rfl (by decide +kernel) rfl rfl dX7_readOrder_161 (fun σ1433 H locs eσ1433 hP hS => ?_)
                        refine lv_aload_n hx hb dX7_readOrder_164 rfl (lv_at hl 4 rfl) ?_
                        refine va_get (D := D) hx hb hts inlX7 hown hK hP 9 (jc_9 cI cL ad σ1433 τ) rfl 4 (by decide) (hts _ kw_3_21) (fun _ h9 => h9) rfl dX7_readOrder_165 ?_
                        refine lv_iconst (v := 0) hx hb dX7_readOrder_168 (by decide) ?_
                        refine lv_aload_n hx hb dX7_readOrder_169 rfl (lv_at hl 5 rfl) ?_
                        refine va_get (D := D) hx hb hts inlX6 hown hK hP 16 (jc_16 cI cL ad σ1433 τ) rfl 3 (by decide) (hts _ kw_13_21) (fun _ h9 => h9) rfl dX7_readOrder_170 ?_
                        refine lv_iconst (v := 0) hx hb dX7_readOrder_173 (by decide) ?_
                        refine lv_iload_n hx hb dX7_readOrder_174 rfl (lv_at hl 3 rfl) ?_
                        refine jcpyI (q0 := 11) (q1 := 17) hx hb (hml.trans hl.1.symm) hown (hts _ kw_13_22) (hts _ kw_13_23) (hts _ kw_14_0) (hts _ kw_14_1) hK hP hJ hA hS (jc_11 cI cL ad σ1433 τ) (jc_17 cI cL ad σ1433 τ) (fun _ => rfl) jz_0 jz_0 rfl (by omega) (by omega) (by omega) (by omega) (by omega) (Nat.le_of_ble_eq_true rfl) (Nat.le_of_ble_eq_true rfl) dX7_readOrder_175 (fun σ1434 H locs eσ1434 hP hS => ?_)
                        have w1435 : ∀ k : Nat, k < 8 → 0 ≤ (σ1433 11 k).toInt ∧ (σ1433 11 k).toInt ≤ 3 := (by rw [eσ1433, jup_n (by decide)]; exact (by rw [eσ1432, jup_n (by decide)]; exact (by rw [eσ1431, jup_n (by decide)]; exact w1425)))
                        have w1436 : ∀ k : Nat, k < 8 → 0 ≤ (σ1433 17 k).toInt ∧ (σ1433 17 k).toInt ≤ 3 := (by rw [eσ1433, jup_n (by decide)]; exact (by rw [eσ1432, jup_n (by decide)]; exact (by rw [eσ1431, jup_n (by decide)]; exact (by rw [f1419 17 (by omega)]; exact (by rw [f1401 17 (by omega)]; exact (by rw [f1347 17 (by omega)]; exact (by rw [f1331 17 (by omega)]; exact (by rw [f32 17 (by omega)]; exact (by rw [f11 17 (by omega)]; exact w7)))))))))
                        have f1437 : (∀ i : Nat, (i < 17 ∨ 17 < i) → σ1434 i = σ1433 i) := by rw [eσ1434]; exact jrow_n
                        have w1438 : ∀ k : Nat, k < 8 → 0 ≤ (σ1434 17 k).toInt ∧ (σ1434 17 k).toInt ≤ 3 := by rw [eσ1434]; exact jrow_rr w1435 w1436 jz_0 rfl (n0 := 8) (by omega) (by omega) (by omega)
                        refine lv_iconst (v := (-1)) hx hb dX7_readOrder_178 (by decide) ?_
                        have z1439 : (σ1434 9 0).toInt = (σ1417 9 0).toInt := by rw [(show σ1434 9 0 = (σ1417 9 0) from (by rw [f1437 9 (by omega)]; exact (by rw [eσ1433, jup_n (by decide)]; exact (by rw [eσ1432, jup_n (by decide)]; exact (by rw [eσ1431, jup_n (by decide)])))))]
                        have w1440 : ∀ k : Nat, k < 80 → 0 ≤ (σ1434 10 k).toInt ∧ (σ1434 10 k).toInt ≤ 255 := (by rw [f1437 10 (by omega)]; exact (by rw [eσ1433, jup_n (by decide)]; exact (by rw [eσ1432, jup_n (by decide)]; exact (by rw [eσ1431, jup_n (by decide)]; exact w1424))))
                        have w1441 : ∀ k : Nat, k < 8 → 0 ≤ (σ1434 11 k).toInt ∧ (σ1434 11 k).toInt ≤ 3 := (by rw [f1437 11 (by omega)]; exact w1435)
                        have I1442 : jI9 σ1434 := ⟨(by omega), w1440, w1441⟩
                        have z1443 : (σ1434 16 0).toInt = x25.toInt := by rw [(show σ1434 16 0 = x25 from (by rw [f1437 16 (by omega)]; exact (by rw [eσ1433, jup_k (by decide)]; exact (by rw [eσ1432, jup_k (by decide)]; exact (by rw [eσ1431]; exact jup_s)))))]
                        have z1444 : (σ1434 16 1).toInt = 8 := by rw [(show σ1434 16 1 = 8 from (by rw [f1437 16 (by omega)]; exact (by rw [eσ1433, jup_k (by decide)]; exact (by rw [eσ1432]; exact jup_s))))]; exact jz_8
                        have z1445 : (σ1434 16 2).toInt = r1400.toInt := by rw [(show σ1434 16 2 = r1400 from (by rw [f1437 16 (by omega)]; exact (by rw [eσ1433]; exact jup_s)))]
                        have I1446 : jI16 σ1434 := ⟨(by omega), (by omega), (by omega), w1438⟩
                        exact hret (-1) σ1434 τ _ _ _ _ rfl ⟨rfl, (fun i hi => by rw [f1437 i (by omega), eσ1433, jup_n (by omega), eσ1432, jup_n (by omega), eσ1431, jup_n (by omega), f1419 i (by omega), f1401 i (by omega), f1347 i (by omega), f1331 i (by omega), f32 i (by omega), f11 i (by omega)]), (fun k hk => by rw [f1437 9 (by omega), eσ1433, jup_n (by decide), eσ1432, jup_n (by decide), eσ1431, jup_n (by decide), f1420 k (by omega), f1402 k (by omega), f1348 k (by omega), f1332 k (by omega), f33 k (by omega), f12 k (by omega)]), (fun k hk => by rw [f1437 16 (by omega), eσ1433, jup_k (by omega), eσ1432, jup_k (by omega), eσ1431, jup_k (by omega), f1419 16 (by omega), f1401 16 (by omega), f1347 16 (by omega), f1331 16 (by omega), f32 16 (by omega), f11 16 (by omega)]), I1442, I1446, trivial⟩ hP hS dX7_readOrder_179
                      · obtain ⟨q1448, k1447⟩ := h1428
                        refine lv_istore (lv' := [(5, .int r1418), (4, .int r1400), (3, .int 8), (2, .int x25), (0, .ref (ad 9)), (1, .ref (ad 16))]) hx hb dX7_readOrder_137 hl (by decide) rfl (fun ls hl => ?_)
                        refine lv_iload hx hb dX7_readOrder_139 (lv_at hl 0 rfl) ?_
                        refine lv_iconst (v := (-1)) hx hb dX7_readOrder_141 (by decide) ?_
                        refine lv_icmp_eq (tgt := 148) hx hb dX7_readOrder_142 (by decide) (fun c => absurd (jeq c rfl jz_m1) (by omega)) (fun c1449 => ?_)
                        have kc1449 := jne c1449 rfl jz_m1
                        refine lv_iload hx hb dX7_readOrder_145 (lv_at hl 0 rfl) ?_
                        have z1450 : (σ1417 16 0).toInt = (σ 16 0).toInt := by rw [(show σ1417 16 0 = (σ 16 0) from (by rw [f1419 16 (by omega)]; exact (by rw [f1401 16 (by omega)]; exact (by rw [f1347 16 (by omega)]; exact (by rw [f1331 16 (by omega)]; exact (by rw [f32 16 (by omega)]; exact (by rw [f11 16 (by omega)])))))))]
                        have z1451 : (σ1417 16 1).toInt = (σ 16 1).toInt := by rw [(show σ1417 16 1 = (σ 16 1) from (by rw [f1419 16 (by omega)]; exact (by rw [f1401 16 (by omega)]; exact (by rw [f1347 16 (by omega)]; exact (by rw [f1331 16 (by omega)]; exact (by rw [f32 16 (by omega)]; exact (by rw [f11 16 (by omega)])))))))]
                        have z1452 : (σ1417 16 2).toInt = (σ 16 2).toInt := by rw [(show σ1417 16 2 = (σ 16 2) from (by rw [f1419 16 (by omega)]; exact (by rw [f1401 16 (by omega)]; exact (by rw [f1347 16 (by omega)]; exact (by rw [f1331 16 (by omega)]; exact (by rw [f32 16 (by omega)]; exact (by rw [f11 16 (by omega)])))))))]
                        have w1453 : ∀ k : Nat, k < 8 → 0 ≤ (σ1417 17 k).toInt ∧ (σ1417 17 k).toInt ≤ 3 := (by rw [f1419 17 (by omega)]; exact (by rw [f1401 17 (by omega)]; exact (by rw [f1347 17 (by omega)]; exact (by rw [f1331 17 (by omega)]; exact (by rw [f32 17 (by omega)]; exact (by rw [f11 17 (by omega)]; exact w7))))))
                        have I1454 : jI16 σ1417 := ⟨(by omega), (by omega), (by omega), w1453⟩
                        exact hret r1418 σ1417 τ _ _ _ _ rfl ⟨rfl, (fun i hi => by rw [f1419 i (by omega), f1401 i (by omega), f1347 i (by omega), f1331 i (by omega), f32 i (by omega), f11 i (by omega)]), (fun k hk => by rw [f1420 k (by omega), f1402 k (by omega), f1348 k (by omega), f1332 k (by omega), f33 k (by omega), f12 k (by omega)]), (fun k hk => by rw [f1419 16 (by omega), f1401 16 (by omega), f1347 16 (by omega), f1331 16 (by omega), f32 16 (by omega), f11 16 (by omega)]), I1421, I1454, trivial⟩ hP hS dX7_readOrder_147
                  · have kc1344 := jne c1344 rfl jz_0
                    refine lv_aload_n hx hb dX7_readOrder_88 rfl (lv_at hl 3 rfl) ?_
                    refine va_get (D := D) hx hb hts inlX7 hown hK hP 9 (jc_9 cI cL ad σ1329 τ) rfl 1 (by decide) (hts _ kw_13_17) (fun _ h9 => h9) rfl dX7_readOrder_89 ?_
                    refine lv_istore (lv' := [(5, .int (σ1329 9 1)), (4, .int 0), (3, .int 8), (2, .int x25), (0, .ref (ad 9)), (1, .ref (ad 16))]) hx hb dX7_readOrder_92 hl (by decide) rfl (fun ls hl => ?_)
                    refine lv_aload_n hx hb dX7_readOrder_94 rfl (lv_at hl 4 rfl) ?_
                    refine lv_iconst (v := 2) hx hb dX7_readOrder_95 (by decide) ?_
                    refine jcallV (As := [.int 2]) (rest := []) ⟨hx, hb, hml, hown, hts⟩ hK hP hA hS hZ (c_X7_number_2 l D cI cL ad zz hJ σ1329 τ I1333 I1334 I1335) cw_RX7_53 (jc_9 cI cL ad σ1329 τ) rfl ⟨Nat.le_of_ble_eq_true rfl, Nat.le_of_ble_eq_true rfl⟩ rfl rfl rfl hl.1 rfl (Nat.le_of_ble_eq_true rfl) dX7_readOrder_96 ⟨Nat.zero_le _, Nat.zero_le _⟩ (fun r1456 σ1455 τ1455 H locs h1455 hP hS => ?_)
                    obtain ⟨rfl, f1457, f1458, I1459, I1460, I1461, h1455⟩ := h1455
                    obtain ⟨i1462, w1463, w1464⟩ : (0 ≤ (σ1455 9 0).toInt ∧ (σ1455 9 0).toInt ≤ 80) ∧ (∀ k : Nat, k < 80 → 0 ≤ (σ1455 10 k).toInt ∧ (σ1455 10 k).toInt ≤ 255) ∧ (∀ k : Nat, k < 8 → 0 ≤ (σ1455 11 k).toInt ∧ (σ1455 11 k).toInt ≤ 3) := id I1459
                    obtain ⟨i1465, i1466⟩ : (0 ≤ (σ1455 9 1).toInt) ∧ ((σ1455 9 1).toInt ≤ (σ1455 9 0).toInt) := id I1460
                    have i1467 : (-1) ≤ (σ1455 9 2).toInt := I1461
                    have z1468 : (σ1455 9 0).toInt = (σ 9 0).toInt := by rw [(show σ1455 9 0 = (σ 9 0) from (by rw [f1458 0 (by omega)]; exact (by rw [f1332 0 (by omega)]; exact (by rw [f33 0 (by omega)]; exact (by rw [f12 0 (by omega)])))))]
                    obtain ⟨k1469, h1455⟩ := h1455
                    have h1470 := h1455
                    obtain ⟨q1472, k1471⟩ := h1470
                    refine lv_istore_n (lv' := [(3, .int r1456), (5, .int (σ1329 9 1)), (4, .int 0), (2, .int x25), (0, .ref (ad 9)), (1, .ref (ad 16))]) hx hb dX7_readOrder_99 rfl hl (by decide) rfl (fun ls hl => ?_)
                    refine lv_iload_n hx hb dX7_readOrder_100 rfl (lv_at hl 0 rfl) ?_
                    refine lv_iconst (v := 1) hx hb dX7_readOrder_101 (by decide) ?_
                    refine lv_icmp_lt (tgt := 111) hx hb dX7_readOrder_102 (by decide) (fun c1473 => ?_) (fun c1473 => ?_)
                    · have kc1473 := jlt c1473 rfl jz_1
                      refine lv_aload_n hx hb dX7_readOrder_111 rfl (lv_at hl 4 rfl) ?_
                      refine lv_iload hx hb dX7_readOrder_112 (lv_at hl 1 rfl) ?_
                      refine jcallVv (As := [.int (σ1329 9 1)]) (rest := []) ⟨hx, hb, hml, hown, hts⟩ hK hP hA hS hZ (c_X7_fail_9 l D cI cL ad zz hJ σ1455 τ (σ1329 9 1) ((σ1329 9 1).toInt) rfl I1461 (by omega)) cw_RX7_43 (jc_9 cI cL ad σ1455 τ) rfl ⟨Nat.le_of_ble_eq_true rfl, Nat.le_of_ble_eq_true rfl⟩ rfl rfl rfl hl.1 rfl (Nat.le_of_ble_eq_true rfl) dX7_readOrder_114 ⟨Nat.zero_le _, Nat.zero_le _⟩ (fun σ1474 τ1474 H locs h1474 hP hS => ?_)
                      obtain ⟨rfl, f1476, f1477, h1474⟩ := h1474
                      obtain ⟨k1478, h1474⟩ := h1474
                      refine lv_aload_n hx hb dX7_readOrder_117 rfl (lv_at hl 4 rfl) ?_
                      refine lv_bipush (v := 114) hx hb dX7_readOrder_118 (by decide) ?_
                      have z1479 : (σ1474 9 0).toInt = (σ 9 0).toInt := by rw [(show σ1474 9 0 = (σ 9 0) from (by rw [f1477 0 (by omega)]; exact (by rw [f1458 0 (by omega)]; exact (by rw [f1332 0 (by omega)]; exact (by rw [f33 0 (by omega)]; exact (by rw [f12 0 (by omega)]))))))]
                      have w1480 : ∀ k : Nat, k < 80 → 0 ≤ (σ1474 10 k).toInt ∧ (σ1474 10 k).toInt ≤ 255 := (by rw [f1476 10 (by omega)]; exact w1463)
                      have w1481 : ∀ k : Nat, k < 8 → 0 ≤ (σ1474 11 k).toInt ∧ (σ1474 11 k).toInt ≤ 3 := (by rw [f1476 11 (by omega)]; exact w1464)
                      have I1482 : jI9 σ1474 := ⟨(by omega), w1480, w1481⟩
                      have z1483 : (σ1474 9 1).toInt = (σ1455 9 1).toInt := by rw [(show σ1474 9 1 = (σ1455 9 1) from (by rw [f1477 1 (by omega)]))]
                      have I1484 : jI91 σ1474 := ⟨(by omega), (by omega)⟩
                      have I1485 : jI92 σ1474 := (show (-1) ≤ (σ1474 9 2).toInt by omega)
                      refine jcallV (As := [.int 114]) (rest := []) ⟨hx, hb, hml, hown, hts⟩ hK hP hA hS hZ (c_X7_skip_9 l D cI cL ad zz hJ σ1474 τ 114 (114) jz_114 I1482 I1484 I1485 (by omega)) cw_RX7_50 (jc_9 cI cL ad σ1474 τ) rfl ⟨Nat.le_of_ble_eq_true rfl, Nat.le_of_ble_eq_true rfl⟩ rfl rfl rfl hl.1 rfl (Nat.le_of_ble_eq_true rfl) dX7_readOrder_120 ⟨Nat.zero_le _, Nat.zero_le _⟩ (fun r1487 σ1486 τ1486 H locs h1486 hP hS => ?_)
                      obtain ⟨rfl, f1488, f1489, I1490, I1491, I1492, h1486⟩ := h1486
                      obtain ⟨i1493, w1494, w1495⟩ : (0 ≤ (σ1486 9 0).toInt ∧ (σ1486 9 0).toInt ≤ 80) ∧ (∀ k : Nat, k < 80 → 0 ≤ (σ1486 10 k).toInt ∧ (σ1486 10 k).toInt ≤ 255) ∧ (∀ k : Nat, k < 8 → 0 ≤ (σ1486 11 k).toInt ∧ (σ1486 11 k).toInt ≤ 3) := id I1490
                      obtain ⟨i1496, i1497⟩ : (0 ≤ (σ1486 9 1).toInt) ∧ ((σ1486 9 1).toInt ≤ (σ1486 9 0).toInt) := id I1491
                      have i1498 : (-1) ≤ (σ1486 9 2).toInt := I1492
                      have z1499 : (σ1486 9 0).toInt = (σ 9 0).toInt := by rw [(show σ1486 9 0 = (σ 9 0) from (by rw [f1489 0 (by omega)]; exact (by rw [f1477 0 (by omega)]; exact (by rw [f1458 0 (by omega)]; exact (by rw [f1332 0 (by omega)]; exact (by rw [f33 0 (by omega)]; exact (by rw [f12 0 (by omega)])))))))]
                      have z1500 : (σ1486 9 2).toInt = (σ1474 9 2).toInt := by rw [(show σ1486 9 2 = (σ1474 9 2) from (by rw [f1489 2 (by omega)]))]
                      refine lv_if_eq (tgt := 133) hx hb dX7_readOrder_123 (by decide) (fun c1501 => ?_) (fun c1501 => ?_)
                      · have kc1501 := jeq c1501 rfl jz_0
                        refine lv_aload_n hx hb dX7_readOrder_133 rfl (lv_at hl 4 rfl) ?_
                        refine jcallV (As := []) (rest := []) ⟨hx, hb, hml, hown, hts⟩ hK hP hA hS hZ (c_X7_end_9 l D cI cL ad zz hJ σ1486 τ I1490 I1491 I1492) cw_RX7_57 (jc_9 cI cL ad σ1486 τ) rfl ⟨Nat.le_of_ble_eq_true rfl, Nat.le_of_ble_eq_true rfl⟩ rfl rfl rfl hl.1 rfl (Nat.le_of_ble_eq_true rfl) dX7_readOrder_134 ⟨Nat.zero_le _, Nat.zero_le _⟩ (fun r1503 σ1502 τ1502 H locs h1502 hP hS => ?_)
                        obtain ⟨rfl, f1504, f1505, I1506, I1507, h1502⟩ := h1502
                        obtain ⟨i1508, w1509, w1510⟩ : (0 ≤ (σ1502 9 0).toInt ∧ (σ1502 9 0).toInt ≤ 80) ∧ (∀ k : Nat, k < 80 → 0 ≤ (σ1502 10 k).toInt ∧ (σ1502 10 k).toInt ≤ 255) ∧ (∀ k : Nat, k < 8 → 0 ≤ (σ1502 11 k).toInt ∧ (σ1502 11 k).toInt ≤ 3) := id I1506
                        have i1511 : (-1) ≤ (σ1502 9 2).toInt := I1507
                        rcases h1502 with h1512 | h1513
                        · obtain ⟨q1515, k1514⟩ := h1512
                          exact absurd (by omega : False) id
                        · obtain ⟨q1517, k1516⟩ := h1513
                          refine lv_istore (lv' := [(5, .int r1503), (3, .int r1456), (4, .int 0), (2, .int x25), (0, .ref (ad 9)), (1, .ref (ad 16))]) hx hb dX7_readOrder_137 hl (by decide) rfl (fun ls hl => ?_)
                          refine lv_iload hx hb dX7_readOrder_139 (lv_at hl 0 rfl) ?_
                          refine lv_iconst (v := (-1)) hx hb dX7_readOrder_141 (by decide) ?_
                          refine lv_icmp_eq (tgt := 148) hx hb dX7_readOrder_142 (by decide) (fun c => absurd (jeq c rfl jz_m1) (by omega)) (fun c1518 => ?_)
                          have kc1518 := jne c1518 rfl jz_m1
                          refine lv_iload hx hb dX7_readOrder_145 (lv_at hl 0 rfl) ?_
                          have z1519 : (σ1502 16 0).toInt = (σ 16 0).toInt := by rw [(show σ1502 16 0 = (σ 16 0) from (by rw [f1504 16 (by omega)]; exact (by rw [f1488 16 (by omega)]; exact (by rw [f1476 16 (by omega)]; exact (by rw [f1457 16 (by omega)]; exact (by rw [f1331 16 (by omega)]; exact (by rw [f32 16 (by omega)]; exact (by rw [f11 16 (by omega)]))))))))]
                          have z1520 : (σ1502 16 1).toInt = (σ 16 1).toInt := by rw [(show σ1502 16 1 = (σ 16 1) from (by rw [f1504 16 (by omega)]; exact (by rw [f1488 16 (by omega)]; exact (by rw [f1476 16 (by omega)]; exact (by rw [f1457 16 (by omega)]; exact (by rw [f1331 16 (by omega)]; exact (by rw [f32 16 (by omega)]; exact (by rw [f11 16 (by omega)]))))))))]
                          have z1521 : (σ1502 16 2).toInt = (σ 16 2).toInt := by rw [(show σ1502 16 2 = (σ 16 2) from (by rw [f1504 16 (by omega)]; exact (by rw [f1488 16 (by omega)]; exact (by rw [f1476 16 (by omega)]; exact (by rw [f1457 16 (by omega)]; exact (by rw [f1331 16 (by omega)]; exact (by rw [f32 16 (by omega)]; exact (by rw [f11 16 (by omega)]))))))))]
                          have w1522 : ∀ k : Nat, k < 8 → 0 ≤ (σ1502 17 k).toInt ∧ (σ1502 17 k).toInt ≤ 3 := (by rw [f1504 17 (by omega)]; exact (by rw [f1488 17 (by omega)]; exact (by rw [f1476 17 (by omega)]; exact (by rw [f1457 17 (by omega)]; exact (by rw [f1331 17 (by omega)]; exact (by rw [f32 17 (by omega)]; exact (by rw [f11 17 (by omega)]; exact w7)))))))
                          have I1523 : jI16 σ1502 := ⟨(by omega), (by omega), (by omega), w1522⟩
                          exact hret r1503 σ1502 τ _ _ _ _ rfl ⟨rfl, (fun i hi => by rw [f1504 i (by omega), f1488 i (by omega), f1476 i (by omega), f1457 i (by omega), f1331 i (by omega), f32 i (by omega), f11 i (by omega)]), (fun k hk => by rw [f1505 k (by omega), f1489 k (by omega), f1477 k (by omega), f1458 k (by omega), f1332 k (by omega), f33 k (by omega), f12 k (by omega)]), (fun k hk => by rw [f1504 16 (by omega), f1488 16 (by omega), f1476 16 (by omega), f1457 16 (by omega), f1331 16 (by omega), f32 16 (by omega), f11 16 (by omega)]), I1506, I1523, trivial⟩ hP hS dX7_readOrder_147
                      · have kc1501 := jne c1501 rfl jz_0
                        refine lv_aload_n hx hb dX7_readOrder_126 rfl (lv_at hl 4 rfl) ?_
                        refine lv_iconst (v := 3) hx hb dX7_readOrder_127 (by decide) ?_
                        refine jcallV (As := [.int 3]) (rest := []) ⟨hx, hb, hml, hown, hts⟩ hK hP hA hS hZ (c_X7_number_3 l D cI cL ad zz hJ σ1486 τ I1490 I1491 I1492) cw_RX7_53 (jc_9 cI cL ad σ1486 τ) rfl ⟨Nat.le_of_ble_eq_true rfl, Nat.le_of_ble_eq_true rfl⟩ rfl rfl rfl hl.1 rfl (Nat.le_of_ble_eq_true rfl) dX7_readOrder_128 ⟨Nat.zero_le _, Nat.zero_le _⟩ (fun r1525 σ1524 τ1524 H locs h1524 hP hS => ?_)
                        obtain ⟨rfl, f1526, f1527, I1528, I1529, I1530, h1524⟩ := h1524
                        obtain ⟨i1531, w1532, w1533⟩ : (0 ≤ (σ1524 9 0).toInt ∧ (σ1524 9 0).toInt ≤ 80) ∧ (∀ k : Nat, k < 80 → 0 ≤ (σ1524 10 k).toInt ∧ (σ1524 10 k).toInt ≤ 255) ∧ (∀ k : Nat, k < 8 → 0 ≤ (σ1524 11 k).toInt ∧ (σ1524 11 k).toInt ≤ 3) := id I1528
                        obtain ⟨i1534, i1535⟩ : (0 ≤ (σ1524 9 1).toInt) ∧ ((σ1524 9 1).toInt ≤ (σ1524 9 0).toInt) := id I1529
                        have i1536 : (-1) ≤ (σ1524 9 2).toInt := I1530
                        have z1537 : (σ1524 9 0).toInt = (σ 9 0).toInt := by rw [(show σ1524 9 0 = (σ 9 0) from (by rw [f1527 0 (by omega)]; exact (by rw [f1489 0 (by omega)]; exact (by rw [f1477 0 (by omega)]; exact (by rw [f1458 0 (by omega)]; exact (by rw [f1332 0 (by omega)]; exact (by rw [f33 0 (by omega)]; exact (by rw [f12 0 (by omega)]))))))))]
                        obtain ⟨k1538, h1524⟩ := h1524
                        have h1539 := h1524
                        obtain ⟨q1541, k1540⟩ := h1539
                        refine lv_istore (lv' := [(4, .int r1525), (3, .int r1456), (5, .int (σ1329 9 1)), (2, .int x25), (0, .ref (ad 9)), (1, .ref (ad 16))]) hx hb dX7_readOrder_131 hl (by decide) rfl (fun ls hl => ?_)
                        refine lv_aload_n hx hb dX7_readOrder_133 rfl (lv_at hl 4 rfl) ?_
                        refine jcallV (As := []) (rest := []) ⟨hx, hb, hml, hown, hts⟩ hK hP hA hS hZ (c_X7_end_9 l D cI cL ad zz hJ σ1524 τ I1528 I1529 I1530) cw_RX7_57 (jc_9 cI cL ad σ1524 τ) rfl ⟨Nat.le_of_ble_eq_true rfl, Nat.le_of_ble_eq_true rfl⟩ rfl rfl rfl hl.1 rfl (Nat.le_of_ble_eq_true rfl) dX7_readOrder_134 ⟨Nat.zero_le _, Nat.zero_le _⟩ (fun r1543 σ1542 τ1542 H locs h1542 hP hS => ?_)
                        obtain ⟨rfl, f1544, f1545, I1546, I1547, h1542⟩ := h1542
                        obtain ⟨i1548, w1549, w1550⟩ : (0 ≤ (σ1542 9 0).toInt ∧ (σ1542 9 0).toInt ≤ 80) ∧ (∀ k : Nat, k < 80 → 0 ≤ (σ1542 10 k).toInt ∧ (σ1542 10 k).toInt ≤ 255) ∧ (∀ k : Nat, k < 8 → 0 ≤ (σ1542 11 k).toInt ∧ (σ1542 11 k).toInt ≤ 3) := id I1546
                        have i1551 : (-1) ≤ (σ1542 9 2).toInt := I1547
                        rcases h1542 with h1552 | h1553
                        · obtain ⟨q1555, k1554⟩ := h1552
                          exact absurd (by omega : False) id
                        · obtain ⟨q1557, k1556⟩ := h1553
                          refine lv_istore (lv' := [(5, .int r1543), (4, .int r1525), (3, .int r1456), (2, .int x25), (0, .ref (ad 9)), (1, .ref (ad 16))]) hx hb dX7_readOrder_137 hl (by decide) rfl (fun ls hl => ?_)
                          refine lv_iload hx hb dX7_readOrder_139 (lv_at hl 0 rfl) ?_
                          refine lv_iconst (v := (-1)) hx hb dX7_readOrder_141 (by decide) ?_
                          refine lv_icmp_eq (tgt := 148) hx hb dX7_readOrder_142 (by decide) (fun c => absurd (jeq c rfl jz_m1) (by omega)) (fun c1558 => ?_)
                          have kc1558 := jne c1558 rfl jz_m1
                          refine lv_iload hx hb dX7_readOrder_145 (lv_at hl 0 rfl) ?_
                          have z1559 : (σ1542 16 0).toInt = (σ 16 0).toInt := by rw [(show σ1542 16 0 = (σ 16 0) from (by rw [f1544 16 (by omega)]; exact (by rw [f1526 16 (by omega)]; exact (by rw [f1488 16 (by omega)]; exact (by rw [f1476 16 (by omega)]; exact (by rw [f1457 16 (by omega)]; exact (by rw [f1331 16 (by omega)]; exact (by rw [f32 16 (by omega)]; exact (by rw [f11 16 (by omega)])))))))))]
                          have z1560 : (σ1542 16 1).toInt = (σ 16 1).toInt := by rw [(show σ1542 16 1 = (σ 16 1) from (by rw [f1544 16 (by omega)]; exact (by rw [f1526 16 (by omega)]; exact (by rw [f1488 16 (by omega)]; exact (by rw [f1476 16 (by omega)]; exact (by rw [f1457 16 (by omega)]; exact (by rw [f1331 16 (by omega)]; exact (by rw [f32 16 (by omega)]; exact (by rw [f11 16 (by omega)])))))))))]
                          have z1561 : (σ1542 16 2).toInt = (σ 16 2).toInt := by rw [(show σ1542 16 2 = (σ 16 2) from (by rw [f1544 16 (by omega)]; exact (by rw [f1526 16 (by omega)]; exact (by rw [f1488 16 (by omega)]; exact (by rw [f1476 16 (by omega)]; exact (by rw [f1457 16 (by omega)]; exact (by rw [f1331 16 (by omega)]; exact (by rw [f32 16 (by omega)]; exact (by rw [f11 16 (by omega)])))))))))]
                          have w1562 : ∀ k : Nat, k < 8 → 0 ≤ (σ1542 17 k).toInt ∧ (σ1542 17 k).toInt ≤ 3 := (by rw [f1544 17 (by omega)]; exact (by rw [f1526 17 (by omega)]; exact (by rw [f1488 17 (by omega)]; exact (by rw [f1476 17 (by omega)]; exact (by rw [f1457 17 (by omega)]; exact (by rw [f1331 17 (by omega)]; exact (by rw [f32 17 (by omega)]; exact (by rw [f11 17 (by omega)]; exact w7))))))))
                          have I1563 : jI16 σ1542 := ⟨(by omega), (by omega), (by omega), w1562⟩
                          exact hret r1543 σ1542 τ _ _ _ _ rfl ⟨rfl, (fun i hi => by rw [f1544 i (by omega), f1526 i (by omega), f1488 i (by omega), f1476 i (by omega), f1457 i (by omega), f1331 i (by omega), f32 i (by omega), f11 i (by omega)]), (fun k hk => by rw [f1545 k (by omega), f1527 k (by omega), f1489 k (by omega), f1477 k (by omega), f1458 k (by omega), f1332 k (by omega), f33 k (by omega), f12 k (by omega)]), (fun k hk => by rw [f1544 16 (by omega), f1526 16 (by omega), f1488 16 (by omega), f1476 16 (by omega), f1457 16 (by omega), f1331 16 (by omega), f32 16 (by omega), f11 16 (by omega)]), I1546, I1563, trivial⟩ hP hS dX7_readOrder_147
                    · have kc1473 := jnlt c1473 rfl jz_1
                      refine lv_iload_n hx hb dX7_readOrder_105 rfl (lv_at hl 0 rfl) ?_
                      refine lv_bipush (v := 12) hx hb dX7_readOrder_106 (by decide) ?_
                      refine lv_icmp_le (tgt := 117) hx hb dX7_readOrder_108 (by decide) (fun c1564 => ?_) (fun c1564 => ?_)
                      · have kc1564 := jle c1564 rfl jz_12
                        refine lv_aload_n hx hb dX7_readOrder_117 rfl (lv_at hl 4 rfl) ?_
                        refine lv_bipush (v := 114) hx hb dX7_readOrder_118 (by decide) ?_
                        refine jcallV (As := [.int 114]) (rest := []) ⟨hx, hb, hml, hown, hts⟩ hK hP hA hS hZ (c_X7_skip_9 l D cI cL ad zz hJ σ1455 τ 114 (114) jz_114 I1459 I1460 I1461 (by omega)) cw_RX7_50 (jc_9 cI cL ad σ1455 τ) rfl ⟨Nat.le_of_ble_eq_true rfl, Nat.le_of_ble_eq_true rfl⟩ rfl rfl rfl hl.1 rfl (Nat.le_of_ble_eq_true rfl) dX7_readOrder_120 ⟨Nat.zero_le _, Nat.zero_le _⟩ (fun r1566 σ1565 τ1565 H locs h1565 hP hS => ?_)
                        obtain ⟨rfl, f1567, f1568, I1569, I1570, I1571, h1565⟩ := h1565
                        obtain ⟨i1572, w1573, w1574⟩ : (0 ≤ (σ1565 9 0).toInt ∧ (σ1565 9 0).toInt ≤ 80) ∧ (∀ k : Nat, k < 80 → 0 ≤ (σ1565 10 k).toInt ∧ (σ1565 10 k).toInt ≤ 255) ∧ (∀ k : Nat, k < 8 → 0 ≤ (σ1565 11 k).toInt ∧ (σ1565 11 k).toInt ≤ 3) := id I1569
                        obtain ⟨i1575, i1576⟩ : (0 ≤ (σ1565 9 1).toInt) ∧ ((σ1565 9 1).toInt ≤ (σ1565 9 0).toInt) := id I1570
                        have i1577 : (-1) ≤ (σ1565 9 2).toInt := I1571
                        have z1578 : (σ1565 9 0).toInt = (σ 9 0).toInt := by rw [(show σ1565 9 0 = (σ 9 0) from (by rw [f1568 0 (by omega)]; exact (by rw [f1458 0 (by omega)]; exact (by rw [f1332 0 (by omega)]; exact (by rw [f33 0 (by omega)]; exact (by rw [f12 0 (by omega)]))))))]
                        have z1579 : (σ1565 9 2).toInt = (σ1455 9 2).toInt := by rw [(show σ1565 9 2 = (σ1455 9 2) from (by rw [f1568 2 (by omega)]))]
                        refine lv_if_eq (tgt := 133) hx hb dX7_readOrder_123 (by decide) (fun c1580 => ?_) (fun c1580 => ?_)
                        · have kc1580 := jeq c1580 rfl jz_0
                          refine lv_aload_n hx hb dX7_readOrder_133 rfl (lv_at hl 4 rfl) ?_
                          refine jcallV (As := []) (rest := []) ⟨hx, hb, hml, hown, hts⟩ hK hP hA hS hZ (c_X7_end_9 l D cI cL ad zz hJ σ1565 τ I1569 I1570 I1571) cw_RX7_57 (jc_9 cI cL ad σ1565 τ) rfl ⟨Nat.le_of_ble_eq_true rfl, Nat.le_of_ble_eq_true rfl⟩ rfl rfl rfl hl.1 rfl (Nat.le_of_ble_eq_true rfl) dX7_readOrder_134 ⟨Nat.zero_le _, Nat.zero_le _⟩ (fun r1582 σ1581 τ1581 H locs h1581 hP hS => ?_)
                          obtain ⟨rfl, f1583, f1584, I1585, I1586, h1581⟩ := h1581
                          obtain ⟨i1587, w1588, w1589⟩ : (0 ≤ (σ1581 9 0).toInt ∧ (σ1581 9 0).toInt ≤ 80) ∧ (∀ k : Nat, k < 80 → 0 ≤ (σ1581 10 k).toInt ∧ (σ1581 10 k).toInt ≤ 255) ∧ (∀ k : Nat, k < 8 → 0 ≤ (σ1581 11 k).toInt ∧ (σ1581 11 k).toInt ≤ 3) := id I1585
                          have i1590 : (-1) ≤ (σ1581 9 2).toInt := I1586
                          rcases h1581 with h1591 | h1592
                          · obtain ⟨q1594, k1593⟩ := h1591
                            have q1594 := q1594.symm
                            subst q1594
                            refine lv_istore (lv' := [(5, .int (-1)), (3, .int r1456), (4, .int 0), (2, .int x25), (0, .ref (ad 9)), (1, .ref (ad 16))]) hx hb dX7_readOrder_137 hl (by decide) rfl (fun ls hl => ?_)
                            refine lv_iload hx hb dX7_readOrder_139 (lv_at hl 0 rfl) ?_
                            refine lv_iconst (v := (-1)) hx hb dX7_readOrder_141 (by decide) ?_
                            refine lv_icmp_eq (tgt := 148) hx hb dX7_readOrder_142 (by decide) (fun _ => ?_) (fun c => absurd (by decide) c)
                            refine lv_aload_n hx hb dX7_readOrder_148 rfl (lv_at hl 5 rfl) ?_
                            refine lv_iload_n hx hb dX7_readOrder_149 rfl (lv_at hl 3 rfl) ?_
                            refine jput (ty := .int) hx hb hts inlX6 tyX6 tyX6_ok nmX6 hown hK hP hJ hA hS (jc_16 cI cL ad σ1581 τ) rfl (k := 0) (by decide) (Nat.le_of_ble_eq_true rfl) (jp_16_0 cI cL ad σ1581 τ x25) (hts _ kw_13_18) (fun _ h9 => h9) rfl (by decide +kernel) rfl rfl dX7_readOrder_150 (fun σ1595 H locs eσ1595 hP hS => ?_)
                            refine lv_aload_n hx hb dX7_readOrder_153 rfl (lv_at hl 5 rfl) ?_
                            refine lv_iload_n hx hb dX7_readOrder_154 rfl (lv_at hl 1 rfl) ?_
                            refine jput (ty := .int) hx hb hts inlX6 tyX6 tyX6_ok nmX6 hown hK hP hJ hA hS (jc_16 cI cL ad σ1595 τ) rfl (k := 1) (by decide) (Nat.le_of_ble_eq_true rfl) (jp_16_1 cI cL ad σ1595 τ r1456) (hts _ kw_13_19) (fun _ h9 => h9) rfl (by decide +kernel) rfl rfl dX7_readOrder_155 (fun σ1596 H locs eσ1596 hP hS => ?_)
                            refine lv_aload_n hx hb dX7_readOrder_158 rfl (lv_at hl 5 rfl) ?_
                            refine lv_iload hx hb dX7_readOrder_159 (lv_at hl 2 rfl) ?_
                            refine jput (ty := .int) hx hb hts inlX6 tyX6 tyX6_ok nmX6 hown hK hP hJ hA hS (jc_16 cI cL ad σ1596 τ) rfl (k := 2) (by decide) (Nat.le_of_ble_eq_true rfl) (jp_16_2 cI cL ad σ1596 τ 0) (hts _ kw_13_20) (fun _ h9 => h9) rfl (by decide +kernel) rfl rfl dX7_readOrder_161 (fun σ1597 H locs eσ1597 hP hS => ?_)
                            refine lv_aload_n hx hb dX7_readOrder_164 rfl (lv_at hl 4 rfl) ?_
                            refine va_get (D := D) hx hb hts inlX7 hown hK hP 9 (jc_9 cI cL ad σ1597 τ) rfl 4 (by decide) (hts _ kw_3_21) (fun _ h9 => h9) rfl dX7_readOrder_165 ?_
                            refine lv_iconst (v := 0) hx hb dX7_readOrder_168 (by decide) ?_
                            refine lv_aload_n hx hb dX7_readOrder_169 rfl (lv_at hl 5 rfl) ?_
                            refine va_get (D := D) hx hb hts inlX6 hown hK hP 16 (jc_16 cI cL ad σ1597 τ) rfl 3 (by decide) (hts _ kw_13_21) (fun _ h9 => h9) rfl dX7_readOrder_170 ?_
                            refine lv_iconst (v := 0) hx hb dX7_readOrder_173 (by decide) ?_
                            refine lv_iload_n hx hb dX7_readOrder_174 rfl (lv_at hl 3 rfl) ?_
                            refine jcpyI (q0 := 11) (q1 := 17) hx hb (hml.trans hl.1.symm) hown (hts _ kw_13_22) (hts _ kw_13_23) (hts _ kw_14_0) (hts _ kw_14_1) hK hP hJ hA hS (jc_11 cI cL ad σ1597 τ) (jc_17 cI cL ad σ1597 τ) (fun _ => rfl) jz_0 jz_0 rfl (by omega) (by omega) (by omega) (by omega) (by omega) (Nat.le_of_ble_eq_true rfl) (Nat.le_of_ble_eq_true rfl) dX7_readOrder_175 (fun σ1598 H locs eσ1598 hP hS => ?_)
                            have w1599 : ∀ k : Nat, k < 8 → 0 ≤ (σ1597 11 k).toInt ∧ (σ1597 11 k).toInt ≤ 3 := (by rw [eσ1597, jup_n (by decide)]; exact (by rw [eσ1596, jup_n (by decide)]; exact (by rw [eσ1595, jup_n (by decide)]; exact w1589)))
                            have w1600 : ∀ k : Nat, k < 8 → 0 ≤ (σ1597 17 k).toInt ∧ (σ1597 17 k).toInt ≤ 3 := (by rw [eσ1597, jup_n (by decide)]; exact (by rw [eσ1596, jup_n (by decide)]; exact (by rw [eσ1595, jup_n (by decide)]; exact (by rw [f1583 17 (by omega)]; exact (by rw [f1567 17 (by omega)]; exact (by rw [f1457 17 (by omega)]; exact (by rw [f1331 17 (by omega)]; exact (by rw [f32 17 (by omega)]; exact (by rw [f11 17 (by omega)]; exact w7)))))))))
                            have f1601 : (∀ i : Nat, (i < 17 ∨ 17 < i) → σ1598 i = σ1597 i) := by rw [eσ1598]; exact jrow_n
                            have w1602 : ∀ k : Nat, k < 8 → 0 ≤ (σ1598 17 k).toInt ∧ (σ1598 17 k).toInt ≤ 3 := by rw [eσ1598]; exact jrow_rr w1599 w1600 jz_0 rfl (n0 := 8) (by omega) (by omega) (by omega)
                            refine lv_iconst (v := (-1)) hx hb dX7_readOrder_178 (by decide) ?_
                            have z1603 : (σ1598 9 0).toInt = (σ1581 9 0).toInt := by rw [(show σ1598 9 0 = (σ1581 9 0) from (by rw [f1601 9 (by omega)]; exact (by rw [eσ1597, jup_n (by decide)]; exact (by rw [eσ1596, jup_n (by decide)]; exact (by rw [eσ1595, jup_n (by decide)])))))]
                            have w1604 : ∀ k : Nat, k < 80 → 0 ≤ (σ1598 10 k).toInt ∧ (σ1598 10 k).toInt ≤ 255 := (by rw [f1601 10 (by omega)]; exact (by rw [eσ1597, jup_n (by decide)]; exact (by rw [eσ1596, jup_n (by decide)]; exact (by rw [eσ1595, jup_n (by decide)]; exact w1588))))
                            have w1605 : ∀ k : Nat, k < 8 → 0 ≤ (σ1598 11 k).toInt ∧ (σ1598 11 k).toInt ≤ 3 := (by rw [f1601 11 (by omega)]; exact w1599)
                            have I1606 : jI9 σ1598 := ⟨(by omega), w1604, w1605⟩
                            have z1607 : (σ1598 16 0).toInt = x25.toInt := by rw [(show σ1598 16 0 = x25 from (by rw [f1601 16 (by omega)]; exact (by rw [eσ1597, jup_k (by decide)]; exact (by rw [eσ1596, jup_k (by decide)]; exact (by rw [eσ1595]; exact jup_s)))))]
                            have z1608 : (σ1598 16 1).toInt = r1456.toInt := by rw [(show σ1598 16 1 = r1456 from (by rw [f1601 16 (by omega)]; exact (by rw [eσ1597, jup_k (by decide)]; exact (by rw [eσ1596]; exact jup_s))))]
                            have z1609 : (σ1598 16 2).toInt = 0 := by rw [(show σ1598 16 2 = 0 from (by rw [f1601 16 (by omega)]; exact (by rw [eσ1597]; exact jup_s)))]; exact jz_0
                            have I1610 : jI16 σ1598 := ⟨(by omega), (by omega), (by omega), w1602⟩
                            exact hret (-1) σ1598 τ _ _ _ _ rfl ⟨rfl, (fun i hi => by rw [f1601 i (by omega), eσ1597, jup_n (by omega), eσ1596, jup_n (by omega), eσ1595, jup_n (by omega), f1583 i (by omega), f1567 i (by omega), f1457 i (by omega), f1331 i (by omega), f32 i (by omega), f11 i (by omega)]), (fun k hk => by rw [f1601 9 (by omega), eσ1597, jup_n (by decide), eσ1596, jup_n (by decide), eσ1595, jup_n (by decide), f1584 k (by omega), f1568 k (by omega), f1458 k (by omega), f1332 k (by omega), f33 k (by omega), f12 k (by omega)]), (fun k hk => by rw [f1601 16 (by omega), eσ1597, jup_k (by omega), eσ1596, jup_k (by omega), eσ1595, jup_k (by omega), f1583 16 (by omega), f1567 16 (by omega), f1457 16 (by omega), f1331 16 (by omega), f32 16 (by omega), f11 16 (by omega)]), I1606, I1610, trivial⟩ hP hS dX7_readOrder_179
                          · obtain ⟨q1612, k1611⟩ := h1592
                            refine lv_istore (lv' := [(5, .int r1582), (3, .int r1456), (4, .int 0), (2, .int x25), (0, .ref (ad 9)), (1, .ref (ad 16))]) hx hb dX7_readOrder_137 hl (by decide) rfl (fun ls hl => ?_)
                            refine lv_iload hx hb dX7_readOrder_139 (lv_at hl 0 rfl) ?_
                            refine lv_iconst (v := (-1)) hx hb dX7_readOrder_141 (by decide) ?_
                            refine lv_icmp_eq (tgt := 148) hx hb dX7_readOrder_142 (by decide) (fun c => absurd (jeq c rfl jz_m1) (by omega)) (fun c1613 => ?_)
                            have kc1613 := jne c1613 rfl jz_m1
                            refine lv_iload hx hb dX7_readOrder_145 (lv_at hl 0 rfl) ?_
                            have z1614 : (σ1581 16 0).toInt = (σ 16 0).toInt := by rw [(show σ1581 16 0 = (σ 16 0) from (by rw [f1583 16 (by omega)]; exact (by rw [f1567 16 (by omega)]; exact (by rw [f1457 16 (by omega)]; exact (by rw [f1331 16 (by omega)]; exact (by rw [f32 16 (by omega)]; exact (by rw [f11 16 (by omega)])))))))]
                            have z1615 : (σ1581 16 1).toInt = (σ 16 1).toInt := by rw [(show σ1581 16 1 = (σ 16 1) from (by rw [f1583 16 (by omega)]; exact (by rw [f1567 16 (by omega)]; exact (by rw [f1457 16 (by omega)]; exact (by rw [f1331 16 (by omega)]; exact (by rw [f32 16 (by omega)]; exact (by rw [f11 16 (by omega)])))))))]
                            have z1616 : (σ1581 16 2).toInt = (σ 16 2).toInt := by rw [(show σ1581 16 2 = (σ 16 2) from (by rw [f1583 16 (by omega)]; exact (by rw [f1567 16 (by omega)]; exact (by rw [f1457 16 (by omega)]; exact (by rw [f1331 16 (by omega)]; exact (by rw [f32 16 (by omega)]; exact (by rw [f11 16 (by omega)])))))))]
                            have w1617 : ∀ k : Nat, k < 8 → 0 ≤ (σ1581 17 k).toInt ∧ (σ1581 17 k).toInt ≤ 3 := (by rw [f1583 17 (by omega)]; exact (by rw [f1567 17 (by omega)]; exact (by rw [f1457 17 (by omega)]; exact (by rw [f1331 17 (by omega)]; exact (by rw [f32 17 (by omega)]; exact (by rw [f11 17 (by omega)]; exact w7))))))
                            have I1618 : jI16 σ1581 := ⟨(by omega), (by omega), (by omega), w1617⟩
                            exact hret r1582 σ1581 τ _ _ _ _ rfl ⟨rfl, (fun i hi => by rw [f1583 i (by omega), f1567 i (by omega), f1457 i (by omega), f1331 i (by omega), f32 i (by omega), f11 i (by omega)]), (fun k hk => by rw [f1584 k (by omega), f1568 k (by omega), f1458 k (by omega), f1332 k (by omega), f33 k (by omega), f12 k (by omega)]), (fun k hk => by rw [f1583 16 (by omega), f1567 16 (by omega), f1457 16 (by omega), f1331 16 (by omega), f32 16 (by omega), f11 16 (by omega)]), I1585, I1618, trivial⟩ hP hS dX7_readOrder_147
                        · have kc1580 := jne c1580 rfl jz_0
                          refine lv_aload_n hx hb dX7_readOrder_126 rfl (lv_at hl 4 rfl) ?_
                          refine lv_iconst (v := 3) hx hb dX7_readOrder_127 (by decide) ?_
                          refine jcallV (As := [.int 3]) (rest := []) ⟨hx, hb, hml, hown, hts⟩ hK hP hA hS hZ (c_X7_number_3 l D cI cL ad zz hJ σ1565 τ I1569 I1570 I1571) cw_RX7_53 (jc_9 cI cL ad σ1565 τ) rfl ⟨Nat.le_of_ble_eq_true rfl, Nat.le_of_ble_eq_true rfl⟩ rfl rfl rfl hl.1 rfl (Nat.le_of_ble_eq_true rfl) dX7_readOrder_128 ⟨Nat.zero_le _, Nat.zero_le _⟩ (fun r1620 σ1619 τ1619 H locs h1619 hP hS => ?_)
                          obtain ⟨rfl, f1621, f1622, I1623, I1624, I1625, h1619⟩ := h1619
                          obtain ⟨i1626, w1627, w1628⟩ : (0 ≤ (σ1619 9 0).toInt ∧ (σ1619 9 0).toInt ≤ 80) ∧ (∀ k : Nat, k < 80 → 0 ≤ (σ1619 10 k).toInt ∧ (σ1619 10 k).toInt ≤ 255) ∧ (∀ k : Nat, k < 8 → 0 ≤ (σ1619 11 k).toInt ∧ (σ1619 11 k).toInt ≤ 3) := id I1623
                          obtain ⟨i1629, i1630⟩ : (0 ≤ (σ1619 9 1).toInt) ∧ ((σ1619 9 1).toInt ≤ (σ1619 9 0).toInt) := id I1624
                          have i1631 : (-1) ≤ (σ1619 9 2).toInt := I1625
                          have z1632 : (σ1619 9 0).toInt = (σ 9 0).toInt := by rw [(show σ1619 9 0 = (σ 9 0) from (by rw [f1622 0 (by omega)]; exact (by rw [f1568 0 (by omega)]; exact (by rw [f1458 0 (by omega)]; exact (by rw [f1332 0 (by omega)]; exact (by rw [f33 0 (by omega)]; exact (by rw [f12 0 (by omega)])))))))]
                          obtain ⟨k1633, h1619⟩ := h1619
                          have h1634 := h1619
                          obtain ⟨q1636, k1635⟩ := h1634
                          refine lv_istore (lv' := [(4, .int r1620), (3, .int r1456), (5, .int (σ1329 9 1)), (2, .int x25), (0, .ref (ad 9)), (1, .ref (ad 16))]) hx hb dX7_readOrder_131 hl (by decide) rfl (fun ls hl => ?_)
                          refine lv_aload_n hx hb dX7_readOrder_133 rfl (lv_at hl 4 rfl) ?_
                          refine jcallV (As := []) (rest := []) ⟨hx, hb, hml, hown, hts⟩ hK hP hA hS hZ (c_X7_end_9 l D cI cL ad zz hJ σ1619 τ I1623 I1624 I1625) cw_RX7_57 (jc_9 cI cL ad σ1619 τ) rfl ⟨Nat.le_of_ble_eq_true rfl, Nat.le_of_ble_eq_true rfl⟩ rfl rfl rfl hl.1 rfl (Nat.le_of_ble_eq_true rfl) dX7_readOrder_134 ⟨Nat.zero_le _, Nat.zero_le _⟩ (fun r1638 σ1637 τ1637 H locs h1637 hP hS => ?_)
                          obtain ⟨rfl, f1639, f1640, I1641, I1642, h1637⟩ := h1637
                          obtain ⟨i1643, w1644, w1645⟩ : (0 ≤ (σ1637 9 0).toInt ∧ (σ1637 9 0).toInt ≤ 80) ∧ (∀ k : Nat, k < 80 → 0 ≤ (σ1637 10 k).toInt ∧ (σ1637 10 k).toInt ≤ 255) ∧ (∀ k : Nat, k < 8 → 0 ≤ (σ1637 11 k).toInt ∧ (σ1637 11 k).toInt ≤ 3) := id I1641
                          have i1646 : (-1) ≤ (σ1637 9 2).toInt := I1642
                          rcases h1637 with h1647 | h1648
                          · obtain ⟨q1650, k1649⟩ := h1647
                            have q1650 := q1650.symm
                            subst q1650
                            refine lv_istore (lv' := [(5, .int (-1)), (4, .int r1620), (3, .int r1456), (2, .int x25), (0, .ref (ad 9)), (1, .ref (ad 16))]) hx hb dX7_readOrder_137 hl (by decide) rfl (fun ls hl => ?_)
                            refine lv_iload hx hb dX7_readOrder_139 (lv_at hl 0 rfl) ?_
                            refine lv_iconst (v := (-1)) hx hb dX7_readOrder_141 (by decide) ?_
                            refine lv_icmp_eq (tgt := 148) hx hb dX7_readOrder_142 (by decide) (fun _ => ?_) (fun c => absurd (by decide) c)
                            refine lv_aload_n hx hb dX7_readOrder_148 rfl (lv_at hl 5 rfl) ?_
                            refine lv_iload_n hx hb dX7_readOrder_149 rfl (lv_at hl 3 rfl) ?_
                            refine jput (ty := .int) hx hb hts inlX6 tyX6 tyX6_ok nmX6 hown hK hP hJ hA hS (jc_16 cI cL ad σ1637 τ) rfl (k := 0) (by decide) (Nat.le_of_ble_eq_true rfl) (jp_16_0 cI cL ad σ1637 τ x25) (hts _ kw_13_18) (fun _ h9 => h9) rfl (by decide +kernel) rfl rfl dX7_readOrder_150 (fun σ1651 H locs eσ1651 hP hS => ?_)
                            refine lv_aload_n hx hb dX7_readOrder_153 rfl (lv_at hl 5 rfl) ?_
                            refine lv_iload_n hx hb dX7_readOrder_154 rfl (lv_at hl 2 rfl) ?_
                            refine jput (ty := .int) hx hb hts inlX6 tyX6 tyX6_ok nmX6 hown hK hP hJ hA hS (jc_16 cI cL ad σ1651 τ) rfl (k := 1) (by decide) (Nat.le_of_ble_eq_true rfl) (jp_16_1 cI cL ad σ1651 τ r1456) (hts _ kw_13_19) (fun _ h9 => h9) rfl (by decide +kernel) rfl rfl dX7_readOrder_155 (fun σ1652 H locs eσ1652 hP hS => ?_)
                            refine lv_aload_n hx hb dX7_readOrder_158 rfl (lv_at hl 5 rfl) ?_
                            refine lv_iload hx hb dX7_readOrder_159 (lv_at hl 1 rfl) ?_
                            refine jput (ty := .int) hx hb hts inlX6 tyX6 tyX6_ok nmX6 hown hK hP hJ hA hS (jc_16 cI cL ad σ1652 τ) rfl (k := 2) (by decide) (Nat.le_of_ble_eq_true rfl) (jp_16_2 cI cL ad σ1652 τ r1620) (hts _ kw_13_20) (fun _ h9 => h9) rfl (by decide +kernel) rfl rfl dX7_readOrder_161 (fun σ1653 H locs eσ1653 hP hS => ?_)
                            refine lv_aload_n hx hb dX7_readOrder_164 rfl (lv_at hl 4 rfl) ?_
                            refine va_get (D := D) hx hb hts inlX7 hown hK hP 9 (jc_9 cI cL ad σ1653 τ) rfl 4 (by decide) (hts _ kw_3_21) (fun _ h9 => h9) rfl dX7_readOrder_165 ?_
                            refine lv_iconst (v := 0) hx hb dX7_readOrder_168 (by decide) ?_
                            refine lv_aload_n hx hb dX7_readOrder_169 rfl (lv_at hl 5 rfl) ?_
                            refine va_get (D := D) hx hb hts inlX6 hown hK hP 16 (jc_16 cI cL ad σ1653 τ) rfl 3 (by decide) (hts _ kw_13_21) (fun _ h9 => h9) rfl dX7_readOrder_170 ?_
                            refine lv_iconst (v := 0) hx hb dX7_readOrder_173 (by decide) ?_
                            refine lv_iload_n hx hb dX7_readOrder_174 rfl (lv_at hl 3 rfl) ?_
                            refine jcpyI (q0 := 11) (q1 := 17) hx hb (hml.trans hl.1.symm) hown (hts _ kw_13_22) (hts _ kw_13_23) (hts _ kw_14_0) (hts _ kw_14_1) hK hP hJ hA hS (jc_11 cI cL ad σ1653 τ) (jc_17 cI cL ad σ1653 τ) (fun _ => rfl) jz_0 jz_0 rfl (by omega) (by omega) (by omega) (by omega) (by omega) (Nat.le_of_ble_eq_true rfl) (Nat.le_of_ble_eq_true rfl) dX7_readOrder_175 (fun σ1654 H locs eσ1654 hP hS => ?_)
                            have w1655 : ∀ k : Nat, k < 8 → 0 ≤ (σ1653 11 k).toInt ∧ (σ1653 11 k).toInt ≤ 3 := (by rw [eσ1653, jup_n (by decide)]; exact (by rw [eσ1652, jup_n (by decide)]; exact (by rw [eσ1651, jup_n (by decide)]; exact w1645)))
                            have w1656 : ∀ k : Nat, k < 8 → 0 ≤ (σ1653 17 k).toInt ∧ (σ1653 17 k).toInt ≤ 3 := (by rw [eσ1653, jup_n (by decide)]; exact (by rw [eσ1652, jup_n (by decide)]; exact (by rw [eσ1651, jup_n (by decide)]; exact (by rw [f1639 17 (by omega)]; exact (by rw [f1621 17 (by omega)]; exact (by rw [f1567 17 (by omega)]; exact (by rw [f1457 17 (by omega)]; exact (by rw [f1331 17 (by omega)]; exact (by rw [f32 17 (by omega)]; exact (by rw [f11 17 (by omega)]; exact w7))))))))))
                            have f1657 : (∀ i : Nat, (i < 17 ∨ 17 < i) → σ1654 i = σ1653 i) := by rw [eσ1654]; exact jrow_n
                            have w1658 : ∀ k : Nat, k < 8 → 0 ≤ (σ1654 17 k).toInt ∧ (σ1654 17 k).toInt ≤ 3 := by rw [eσ1654]; exact jrow_rr w1655 w1656 jz_0 rfl (n0 := 8) (by omega) (by omega) (by omega)
                            refine lv_iconst (v := (-1)) hx hb dX7_readOrder_178 (by decide) ?_
                            have z1659 : (σ1654 9 0).toInt = (σ1637 9 0).toInt := by rw [(show σ1654 9 0 = (σ1637 9 0) from (by rw [f1657 9 (by omega)]; exact (by rw [eσ1653, jup_n (by decide)]; exact (by rw [eσ1652, jup_n (by decide)]; exact (by rw [eσ1651, jup_n (by decide)])))))]
                            have w1660 : ∀ k : Nat, k < 80 → 0 ≤ (σ1654 10 k).toInt ∧ (σ1654 10 k).toInt ≤ 255 := (by rw [f1657 10 (by omega)]; exact (by rw [eσ1653, jup_n (by decide)]; exact (by rw [eσ1652, jup_n (by decide)]; exact (by rw [eσ1651, jup_n (by decide)]; exact w1644))))
                            have w1661 : ∀ k : Nat, k < 8 → 0 ≤ (σ1654 11 k).toInt ∧ (σ1654 11 k).toInt ≤ 3 := (by rw [f1657 11 (by omega)]; exact w1655)
                            have I1662 : jI9 σ1654 := ⟨(by omega), w1660, w1661⟩
                            have z1663 : (σ1654 16 0).toInt = x25.toInt := by rw [(show σ1654 16 0 = x25 from (by rw [f1657 16 (by omega)]; exact (by rw [eσ1653, jup_k (by decide)]; exact (by rw [eσ1652, jup_k (by decide)]; exact (by rw [eσ1651]; exact jup_s)))))]
                            have z1664 : (σ1654 16 1).toInt = r1456.toInt := by rw [(show σ1654 16 1 = r1456 from (by rw [f1657 16 (by omega)]; exact (by rw [eσ1653, jup_k (by decide)]; exact (by rw [eσ1652]; exact jup_s))))]
                            have z1665 : (σ1654 16 2).toInt = r1620.toInt := by rw [(show σ1654 16 2 = r1620 from (by rw [f1657 16 (by omega)]; exact (by rw [eσ1653]; exact jup_s)))]
                            have I1666 : jI16 σ1654 := ⟨(by omega), (by omega), (by omega), w1658⟩
                            exact hret (-1) σ1654 τ _ _ _ _ rfl ⟨rfl, (fun i hi => by rw [f1657 i (by omega), eσ1653, jup_n (by omega), eσ1652, jup_n (by omega), eσ1651, jup_n (by omega), f1639 i (by omega), f1621 i (by omega), f1567 i (by omega), f1457 i (by omega), f1331 i (by omega), f32 i (by omega), f11 i (by omega)]), (fun k hk => by rw [f1657 9 (by omega), eσ1653, jup_n (by decide), eσ1652, jup_n (by decide), eσ1651, jup_n (by decide), f1640 k (by omega), f1622 k (by omega), f1568 k (by omega), f1458 k (by omega), f1332 k (by omega), f33 k (by omega), f12 k (by omega)]), (fun k hk => by rw [f1657 16 (by omega), eσ1653, jup_k (by omega), eσ1652, jup_k (by omega), eσ1651, jup_k (by omega), f1639 16 (by omega), f1621 16 (by omega), f1567 16 (by omega), f1457 16 (by omega), f1331 16 (by omega), f32 16 (by omega), f11 16 (by omega)]), I1662, I1666, trivial⟩ hP hS dX7_readOrder_179
                          · obtain ⟨q1668, k1667⟩ := h1648
                            refine lv_istore (lv' := [(5, .int r1638), (4, .int r1620), (3, .int r1456), (2, .int x25), (0, .ref (ad 9)), (1, .ref (ad 16))]) hx hb dX7_readOrder_137 hl (by decide) rfl (fun ls hl => ?_)
                            refine lv_iload hx hb dX7_readOrder_139 (lv_at hl 0 rfl) ?_
                            refine lv_iconst (v := (-1)) hx hb dX7_readOrder_141 (by decide) ?_
                            refine lv_icmp_eq (tgt := 148) hx hb dX7_readOrder_142 (by decide) (fun c => absurd (jeq c rfl jz_m1) (by omega)) (fun c1669 => ?_)
                            have kc1669 := jne c1669 rfl jz_m1
                            refine lv_iload hx hb dX7_readOrder_145 (lv_at hl 0 rfl) ?_
                            have z1670 : (σ1637 16 0).toInt = (σ 16 0).toInt := by rw [(show σ1637 16 0 = (σ 16 0) from (by rw [f1639 16 (by omega)]; exact (by rw [f1621 16 (by omega)]; exact (by rw [f1567 16 (by omega)]; exact (by rw [f1457 16 (by omega)]; exact (by rw [f1331 16 (by omega)]; exact (by rw [f32 16 (by omega)]; exact (by rw [f11 16 (by omega)]))))))))]
                            have z1671 : (σ1637 16 1).toInt = (σ 16 1).toInt := by rw [(show σ1637 16 1 = (σ 16 1) from (by rw [f1639 16 (by omega)]; exact (by rw [f1621 16 (by omega)]; exact (by rw [f1567 16 (by omega)]; exact (by rw [f1457 16 (by omega)]; exact (by rw [f1331 16 (by omega)]; exact (by rw [f32 16 (by omega)]; exact (by rw [f11 16 (by omega)]))))))))]
                            have z1672 : (σ1637 16 2).toInt = (σ 16 2).toInt := by rw [(show σ1637 16 2 = (σ 16 2) from (by rw [f1639 16 (by omega)]; exact (by rw [f1621 16 (by omega)]; exact (by rw [f1567 16 (by omega)]; exact (by rw [f1457 16 (by omega)]; exact (by rw [f1331 16 (by omega)]; exact (by rw [f32 16 (by omega)]; exact (by rw [f11 16 (by omega)]))))))))]
                            have w1673 : ∀ k : Nat, k < 8 → 0 ≤ (σ1637 17 k).toInt ∧ (σ1637 17 k).toInt ≤ 3 := (by rw [f1639 17 (by omega)]; exact (by rw [f1621 17 (by omega)]; exact (by rw [f1567 17 (by omega)]; exact (by rw [f1457 17 (by omega)]; exact (by rw [f1331 17 (by omega)]; exact (by rw [f32 17 (by omega)]; exact (by rw [f11 17 (by omega)]; exact w7)))))))
                            have I1674 : jI16 σ1637 := ⟨(by omega), (by omega), (by omega), w1673⟩
                            exact hret r1638 σ1637 τ _ _ _ _ rfl ⟨rfl, (fun i hi => by rw [f1639 i (by omega), f1621 i (by omega), f1567 i (by omega), f1457 i (by omega), f1331 i (by omega), f32 i (by omega), f11 i (by omega)]), (fun k hk => by rw [f1640 k (by omega), f1622 k (by omega), f1568 k (by omega), f1458 k (by omega), f1332 k (by omega), f33 k (by omega), f12 k (by omega)]), (fun k hk => by rw [f1639 16 (by omega), f1621 16 (by omega), f1567 16 (by omega), f1457 16 (by omega), f1331 16 (by omega), f32 16 (by omega), f11 16 (by omega)]), I1641, I1674, trivial⟩ hP hS dX7_readOrder_147
                      · have kc1564 := jnle c1564 rfl jz_12
                        refine lv_aload_n hx hb dX7_readOrder_111 rfl (lv_at hl 4 rfl) ?_
                        refine lv_iload hx hb dX7_readOrder_112 (lv_at hl 1 rfl) ?_
                        refine jcallVv (As := [.int (σ1329 9 1)]) (rest := []) ⟨hx, hb, hml, hown, hts⟩ hK hP hA hS hZ (c_X7_fail_9 l D cI cL ad zz hJ σ1455 τ (σ1329 9 1) ((σ1329 9 1).toInt) rfl I1461 (by omega)) cw_RX7_43 (jc_9 cI cL ad σ1455 τ) rfl ⟨Nat.le_of_ble_eq_true rfl, Nat.le_of_ble_eq_true rfl⟩ rfl rfl rfl hl.1 rfl (Nat.le_of_ble_eq_true rfl) dX7_readOrder_114 ⟨Nat.zero_le _, Nat.zero_le _⟩ (fun σ1675 τ1675 H locs h1675 hP hS => ?_)
                        obtain ⟨rfl, f1677, f1678, h1675⟩ := h1675
                        obtain ⟨k1679, h1675⟩ := h1675
                        refine lv_aload_n hx hb dX7_readOrder_117 rfl (lv_at hl 4 rfl) ?_
                        refine lv_bipush (v := 114) hx hb dX7_readOrder_118 (by decide) ?_
                        have z1680 : (σ1675 9 0).toInt = (σ 9 0).toInt := by rw [(show σ1675 9 0 = (σ 9 0) from (by rw [f1678 0 (by omega)]; exact (by rw [f1458 0 (by omega)]; exact (by rw [f1332 0 (by omega)]; exact (by rw [f33 0 (by omega)]; exact (by rw [f12 0 (by omega)]))))))]
                        have w1681 : ∀ k : Nat, k < 80 → 0 ≤ (σ1675 10 k).toInt ∧ (σ1675 10 k).toInt ≤ 255 := (by rw [f1677 10 (by omega)]; exact w1463)
                        have w1682 : ∀ k : Nat, k < 8 → 0 ≤ (σ1675 11 k).toInt ∧ (σ1675 11 k).toInt ≤ 3 := (by rw [f1677 11 (by omega)]; exact w1464)
                        have I1683 : jI9 σ1675 := ⟨(by omega), w1681, w1682⟩
                        have z1684 : (σ1675 9 1).toInt = (σ1455 9 1).toInt := by rw [(show σ1675 9 1 = (σ1455 9 1) from (by rw [f1678 1 (by omega)]))]
                        have I1685 : jI91 σ1675 := ⟨(by omega), (by omega)⟩
                        have I1686 : jI92 σ1675 := (show (-1) ≤ (σ1675 9 2).toInt by omega)
                        refine jcallV (As := [.int 114]) (rest := []) ⟨hx, hb, hml, hown, hts⟩ hK hP hA hS hZ (c_X7_skip_9 l D cI cL ad zz hJ σ1675 τ 114 (114) jz_114 I1683 I1685 I1686 (by omega)) cw_RX7_50 (jc_9 cI cL ad σ1675 τ) rfl ⟨Nat.le_of_ble_eq_true rfl, Nat.le_of_ble_eq_true rfl⟩ rfl rfl rfl hl.1 rfl (Nat.le_of_ble_eq_true rfl) dX7_readOrder_120 ⟨Nat.zero_le _, Nat.zero_le _⟩ (fun r1688 σ1687 τ1687 H locs h1687 hP hS => ?_)
                        obtain ⟨rfl, f1689, f1690, I1691, I1692, I1693, h1687⟩ := h1687
                        obtain ⟨i1694, w1695, w1696⟩ : (0 ≤ (σ1687 9 0).toInt ∧ (σ1687 9 0).toInt ≤ 80) ∧ (∀ k : Nat, k < 80 → 0 ≤ (σ1687 10 k).toInt ∧ (σ1687 10 k).toInt ≤ 255) ∧ (∀ k : Nat, k < 8 → 0 ≤ (σ1687 11 k).toInt ∧ (σ1687 11 k).toInt ≤ 3) := id I1691
                        obtain ⟨i1697, i1698⟩ : (0 ≤ (σ1687 9 1).toInt) ∧ ((σ1687 9 1).toInt ≤ (σ1687 9 0).toInt) := id I1692
                        have i1699 : (-1) ≤ (σ1687 9 2).toInt := I1693
                        have z1700 : (σ1687 9 0).toInt = (σ 9 0).toInt := by rw [(show σ1687 9 0 = (σ 9 0) from (by rw [f1690 0 (by omega)]; exact (by rw [f1678 0 (by omega)]; exact (by rw [f1458 0 (by omega)]; exact (by rw [f1332 0 (by omega)]; exact (by rw [f33 0 (by omega)]; exact (by rw [f12 0 (by omega)])))))))]
                        have z1701 : (σ1687 9 2).toInt = (σ1675 9 2).toInt := by rw [(show σ1687 9 2 = (σ1675 9 2) from (by rw [f1690 2 (by omega)]))]
                        refine lv_if_eq (tgt := 133) hx hb dX7_readOrder_123 (by decide) (fun c1702 => ?_) (fun c1702 => ?_)
                        · have kc1702 := jeq c1702 rfl jz_0
                          refine lv_aload_n hx hb dX7_readOrder_133 rfl (lv_at hl 4 rfl) ?_
                          refine jcallV (As := []) (rest := []) ⟨hx, hb, hml, hown, hts⟩ hK hP hA hS hZ (c_X7_end_9 l D cI cL ad zz hJ σ1687 τ I1691 I1692 I1693) cw_RX7_57 (jc_9 cI cL ad σ1687 τ) rfl ⟨Nat.le_of_ble_eq_true rfl, Nat.le_of_ble_eq_true rfl⟩ rfl rfl rfl hl.1 rfl (Nat.le_of_ble_eq_true rfl) dX7_readOrder_134 ⟨Nat.zero_le _, Nat.zero_le _⟩ (fun r1704 σ1703 τ1703 H locs h1703 hP hS => ?_)
                          obtain ⟨rfl, f1705, f1706, I1707, I1708, h1703⟩ := h1703
                          obtain ⟨i1709, w1710, w1711⟩ : (0 ≤ (σ1703 9 0).toInt ∧ (σ1703 9 0).toInt ≤ 80) ∧ (∀ k : Nat, k < 80 → 0 ≤ (σ1703 10 k).toInt ∧ (σ1703 10 k).toInt ≤ 255) ∧ (∀ k : Nat, k < 8 → 0 ≤ (σ1703 11 k).toInt ∧ (σ1703 11 k).toInt ≤ 3) := id I1707
                          have i1712 : (-1) ≤ (σ1703 9 2).toInt := I1708
                          rcases h1703 with h1713 | h1714
                          · obtain ⟨q1716, k1715⟩ := h1713
                            exact absurd (by omega : False) id
                          · obtain ⟨q1718, k1717⟩ := h1714
                            refine lv_istore (lv' := [(5, .int r1704), (3, .int r1456), (4, .int 0), (2, .int x25), (0, .ref (ad 9)), (1, .ref (ad 16))]) hx hb dX7_readOrder_137 hl (by decide) rfl (fun ls hl => ?_)
                            refine lv_iload hx hb dX7_readOrder_139 (lv_at hl 0 rfl) ?_
                            refine lv_iconst (v := (-1)) hx hb dX7_readOrder_141 (by decide) ?_
                            refine lv_icmp_eq (tgt := 148) hx hb dX7_readOrder_142 (by decide) (fun c => absurd (jeq c rfl jz_m1) (by omega)) (fun c1719 => ?_)
                            have kc1719 := jne c1719 rfl jz_m1
                            refine lv_iload hx hb dX7_readOrder_145 (lv_at hl 0 rfl) ?_
                            have z1720 : (σ1703 16 0).toInt = (σ 16 0).toInt := by rw [(show σ1703 16 0 = (σ 16 0) from (by rw [f1705 16 (by omega)]; exact (by rw [f1689 16 (by omega)]; exact (by rw [f1677 16 (by omega)]; exact (by rw [f1457 16 (by omega)]; exact (by rw [f1331 16 (by omega)]; exact (by rw [f32 16 (by omega)]; exact (by rw [f11 16 (by omega)]))))))))]
                            have z1721 : (σ1703 16 1).toInt = (σ 16 1).toInt := by rw [(show σ1703 16 1 = (σ 16 1) from (by rw [f1705 16 (by omega)]; exact (by rw [f1689 16 (by omega)]; exact (by rw [f1677 16 (by omega)]; exact (by rw [f1457 16 (by omega)]; exact (by rw [f1331 16 (by omega)]; exact (by rw [f32 16 (by omega)]; exact (by rw [f11 16 (by omega)]))))))))]
                            have z1722 : (σ1703 16 2).toInt = (σ 16 2).toInt := by rw [(show σ1703 16 2 = (σ 16 2) from (by rw [f1705 16 (by omega)]; exact (by rw [f1689 16 (by omega)]; exact (by rw [f1677 16 (by omega)]; exact (by rw [f1457 16 (by omega)]; exact (by rw [f1331 16 (by omega)]; exact (by rw [f32 16 (by omega)]; exact (by rw [f11 16 (by omega)]))))))))]
                            have w1723 : ∀ k : Nat, k < 8 → 0 ≤ (σ1703 17 k).toInt ∧ (σ1703 17 k).toInt ≤ 3 := (by rw [f1705 17 (by omega)]; exact (by rw [f1689 17 (by omega)]; exact (by rw [f1677 17 (by omega)]; exact (by rw [f1457 17 (by omega)]; exact (by rw [f1331 17 (by omega)]; exact (by rw [f32 17 (by omega)]; exact (by rw [f11 17 (by omega)]; exact w7)))))))
                            have I1724 : jI16 σ1703 := ⟨(by omega), (by omega), (by omega), w1723⟩
                            exact hret r1704 σ1703 τ _ _ _ _ rfl ⟨rfl, (fun i hi => by rw [f1705 i (by omega), f1689 i (by omega), f1677 i (by omega), f1457 i (by omega), f1331 i (by omega), f32 i (by omega), f11 i (by omega)]), (fun k hk => by rw [f1706 k (by omega), f1690 k (by omega), f1678 k (by omega), f1458 k (by omega), f1332 k (by omega), f33 k (by omega), f12 k (by omega)]), (fun k hk => by rw [f1705 16 (by omega), f1689 16 (by omega), f1677 16 (by omega), f1457 16 (by omega), f1331 16 (by omega), f32 16 (by omega), f11 16 (by omega)]), I1707, I1724, trivial⟩ hP hS dX7_readOrder_147
                        · have kc1702 := jne c1702 rfl jz_0
                          refine lv_aload_n hx hb dX7_readOrder_126 rfl (lv_at hl 4 rfl) ?_
                          refine lv_iconst (v := 3) hx hb dX7_readOrder_127 (by decide) ?_
                          refine jcallV (As := [.int 3]) (rest := []) ⟨hx, hb, hml, hown, hts⟩ hK hP hA hS hZ (c_X7_number_3 l D cI cL ad zz hJ σ1687 τ I1691 I1692 I1693) cw_RX7_53 (jc_9 cI cL ad σ1687 τ) rfl ⟨Nat.le_of_ble_eq_true rfl, Nat.le_of_ble_eq_true rfl⟩ rfl rfl rfl hl.1 rfl (Nat.le_of_ble_eq_true rfl) dX7_readOrder_128 ⟨Nat.zero_le _, Nat.zero_le _⟩ (fun r1726 σ1725 τ1725 H locs h1725 hP hS => ?_)
                          obtain ⟨rfl, f1727, f1728, I1729, I1730, I1731, h1725⟩ := h1725
                          obtain ⟨i1732, w1733, w1734⟩ : (0 ≤ (σ1725 9 0).toInt ∧ (σ1725 9 0).toInt ≤ 80) ∧ (∀ k : Nat, k < 80 → 0 ≤ (σ1725 10 k).toInt ∧ (σ1725 10 k).toInt ≤ 255) ∧ (∀ k : Nat, k < 8 → 0 ≤ (σ1725 11 k).toInt ∧ (σ1725 11 k).toInt ≤ 3) := id I1729
                          obtain ⟨i1735, i1736⟩ : (0 ≤ (σ1725 9 1).toInt) ∧ ((σ1725 9 1).toInt ≤ (σ1725 9 0).toInt) := id I1730
                          have i1737 : (-1) ≤ (σ1725 9 2).toInt := I1731
                          have z1738 : (σ1725 9 0).toInt = (σ 9 0).toInt := by rw [(show σ1725 9 0 = (σ 9 0) from (by rw [f1728 0 (by omega)]; exact (by rw [f1690 0 (by omega)]; exact (by rw [f1678 0 (by omega)]; exact (by rw [f1458 0 (by omega)]; exact (by rw [f1332 0 (by omega)]; exact (by rw [f33 0 (by omega)]; exact (by rw [f12 0 (by omega)]))))))))]
                          obtain ⟨k1739, h1725⟩ := h1725
                          have h1740 := h1725
                          obtain ⟨q1742, k1741⟩ := h1740
                          refine lv_istore (lv' := [(4, .int r1726), (3, .int r1456), (5, .int (σ1329 9 1)), (2, .int x25), (0, .ref (ad 9)), (1, .ref (ad 16))]) hx hb dX7_readOrder_131 hl (by decide) rfl (fun ls hl => ?_)
                          refine lv_aload_n hx hb dX7_readOrder_133 rfl (lv_at hl 4 rfl) ?_
                          refine jcallV (As := []) (rest := []) ⟨hx, hb, hml, hown, hts⟩ hK hP hA hS hZ (c_X7_end_9 l D cI cL ad zz hJ σ1725 τ I1729 I1730 I1731) cw_RX7_57 (jc_9 cI cL ad σ1725 τ) rfl ⟨Nat.le_of_ble_eq_true rfl, Nat.le_of_ble_eq_true rfl⟩ rfl rfl rfl hl.1 rfl (Nat.le_of_ble_eq_true rfl) dX7_readOrder_134 ⟨Nat.zero_le _, Nat.zero_le _⟩ (fun r1744 σ1743 τ1743 H locs h1743 hP hS => ?_)
                          obtain ⟨rfl, f1745, f1746, I1747, I1748, h1743⟩ := h1743
                          obtain ⟨i1749, w1750, w1751⟩ : (0 ≤ (σ1743 9 0).toInt ∧ (σ1743 9 0).toInt ≤ 80) ∧ (∀ k : Nat, k < 80 → 0 ≤ (σ1743 10 k).toInt ∧ (σ1743 10 k).toInt ≤ 255) ∧ (∀ k : Nat, k < 8 → 0 ≤ (σ1743 11 k).toInt ∧ (σ1743 11 k).toInt ≤ 3) := id I1747
                          have i1752 : (-1) ≤ (σ1743 9 2).toInt := I1748
                          rcases h1743 with h1753 | h1754
                          · obtain ⟨q1756, k1755⟩ := h1753
                            exact absurd (by omega : False) id
                          · obtain ⟨q1758, k1757⟩ := h1754
                            refine lv_istore (lv' := [(5, .int r1744), (4, .int r1726), (3, .int r1456), (2, .int x25), (0, .ref (ad 9)), (1, .ref (ad 16))]) hx hb dX7_readOrder_137 hl (by decide) rfl (fun ls hl => ?_)
                            refine lv_iload hx hb dX7_readOrder_139 (lv_at hl 0 rfl) ?_
                            refine lv_iconst (v := (-1)) hx hb dX7_readOrder_141 (by decide) ?_
                            refine lv_icmp_eq (tgt := 148) hx hb dX7_readOrder_142 (by decide) (fun c => absurd (jeq c rfl jz_m1) (by omega)) (fun c1759 => ?_)
                            have kc1759 := jne c1759 rfl jz_m1
                            refine lv_iload hx hb dX7_readOrder_145 (lv_at hl 0 rfl) ?_
                            have z1760 : (σ1743 16 0).toInt = (σ 16 0).toInt := by rw [(show σ1743 16 0 = (σ 16 0) from (by rw [f1745 16 (by omega)]; exact (by rw [f1727 16 (by omega)]; exact (by rw [f1689 16 (by omega)]; exact (by rw [f1677 16 (by omega)]; exact (by rw [f1457 16 (by omega)]; exact (by rw [f1331 16 (by omega)]; exact (by rw [f32 16 (by omega)]; exact (by rw [f11 16 (by omega)])))))))))]
                            have z1761 : (σ1743 16 1).toInt = (σ 16 1).toInt := by rw [(show σ1743 16 1 = (σ 16 1) from (by rw [f1745 16 (by omega)]; exact (by rw [f1727 16 (by omega)]; exact (by rw [f1689 16 (by omega)]; exact (by rw [f1677 16 (by omega)]; exact (by rw [f1457 16 (by omega)]; exact (by rw [f1331 16 (by omega)]; exact (by rw [f32 16 (by omega)]; exact (by rw [f11 16 (by omega)])))))))))]
                            have z1762 : (σ1743 16 2).toInt = (σ 16 2).toInt := by rw [(show σ1743 16 2 = (σ 16 2) from (by rw [f1745 16 (by omega)]; exact (by rw [f1727 16 (by omega)]; exact (by rw [f1689 16 (by omega)]; exact (by rw [f1677 16 (by omega)]; exact (by rw [f1457 16 (by omega)]; exact (by rw [f1331 16 (by omega)]; exact (by rw [f32 16 (by omega)]; exact (by rw [f11 16 (by omega)])))))))))]
                            have w1763 : ∀ k : Nat, k < 8 → 0 ≤ (σ1743 17 k).toInt ∧ (σ1743 17 k).toInt ≤ 3 := (by rw [f1745 17 (by omega)]; exact (by rw [f1727 17 (by omega)]; exact (by rw [f1689 17 (by omega)]; exact (by rw [f1677 17 (by omega)]; exact (by rw [f1457 17 (by omega)]; exact (by rw [f1331 17 (by omega)]; exact (by rw [f32 17 (by omega)]; exact (by rw [f11 17 (by omega)]; exact w7))))))))
                            have I1764 : jI16 σ1743 := ⟨(by omega), (by omega), (by omega), w1763⟩
                            exact hret r1744 σ1743 τ _ _ _ _ rfl ⟨rfl, (fun i hi => by rw [f1745 i (by omega), f1727 i (by omega), f1689 i (by omega), f1677 i (by omega), f1457 i (by omega), f1331 i (by omega), f32 i (by omega), f11 i (by omega)]), (fun k hk => by rw [f1746 k (by omega), f1728 k (by omega), f1690 k (by omega), f1678 k (by omega), f1458 k (by omega), f1332 k (by omega), f33 k (by omega), f12 k (by omega)]), (fun k hk => by rw [f1745 16 (by omega), f1727 16 (by omega), f1689 16 (by omega), f1677 16 (by omega), f1457 16 (by omega), f1331 16 (by omega), f32 16 (by omega), f11 16 (by omega)]), I1747, I1764, trivial⟩ hP hS dX7_readOrder_147
                · have kc1325 := jeq c1325 rfl jz_0
                  refine lv_aload_n hx hb dX7_readOrder_71 rfl (lv_at hl 3 rfl) ?_
                  refine lv_aload_n hx hb dX7_readOrder_72 rfl (lv_at hl 3 rfl) ?_
                  refine va_get (D := D) hx hb hts inlX7 hown hK hP 9 (jc_9 cI cL ad σ26 τ) rfl 1 (by decide) (hts _ kw_13_17) (fun _ h9 => h9) rfl dX7_readOrder_73 ?_
                  have z1765 : (σ26 9 2).toInt = (σ9 9 2).toInt := by rw [(show σ26 9 2 = (σ9 9 2) from (by rw [f33 2 (by omega)]))]
                  have I1766 : jI92 σ26 := (show (-1) ≤ (σ26 9 2).toInt by omega)
                  refine jcallVv (As := [.int (σ26 9 1)]) (rest := []) ⟨hx, hb, hml, hown, hts⟩ hK hP hA hS hZ (c_X7_fail_9 l D cI cL ad zz hJ σ26 τ (σ26 9 1) ((σ26 9 1).toInt) rfl I1766 (by omega)) cw_RX7_43 (jc_9 cI cL ad σ26 τ) rfl ⟨Nat.le_of_ble_eq_true rfl, Nat.le_of_ble_eq_true rfl⟩ rfl rfl rfl hl.1 rfl (Nat.le_of_ble_eq_true rfl) dX7_readOrder_76 ⟨Nat.zero_le _, Nat.zero_le _⟩ (fun σ1767 τ1767 H locs h1767 hP hS => ?_)
                  obtain ⟨rfl, f1769, f1770, h1767⟩ := h1767
                  obtain ⟨k1771, h1767⟩ := h1767
                  refine lv_aload_n hx hb dX7_readOrder_79 rfl (lv_at hl 3 rfl) ?_
                  refine lv_bipush (v := 58) hx hb dX7_readOrder_80 (by decide) ?_
                  have z1772 : (σ1767 9 0).toInt = (σ 9 0).toInt := by rw [(show σ1767 9 0 = (σ 9 0) from (by rw [f1770 0 (by omega)]; exact (by rw [f33 0 (by omega)]; exact (by rw [f12 0 (by omega)]))))]
                  have w1773 : ∀ k : Nat, k < 80 → 0 ≤ (σ1767 10 k).toInt ∧ (σ1767 10 k).toInt ≤ 255 := (by rw [f1769 10 (by omega)]; exact w479)
                  have w1774 : ∀ k : Nat, k < 8 → 0 ≤ (σ1767 11 k).toInt ∧ (σ1767 11 k).toInt ≤ 3 := (by rw [f1769 11 (by omega)]; exact w34)
                  have I1775 : jI9 σ1767 := ⟨(by omega), w1773, w1774⟩
                  have z1776 : (σ1767 9 1).toInt = (σ26 9 1).toInt := by rw [(show σ1767 9 1 = (σ26 9 1) from (by rw [f1770 1 (by omega)]))]
                  have I1777 : jI91 σ1767 := ⟨(by omega), (by omega)⟩
                  have I1778 : jI92 σ1767 := (show (-1) ≤ (σ1767 9 2).toInt by omega)
                  refine jcallV (As := [.int 58]) (rest := []) ⟨hx, hb, hml, hown, hts⟩ hK hP hA hS hZ (c_X7_skip_9 l D cI cL ad zz hJ σ1767 τ 58 (58) jz_58 I1775 I1777 I1778 (by omega)) cw_RX7_50 (jc_9 cI cL ad σ1767 τ) rfl ⟨Nat.le_of_ble_eq_true rfl, Nat.le_of_ble_eq_true rfl⟩ rfl rfl rfl hl.1 rfl (Nat.le_of_ble_eq_true rfl) dX7_readOrder_82 ⟨Nat.zero_le _, Nat.zero_le _⟩ (fun r1780 σ1779 τ1779 H locs h1779 hP hS => ?_)
                  obtain ⟨rfl, f1781, f1782, I1783, I1784, I1785, h1779⟩ := h1779
                  obtain ⟨i1786, w1787, w1788⟩ : (0 ≤ (σ1779 9 0).toInt ∧ (σ1779 9 0).toInt ≤ 80) ∧ (∀ k : Nat, k < 80 → 0 ≤ (σ1779 10 k).toInt ∧ (σ1779 10 k).toInt ≤ 255) ∧ (∀ k : Nat, k < 8 → 0 ≤ (σ1779 11 k).toInt ∧ (σ1779 11 k).toInt ≤ 3) := id I1783
                  obtain ⟨i1789, i1790⟩ : (0 ≤ (σ1779 9 1).toInt) ∧ ((σ1779 9 1).toInt ≤ (σ1779 9 0).toInt) := id I1784
                  have i1791 : (-1) ≤ (σ1779 9 2).toInt := I1785
                  have z1792 : (σ1779 9 0).toInt = (σ 9 0).toInt := by rw [(show σ1779 9 0 = (σ 9 0) from (by rw [f1782 0 (by omega)]; exact (by rw [f1770 0 (by omega)]; exact (by rw [f33 0 (by omega)]; exact (by rw [f12 0 (by omega)])))))]
                  have z1793 : (σ1779 9 2).toInt = (σ1767 9 2).toInt := by rw [(show σ1779 9 2 = (σ1767 9 2) from (by rw [f1782 2 (by omega)]))]
                  refine lv_if_eq (tgt := 117) hx hb dX7_readOrder_85 (by decide) (fun c1794 => ?_) (fun c1794 => ?_)
                  · have kc1794 := jeq c1794 rfl jz_0
                    refine lv_aload_n hx hb dX7_readOrder_117 rfl (lv_at hl 3 rfl) ?_
                    refine lv_bipush (v := 114) hx hb dX7_readOrder_118 (by decide) ?_
                    refine jcallV (As := [.int 114]) (rest := []) ⟨hx, hb, hml, hown, hts⟩ hK hP hA hS hZ (c_X7_skip_9 l D cI cL ad zz hJ σ1779 τ 114 (114) jz_114 I1783 I1784 I1785 (by omega)) cw_RX7_50 (jc_9 cI cL ad σ1779 τ) rfl ⟨Nat.le_of_ble_eq_true rfl, Nat.le_of_ble_eq_true rfl⟩ rfl rfl rfl hl.1 rfl (Nat.le_of_ble_eq_true rfl) dX7_readOrder_120 ⟨Nat.zero_le _, Nat.zero_le _⟩ (fun r1796 σ1795 τ1795 H locs h1795 hP hS => ?_)
                    obtain ⟨rfl, f1797, f1798, I1799, I1800, I1801, h1795⟩ := h1795
                    obtain ⟨i1802, w1803, w1804⟩ : (0 ≤ (σ1795 9 0).toInt ∧ (σ1795 9 0).toInt ≤ 80) ∧ (∀ k : Nat, k < 80 → 0 ≤ (σ1795 10 k).toInt ∧ (σ1795 10 k).toInt ≤ 255) ∧ (∀ k : Nat, k < 8 → 0 ≤ (σ1795 11 k).toInt ∧ (σ1795 11 k).toInt ≤ 3) := id I1799
                    obtain ⟨i1805, i1806⟩ : (0 ≤ (σ1795 9 1).toInt) ∧ ((σ1795 9 1).toInt ≤ (σ1795 9 0).toInt) := id I1800
                    have i1807 : (-1) ≤ (σ1795 9 2).toInt := I1801
                    have z1808 : (σ1795 9 0).toInt = (σ 9 0).toInt := by rw [(show σ1795 9 0 = (σ 9 0) from (by rw [f1798 0 (by omega)]; exact (by rw [f1782 0 (by omega)]; exact (by rw [f1770 0 (by omega)]; exact (by rw [f33 0 (by omega)]; exact (by rw [f12 0 (by omega)]))))))]
                    have z1809 : (σ1795 9 2).toInt = (σ1767 9 2).toInt := by rw [(show σ1795 9 2 = (σ1767 9 2) from (by rw [f1798 2 (by omega)]; exact (by rw [f1782 2 (by omega)])))]
                    refine lv_if_eq (tgt := 133) hx hb dX7_readOrder_123 (by decide) (fun c1810 => ?_) (fun c1810 => ?_)
                    · have kc1810 := jeq c1810 rfl jz_0
                      refine lv_aload_n hx hb dX7_readOrder_133 rfl (lv_at hl 3 rfl) ?_
                      refine jcallV (As := []) (rest := []) ⟨hx, hb, hml, hown, hts⟩ hK hP hA hS hZ (c_X7_end_9 l D cI cL ad zz hJ σ1795 τ I1799 I1800 I1801) cw_RX7_57 (jc_9 cI cL ad σ1795 τ) rfl ⟨Nat.le_of_ble_eq_true rfl, Nat.le_of_ble_eq_true rfl⟩ rfl rfl rfl hl.1 rfl (Nat.le_of_ble_eq_true rfl) dX7_readOrder_134 ⟨Nat.zero_le _, Nat.zero_le _⟩ (fun r1812 σ1811 τ1811 H locs h1811 hP hS => ?_)
                      obtain ⟨rfl, f1813, f1814, I1815, I1816, h1811⟩ := h1811
                      obtain ⟨i1817, w1818, w1819⟩ : (0 ≤ (σ1811 9 0).toInt ∧ (σ1811 9 0).toInt ≤ 80) ∧ (∀ k : Nat, k < 80 → 0 ≤ (σ1811 10 k).toInt ∧ (σ1811 10 k).toInt ≤ 255) ∧ (∀ k : Nat, k < 8 → 0 ≤ (σ1811 11 k).toInt ∧ (σ1811 11 k).toInt ≤ 3) := id I1815
                      have i1820 : (-1) ≤ (σ1811 9 2).toInt := I1816
                      rcases h1811 with h1821 | h1822
                      · obtain ⟨q1824, k1823⟩ := h1821
                        exact absurd (by omega : False) id
                      · obtain ⟨q1826, k1825⟩ := h1822
                        refine lv_istore (lv' := [(5, .int r1812), (4, .int 0), (3, .int 8), (2, .int x25), (0, .ref (ad 9)), (1, .ref (ad 16))]) hx hb dX7_readOrder_137 hl (by decide) rfl (fun ls hl => ?_)
                        refine lv_iload hx hb dX7_readOrder_139 (lv_at hl 0 rfl) ?_
                        refine lv_iconst (v := (-1)) hx hb dX7_readOrder_141 (by decide) ?_
                        refine lv_icmp_eq (tgt := 148) hx hb dX7_readOrder_142 (by decide) (fun c => absurd (jeq c rfl jz_m1) (by omega)) (fun c1827 => ?_)
                        have kc1827 := jne c1827 rfl jz_m1
                        refine lv_iload hx hb dX7_readOrder_145 (lv_at hl 0 rfl) ?_
                        have z1828 : (σ1811 16 0).toInt = (σ 16 0).toInt := by rw [(show σ1811 16 0 = (σ 16 0) from (by rw [f1813 16 (by omega)]; exact (by rw [f1797 16 (by omega)]; exact (by rw [f1781 16 (by omega)]; exact (by rw [f1769 16 (by omega)]; exact (by rw [f32 16 (by omega)]; exact (by rw [f11 16 (by omega)])))))))]
                        have z1829 : (σ1811 16 1).toInt = (σ 16 1).toInt := by rw [(show σ1811 16 1 = (σ 16 1) from (by rw [f1813 16 (by omega)]; exact (by rw [f1797 16 (by omega)]; exact (by rw [f1781 16 (by omega)]; exact (by rw [f1769 16 (by omega)]; exact (by rw [f32 16 (by omega)]; exact (by rw [f11 16 (by omega)])))))))]
                        have z1830 : (σ1811 16 2).toInt = (σ 16 2).toInt := by rw [(show σ1811 16 2 = (σ 16 2) from (by rw [f1813 16 (by omega)]; exact (by rw [f1797 16 (by omega)]; exact (by rw [f1781 16 (by omega)]; exact (by rw [f1769 16 (by omega)]; exact (by rw [f32 16 (by omega)]; exact (by rw [f11 16 (by omega)])))))))]
                        have w1831 : ∀ k : Nat, k < 8 → 0 ≤ (σ1811 17 k).toInt ∧ (σ1811 17 k).toInt ≤ 3 := (by rw [f1813 17 (by omega)]; exact (by rw [f1797 17 (by omega)]; exact (by rw [f1781 17 (by omega)]; exact (by rw [f1769 17 (by omega)]; exact (by rw [f32 17 (by omega)]; exact (by rw [f11 17 (by omega)]; exact w7))))))
                        have I1832 : jI16 σ1811 := ⟨(by omega), (by omega), (by omega), w1831⟩
                        exact hret r1812 σ1811 τ _ _ _ _ rfl ⟨rfl, (fun i hi => by rw [f1813 i (by omega), f1797 i (by omega), f1781 i (by omega), f1769 i (by omega), f32 i (by omega), f11 i (by omega)]), (fun k hk => by rw [f1814 k (by omega), f1798 k (by omega), f1782 k (by omega), f1770 k (by omega), f33 k (by omega), f12 k (by omega)]), (fun k hk => by rw [f1813 16 (by omega), f1797 16 (by omega), f1781 16 (by omega), f1769 16 (by omega), f32 16 (by omega), f11 16 (by omega)]), I1815, I1832, trivial⟩ hP hS dX7_readOrder_147
                    · have kc1810 := jne c1810 rfl jz_0
                      refine lv_aload_n hx hb dX7_readOrder_126 rfl (lv_at hl 3 rfl) ?_
                      refine lv_iconst (v := 3) hx hb dX7_readOrder_127 (by decide) ?_
                      refine jcallV (As := [.int 3]) (rest := []) ⟨hx, hb, hml, hown, hts⟩ hK hP hA hS hZ (c_X7_number_3 l D cI cL ad zz hJ σ1795 τ I1799 I1800 I1801) cw_RX7_53 (jc_9 cI cL ad σ1795 τ) rfl ⟨Nat.le_of_ble_eq_true rfl, Nat.le_of_ble_eq_true rfl⟩ rfl rfl rfl hl.1 rfl (Nat.le_of_ble_eq_true rfl) dX7_readOrder_128 ⟨Nat.zero_le _, Nat.zero_le _⟩ (fun r1834 σ1833 τ1833 H locs h1833 hP hS => ?_)
                      obtain ⟨rfl, f1835, f1836, I1837, I1838, I1839, h1833⟩ := h1833
                      obtain ⟨i1840, w1841, w1842⟩ : (0 ≤ (σ1833 9 0).toInt ∧ (σ1833 9 0).toInt ≤ 80) ∧ (∀ k : Nat, k < 80 → 0 ≤ (σ1833 10 k).toInt ∧ (σ1833 10 k).toInt ≤ 255) ∧ (∀ k : Nat, k < 8 → 0 ≤ (σ1833 11 k).toInt ∧ (σ1833 11 k).toInt ≤ 3) := id I1837
                      obtain ⟨i1843, i1844⟩ : (0 ≤ (σ1833 9 1).toInt) ∧ ((σ1833 9 1).toInt ≤ (σ1833 9 0).toInt) := id I1838
                      have i1845 : (-1) ≤ (σ1833 9 2).toInt := I1839
                      have z1846 : (σ1833 9 0).toInt = (σ 9 0).toInt := by rw [(show σ1833 9 0 = (σ 9 0) from (by rw [f1836 0 (by omega)]; exact (by rw [f1798 0 (by omega)]; exact (by rw [f1782 0 (by omega)]; exact (by rw [f1770 0 (by omega)]; exact (by rw [f33 0 (by omega)]; exact (by rw [f12 0 (by omega)])))))))]
                      obtain ⟨k1847, h1833⟩ := h1833
                      have h1848 := h1833
                      obtain ⟨q1850, k1849⟩ := h1848
                      refine lv_istore (lv' := [(4, .int r1834), (3, .int 8), (2, .int x25), (0, .ref (ad 9)), (1, .ref (ad 16))]) hx hb dX7_readOrder_131 hl (by decide) rfl (fun ls hl => ?_)
                      refine lv_aload_n hx hb dX7_readOrder_133 rfl (lv_at hl 3 rfl) ?_
                      refine jcallV (As := []) (rest := []) ⟨hx, hb, hml, hown, hts⟩ hK hP hA hS hZ (c_X7_end_9 l D cI cL ad zz hJ σ1833 τ I1837 I1838 I1839) cw_RX7_57 (jc_9 cI cL ad σ1833 τ) rfl ⟨Nat.le_of_ble_eq_true rfl, Nat.le_of_ble_eq_true rfl⟩ rfl rfl rfl hl.1 rfl (Nat.le_of_ble_eq_true rfl) dX7_readOrder_134 ⟨Nat.zero_le _, Nat.zero_le _⟩ (fun r1852 σ1851 τ1851 H locs h1851 hP hS => ?_)
                      obtain ⟨rfl, f1853, f1854, I1855, I1856, h1851⟩ := h1851
                      obtain ⟨i1857, w1858, w1859⟩ : (0 ≤ (σ1851 9 0).toInt ∧ (σ1851 9 0).toInt ≤ 80) ∧ (∀ k : Nat, k < 80 → 0 ≤ (σ1851 10 k).toInt ∧ (σ1851 10 k).toInt ≤ 255) ∧ (∀ k : Nat, k < 8 → 0 ≤ (σ1851 11 k).toInt ∧ (σ1851 11 k).toInt ≤ 3) := id I1855
                      have i1860 : (-1) ≤ (σ1851 9 2).toInt := I1856
                      rcases h1851 with h1861 | h1862
                      · obtain ⟨q1864, k1863⟩ := h1861
                        exact absurd (by omega : False) id
                      · obtain ⟨q1866, k1865⟩ := h1862
                        refine lv_istore (lv' := [(5, .int r1852), (4, .int r1834), (3, .int 8), (2, .int x25), (0, .ref (ad 9)), (1, .ref (ad 16))]) hx hb dX7_readOrder_137 hl (by decide) rfl (fun ls hl => ?_)
                        refine lv_iload hx hb dX7_readOrder_139 (lv_at hl 0 rfl) ?_
                        refine lv_iconst (v := (-1)) hx hb dX7_readOrder_141 (by decide) ?_
                        refine lv_icmp_eq (tgt := 148) hx hb dX7_readOrder_142 (by decide) (fun c => absurd (jeq c rfl jz_m1) (by omega)) (fun c1867 => ?_)
                        have kc1867 := jne c1867 rfl jz_m1
                        refine lv_iload hx hb dX7_readOrder_145 (lv_at hl 0 rfl) ?_
                        have z1868 : (σ1851 16 0).toInt = (σ 16 0).toInt := by rw [(show σ1851 16 0 = (σ 16 0) from (by rw [f1853 16 (by omega)]; exact (by rw [f1835 16 (by omega)]; exact (by rw [f1797 16 (by omega)]; exact (by rw [f1781 16 (by omega)]; exact (by rw [f1769 16 (by omega)]; exact (by rw [f32 16 (by omega)]; exact (by rw [f11 16 (by omega)]))))))))]
                        have z1869 : (σ1851 16 1).toInt = (σ 16 1).toInt := by rw [(show σ1851 16 1 = (σ 16 1) from (by rw [f1853 16 (by omega)]; exact (by rw [f1835 16 (by omega)]; exact (by rw [f1797 16 (by omega)]; exact (by rw [f1781 16 (by omega)]; exact (by rw [f1769 16 (by omega)]; exact (by rw [f32 16 (by omega)]; exact (by rw [f11 16 (by omega)]))))))))]
                        have z1870 : (σ1851 16 2).toInt = (σ 16 2).toInt := by rw [(show σ1851 16 2 = (σ 16 2) from (by rw [f1853 16 (by omega)]; exact (by rw [f1835 16 (by omega)]; exact (by rw [f1797 16 (by omega)]; exact (by rw [f1781 16 (by omega)]; exact (by rw [f1769 16 (by omega)]; exact (by rw [f32 16 (by omega)]; exact (by rw [f11 16 (by omega)]))))))))]
                        have w1871 : ∀ k : Nat, k < 8 → 0 ≤ (σ1851 17 k).toInt ∧ (σ1851 17 k).toInt ≤ 3 := (by rw [f1853 17 (by omega)]; exact (by rw [f1835 17 (by omega)]; exact (by rw [f1797 17 (by omega)]; exact (by rw [f1781 17 (by omega)]; exact (by rw [f1769 17 (by omega)]; exact (by rw [f32 17 (by omega)]; exact (by rw [f11 17 (by omega)]; exact w7)))))))
                        have I1872 : jI16 σ1851 := ⟨(by omega), (by omega), (by omega), w1871⟩
                        exact hret r1852 σ1851 τ _ _ _ _ rfl ⟨rfl, (fun i hi => by rw [f1853 i (by omega), f1835 i (by omega), f1797 i (by omega), f1781 i (by omega), f1769 i (by omega), f32 i (by omega), f11 i (by omega)]), (fun k hk => by rw [f1854 k (by omega), f1836 k (by omega), f1798 k (by omega), f1782 k (by omega), f1770 k (by omega), f33 k (by omega), f12 k (by omega)]), (fun k hk => by rw [f1853 16 (by omega), f1835 16 (by omega), f1797 16 (by omega), f1781 16 (by omega), f1769 16 (by omega), f32 16 (by omega), f11 16 (by omega)]), I1855, I1872, trivial⟩ hP hS dX7_readOrder_147
                  · have kc1794 := jne c1794 rfl jz_0
                    refine lv_aload_n hx hb dX7_readOrder_88 rfl (lv_at hl 3 rfl) ?_
                    refine va_get (D := D) hx hb hts inlX7 hown hK hP 9 (jc_9 cI cL ad σ1779 τ) rfl 1 (by decide) (hts _ kw_13_17) (fun _ h9 => h9) rfl dX7_readOrder_89 ?_
                    refine lv_istore (lv' := [(5, .int (σ1779 9 1)), (4, .int 0), (3, .int 8), (2, .int x25), (0, .ref (ad 9)), (1, .ref (ad 16))]) hx hb dX7_readOrder_92 hl (by decide) rfl (fun ls hl => ?_)
                    refine lv_aload_n hx hb dX7_readOrder_94 rfl (lv_at hl 4 rfl) ?_
                    refine lv_iconst (v := 2) hx hb dX7_readOrder_95 (by decide) ?_
                    refine jcallV (As := [.int 2]) (rest := []) ⟨hx, hb, hml, hown, hts⟩ hK hP hA hS hZ (c_X7_number_2 l D cI cL ad zz hJ σ1779 τ I1783 I1784 I1785) cw_RX7_53 (jc_9 cI cL ad σ1779 τ) rfl ⟨Nat.le_of_ble_eq_true rfl, Nat.le_of_ble_eq_true rfl⟩ rfl rfl rfl hl.1 rfl (Nat.le_of_ble_eq_true rfl) dX7_readOrder_96 ⟨Nat.zero_le _, Nat.zero_le _⟩ (fun r1874 σ1873 τ1873 H locs h1873 hP hS => ?_)
                    obtain ⟨rfl, f1875, f1876, I1877, I1878, I1879, h1873⟩ := h1873
                    obtain ⟨i1880, w1881, w1882⟩ : (0 ≤ (σ1873 9 0).toInt ∧ (σ1873 9 0).toInt ≤ 80) ∧ (∀ k : Nat, k < 80 → 0 ≤ (σ1873 10 k).toInt ∧ (σ1873 10 k).toInt ≤ 255) ∧ (∀ k : Nat, k < 8 → 0 ≤ (σ1873 11 k).toInt ∧ (σ1873 11 k).toInt ≤ 3) := id I1877
                    obtain ⟨i1883, i1884⟩ : (0 ≤ (σ1873 9 1).toInt) ∧ ((σ1873 9 1).toInt ≤ (σ1873 9 0).toInt) := id I1878
                    have i1885 : (-1) ≤ (σ1873 9 2).toInt := I1879
                    have z1886 : (σ1873 9 0).toInt = (σ 9 0).toInt := by rw [(show σ1873 9 0 = (σ 9 0) from (by rw [f1876 0 (by omega)]; exact (by rw [f1782 0 (by omega)]; exact (by rw [f1770 0 (by omega)]; exact (by rw [f33 0 (by omega)]; exact (by rw [f12 0 (by omega)]))))))]
                    obtain ⟨k1887, h1873⟩ := h1873
                    have h1888 := h1873
                    obtain ⟨q1890, k1889⟩ := h1888
                    refine lv_istore_n (lv' := [(3, .int r1874), (5, .int (σ1779 9 1)), (4, .int 0), (2, .int x25), (0, .ref (ad 9)), (1, .ref (ad 16))]) hx hb dX7_readOrder_99 rfl hl (by decide) rfl (fun ls hl => ?_)
                    refine lv_iload_n hx hb dX7_readOrder_100 rfl (lv_at hl 0 rfl) ?_
                    refine lv_iconst (v := 1) hx hb dX7_readOrder_101 (by decide) ?_
                    refine lv_icmp_lt (tgt := 111) hx hb dX7_readOrder_102 (by decide) (fun c1891 => ?_) (fun c1891 => ?_)
                    · have kc1891 := jlt c1891 rfl jz_1
                      refine lv_aload_n hx hb dX7_readOrder_111 rfl (lv_at hl 4 rfl) ?_
                      refine lv_iload hx hb dX7_readOrder_112 (lv_at hl 1 rfl) ?_
                      refine jcallVv (As := [.int (σ1779 9 1)]) (rest := []) ⟨hx, hb, hml, hown, hts⟩ hK hP hA hS hZ (c_X7_fail_9 l D cI cL ad zz hJ σ1873 τ (σ1779 9 1) ((σ1779 9 1).toInt) rfl I1879 (by omega)) cw_RX7_43 (jc_9 cI cL ad σ1873 τ) rfl ⟨Nat.le_of_ble_eq_true rfl, Nat.le_of_ble_eq_true rfl⟩ rfl rfl rfl hl.1 rfl (Nat.le_of_ble_eq_true rfl) dX7_readOrder_114 ⟨Nat.zero_le _, Nat.zero_le _⟩ (fun σ1892 τ1892 H locs h1892 hP hS => ?_)
                      obtain ⟨rfl, f1894, f1895, h1892⟩ := h1892
                      obtain ⟨k1896, h1892⟩ := h1892
                      refine lv_aload_n hx hb dX7_readOrder_117 rfl (lv_at hl 4 rfl) ?_
                      refine lv_bipush (v := 114) hx hb dX7_readOrder_118 (by decide) ?_
                      have z1897 : (σ1892 9 0).toInt = (σ 9 0).toInt := by rw [(show σ1892 9 0 = (σ 9 0) from (by rw [f1895 0 (by omega)]; exact (by rw [f1876 0 (by omega)]; exact (by rw [f1782 0 (by omega)]; exact (by rw [f1770 0 (by omega)]; exact (by rw [f33 0 (by omega)]; exact (by rw [f12 0 (by omega)])))))))]
                      have w1898 : ∀ k : Nat, k < 80 → 0 ≤ (σ1892 10 k).toInt ∧ (σ1892 10 k).toInt ≤ 255 := (by rw [f1894 10 (by omega)]; exact w1881)
                      have w1899 : ∀ k : Nat, k < 8 → 0 ≤ (σ1892 11 k).toInt ∧ (σ1892 11 k).toInt ≤ 3 := (by rw [f1894 11 (by omega)]; exact w1882)
                      have I1900 : jI9 σ1892 := ⟨(by omega), w1898, w1899⟩
                      have z1901 : (σ1892 9 1).toInt = (σ1873 9 1).toInt := by rw [(show σ1892 9 1 = (σ1873 9 1) from (by rw [f1895 1 (by omega)]))]
                      have I1902 : jI91 σ1892 := ⟨(by omega), (by omega)⟩
                      have I1903 : jI92 σ1892 := (show (-1) ≤ (σ1892 9 2).toInt by omega)
                      refine jcallV (As := [.int 114]) (rest := []) ⟨hx, hb, hml, hown, hts⟩ hK hP hA hS hZ (c_X7_skip_9 l D cI cL ad zz hJ σ1892 τ 114 (114) jz_114 I1900 I1902 I1903 (by omega)) cw_RX7_50 (jc_9 cI cL ad σ1892 τ) rfl ⟨Nat.le_of_ble_eq_true rfl, Nat.le_of_ble_eq_true rfl⟩ rfl rfl rfl hl.1 rfl (Nat.le_of_ble_eq_true rfl) dX7_readOrder_120 ⟨Nat.zero_le _, Nat.zero_le _⟩ (fun r1905 σ1904 τ1904 H locs h1904 hP hS => ?_)
                      obtain ⟨rfl, f1906, f1907, I1908, I1909, I1910, h1904⟩ := h1904
                      obtain ⟨i1911, w1912, w1913⟩ : (0 ≤ (σ1904 9 0).toInt ∧ (σ1904 9 0).toInt ≤ 80) ∧ (∀ k : Nat, k < 80 → 0 ≤ (σ1904 10 k).toInt ∧ (σ1904 10 k).toInt ≤ 255) ∧ (∀ k : Nat, k < 8 → 0 ≤ (σ1904 11 k).toInt ∧ (σ1904 11 k).toInt ≤ 3) := id I1908
                      obtain ⟨i1914, i1915⟩ : (0 ≤ (σ1904 9 1).toInt) ∧ ((σ1904 9 1).toInt ≤ (σ1904 9 0).toInt) := id I1909
                      have i1916 : (-1) ≤ (σ1904 9 2).toInt := I1910
                      have z1917 : (σ1904 9 0).toInt = (σ 9 0).toInt := by rw [(show σ1904 9 0 = (σ 9 0) from (by rw [f1907 0 (by omega)]; exact (by rw [f1895 0 (by omega)]; exact (by rw [f1876 0 (by omega)]; exact (by rw [f1782 0 (by omega)]; exact (by rw [f1770 0 (by omega)]; exact (by rw [f33 0 (by omega)]; exact (by rw [f12 0 (by omega)]))))))))]
                      have z1918 : (σ1904 9 2).toInt = (σ1892 9 2).toInt := by rw [(show σ1904 9 2 = (σ1892 9 2) from (by rw [f1907 2 (by omega)]))]
                      refine lv_if_eq (tgt := 133) hx hb dX7_readOrder_123 (by decide) (fun c1919 => ?_) (fun c1919 => ?_)
                      · have kc1919 := jeq c1919 rfl jz_0
                        refine lv_aload_n hx hb dX7_readOrder_133 rfl (lv_at hl 4 rfl) ?_
                        refine jcallV (As := []) (rest := []) ⟨hx, hb, hml, hown, hts⟩ hK hP hA hS hZ (c_X7_end_9 l D cI cL ad zz hJ σ1904 τ I1908 I1909 I1910) cw_RX7_57 (jc_9 cI cL ad σ1904 τ) rfl ⟨Nat.le_of_ble_eq_true rfl, Nat.le_of_ble_eq_true rfl⟩ rfl rfl rfl hl.1 rfl (Nat.le_of_ble_eq_true rfl) dX7_readOrder_134 ⟨Nat.zero_le _, Nat.zero_le _⟩ (fun r1921 σ1920 τ1920 H locs h1920 hP hS => ?_)
                        obtain ⟨rfl, f1922, f1923, I1924, I1925, h1920⟩ := h1920
                        obtain ⟨i1926, w1927, w1928⟩ : (0 ≤ (σ1920 9 0).toInt ∧ (σ1920 9 0).toInt ≤ 80) ∧ (∀ k : Nat, k < 80 → 0 ≤ (σ1920 10 k).toInt ∧ (σ1920 10 k).toInt ≤ 255) ∧ (∀ k : Nat, k < 8 → 0 ≤ (σ1920 11 k).toInt ∧ (σ1920 11 k).toInt ≤ 3) := id I1924
                        have i1929 : (-1) ≤ (σ1920 9 2).toInt := I1925
                        rcases h1920 with h1930 | h1931
                        · obtain ⟨q1933, k1932⟩ := h1930
                          exact absurd (by omega : False) id
                        · obtain ⟨q1935, k1934⟩ := h1931
                          refine lv_istore (lv' := [(5, .int r1921), (3, .int r1874), (4, .int 0), (2, .int x25), (0, .ref (ad 9)), (1, .ref (ad 16))]) hx hb dX7_readOrder_137 hl (by decide) rfl (fun ls hl => ?_)
                          refine lv_iload hx hb dX7_readOrder_139 (lv_at hl 0 rfl) ?_
                          refine lv_iconst (v := (-1)) hx hb dX7_readOrder_141 (by decide) ?_
                          refine lv_icmp_eq (tgt := 148) hx hb dX7_readOrder_142 (by decide) (fun c => absurd (jeq c rfl jz_m1) (by omega)) (fun c1936 => ?_)
                          have kc1936 := jne c1936 rfl jz_m1
                          refine lv_iload hx hb dX7_readOrder_145 (lv_at hl 0 rfl) ?_
                          have z1937 : (σ1920 16 0).toInt = (σ 16 0).toInt := by rw [(show σ1920 16 0 = (σ 16 0) from (by rw [f1922 16 (by omega)]; exact (by rw [f1906 16 (by omega)]; exact (by rw [f1894 16 (by omega)]; exact (by rw [f1875 16 (by omega)]; exact (by rw [f1781 16 (by omega)]; exact (by rw [f1769 16 (by omega)]; exact (by rw [f32 16 (by omega)]; exact (by rw [f11 16 (by omega)])))))))))]
                          have z1938 : (σ1920 16 1).toInt = (σ 16 1).toInt := by rw [(show σ1920 16 1 = (σ 16 1) from (by rw [f1922 16 (by omega)]; exact (by rw [f1906 16 (by omega)]; exact (by rw [f1894 16 (by omega)]; exact (by rw [f1875 16 (by omega)]; exact (by rw [f1781 16 (by omega)]; exact (by rw [f1769 16 (by omega)]; exact (by rw [f32 16 (by omega)]; exact (by rw [f11 16 (by omega)])))))))))]
                          have z1939 : (σ1920 16 2).toInt = (σ 16 2).toInt := by rw [(show σ1920 16 2 = (σ 16 2) from (by rw [f1922 16 (by omega)]; exact (by rw [f1906 16 (by omega)]; exact (by rw [f1894 16 (by omega)]; exact (by rw [f1875 16 (by omega)]; exact (by rw [f1781 16 (by omega)]; exact (by rw [f1769 16 (by omega)]; exact (by rw [f32 16 (by omega)]; exact (by rw [f11 16 (by omega)])))))))))]
                          have w1940 : ∀ k : Nat, k < 8 → 0 ≤ (σ1920 17 k).toInt ∧ (σ1920 17 k).toInt ≤ 3 := (by rw [f1922 17 (by omega)]; exact (by rw [f1906 17 (by omega)]; exact (by rw [f1894 17 (by omega)]; exact (by rw [f1875 17 (by omega)]; exact (by rw [f1781 17 (by omega)]; exact (by rw [f1769 17 (by omega)]; exact (by rw [f32 17 (by omega)]; exact (by rw [f11 17 (by omega)]; exact w7))))))))
                          have I1941 : jI16 σ1920 := ⟨(by omega), (by omega), (by omega), w1940⟩
                          exact hret r1921 σ1920 τ _ _ _ _ rfl ⟨rfl, (fun i hi => by rw [f1922 i (by omega), f1906 i (by omega), f1894 i (by omega), f1875 i (by omega), f1781 i (by omega), f1769 i (by omega), f32 i (by omega), f11 i (by omega)]), (fun k hk => by rw [f1923 k (by omega), f1907 k (by omega), f1895 k (by omega), f1876 k (by omega), f1782 k (by omega), f1770 k (by omega), f33 k (by omega), f12 k (by omega)]), (fun k hk => by rw [f1922 16 (by omega), f1906 16 (by omega), f1894 16 (by omega), f1875 16 (by omega), f1781 16 (by omega), f1769 16 (by omega), f32 16 (by omega), f11 16 (by omega)]), I1924, I1941, trivial⟩ hP hS dX7_readOrder_147
                      · have kc1919 := jne c1919 rfl jz_0
                        refine lv_aload_n hx hb dX7_readOrder_126 rfl (lv_at hl 4 rfl) ?_
                        refine lv_iconst (v := 3) hx hb dX7_readOrder_127 (by decide) ?_
                        refine jcallV (As := [.int 3]) (rest := []) ⟨hx, hb, hml, hown, hts⟩ hK hP hA hS hZ (c_X7_number_3 l D cI cL ad zz hJ σ1904 τ I1908 I1909 I1910) cw_RX7_53 (jc_9 cI cL ad σ1904 τ) rfl ⟨Nat.le_of_ble_eq_true rfl, Nat.le_of_ble_eq_true rfl⟩ rfl rfl rfl hl.1 rfl (Nat.le_of_ble_eq_true rfl) dX7_readOrder_128 ⟨Nat.zero_le _, Nat.zero_le _⟩ (fun r1943 σ1942 τ1942 H locs h1942 hP hS => ?_)
                        obtain ⟨rfl, f1944, f1945, I1946, I1947, I1948, h1942⟩ := h1942
                        obtain ⟨i1949, w1950, w1951⟩ : (0 ≤ (σ1942 9 0).toInt ∧ (σ1942 9 0).toInt ≤ 80) ∧ (∀ k : Nat, k < 80 → 0 ≤ (σ1942 10 k).toInt ∧ (σ1942 10 k).toInt ≤ 255) ∧ (∀ k : Nat, k < 8 → 0 ≤ (σ1942 11 k).toInt ∧ (σ1942 11 k).toInt ≤ 3) := id I1946
                        obtain ⟨i1952, i1953⟩ : (0 ≤ (σ1942 9 1).toInt) ∧ ((σ1942 9 1).toInt ≤ (σ1942 9 0).toInt) := id I1947
                        have i1954 : (-1) ≤ (σ1942 9 2).toInt := I1948
                        have z1955 : (σ1942 9 0).toInt = (σ 9 0).toInt := by rw [(show σ1942 9 0 = (σ 9 0) from (by rw [f1945 0 (by omega)]; exact (by rw [f1907 0 (by omega)]; exact (by rw [f1895 0 (by omega)]; exact (by rw [f1876 0 (by omega)]; exact (by rw [f1782 0 (by omega)]; exact (by rw [f1770 0 (by omega)]; exact (by rw [f33 0 (by omega)]; exact (by rw [f12 0 (by omega)])))))))))]
                        obtain ⟨k1956, h1942⟩ := h1942
                        have h1957 := h1942
                        obtain ⟨q1959, k1958⟩ := h1957
                        refine lv_istore (lv' := [(4, .int r1943), (3, .int r1874), (5, .int (σ1779 9 1)), (2, .int x25), (0, .ref (ad 9)), (1, .ref (ad 16))]) hx hb dX7_readOrder_131 hl (by decide) rfl (fun ls hl => ?_)
                        refine lv_aload_n hx hb dX7_readOrder_133 rfl (lv_at hl 4 rfl) ?_
                        refine jcallV (As := []) (rest := []) ⟨hx, hb, hml, hown, hts⟩ hK hP hA hS hZ (c_X7_end_9 l D cI cL ad zz hJ σ1942 τ I1946 I1947 I1948) cw_RX7_57 (jc_9 cI cL ad σ1942 τ) rfl ⟨Nat.le_of_ble_eq_true rfl, Nat.le_of_ble_eq_true rfl⟩ rfl rfl rfl hl.1 rfl (Nat.le_of_ble_eq_true rfl) dX7_readOrder_134 ⟨Nat.zero_le _, Nat.zero_le _⟩ (fun r1961 σ1960 τ1960 H locs h1960 hP hS => ?_)
                        obtain ⟨rfl, f1962, f1963, I1964, I1965, h1960⟩ := h1960
                        obtain ⟨i1966, w1967, w1968⟩ : (0 ≤ (σ1960 9 0).toInt ∧ (σ1960 9 0).toInt ≤ 80) ∧ (∀ k : Nat, k < 80 → 0 ≤ (σ1960 10 k).toInt ∧ (σ1960 10 k).toInt ≤ 255) ∧ (∀ k : Nat, k < 8 → 0 ≤ (σ1960 11 k).toInt ∧ (σ1960 11 k).toInt ≤ 3) := id I1964
                        have i1969 : (-1) ≤ (σ1960 9 2).toInt := I1965
                        rcases h1960 with h1970 | h1971
                        · obtain ⟨q1973, k1972⟩ := h1970
                          exact absurd (by omega : False) id
                        · obtain ⟨q1975, k1974⟩ := h1971
                          refine lv_istore (lv' := [(5, .int r1961), (4, .int r1943), (3, .int r1874), (2, .int x25), (0, .ref (ad 9)), (1, .ref (ad 16))]) hx hb dX7_readOrder_137 hl (by decide) rfl (fun ls hl => ?_)
                          refine lv_iload hx hb dX7_readOrder_139 (lv_at hl 0 rfl) ?_
                          refine lv_iconst (v := (-1)) hx hb dX7_readOrder_141 (by decide) ?_
                          refine lv_icmp_eq (tgt := 148) hx hb dX7_readOrder_142 (by decide) (fun c => absurd (jeq c rfl jz_m1) (by omega)) (fun c1976 => ?_)
                          have kc1976 := jne c1976 rfl jz_m1
                          refine lv_iload hx hb dX7_readOrder_145 (lv_at hl 0 rfl) ?_
                          have z1977 : (σ1960 16 0).toInt = (σ 16 0).toInt := by rw [(show σ1960 16 0 = (σ 16 0) from (by rw [f1962 16 (by omega)]; exact (by rw [f1944 16 (by omega)]; exact (by rw [f1906 16 (by omega)]; exact (by rw [f1894 16 (by omega)]; exact (by rw [f1875 16 (by omega)]; exact (by rw [f1781 16 (by omega)]; exact (by rw [f1769 16 (by omega)]; exact (by rw [f32 16 (by omega)]; exact (by rw [f11 16 (by omega)]))))))))))]
                          have z1978 : (σ1960 16 1).toInt = (σ 16 1).toInt := by rw [(show σ1960 16 1 = (σ 16 1) from (by rw [f1962 16 (by omega)]; exact (by rw [f1944 16 (by omega)]; exact (by rw [f1906 16 (by omega)]; exact (by rw [f1894 16 (by omega)]; exact (by rw [f1875 16 (by omega)]; exact (by rw [f1781 16 (by omega)]; exact (by rw [f1769 16 (by omega)]; exact (by rw [f32 16 (by omega)]; exact (by rw [f11 16 (by omega)]))))))))))]
                          have z1979 : (σ1960 16 2).toInt = (σ 16 2).toInt := by rw [(show σ1960 16 2 = (σ 16 2) from (by rw [f1962 16 (by omega)]; exact (by rw [f1944 16 (by omega)]; exact (by rw [f1906 16 (by omega)]; exact (by rw [f1894 16 (by omega)]; exact (by rw [f1875 16 (by omega)]; exact (by rw [f1781 16 (by omega)]; exact (by rw [f1769 16 (by omega)]; exact (by rw [f32 16 (by omega)]; exact (by rw [f11 16 (by omega)]))))))))))]
                          have w1980 : ∀ k : Nat, k < 8 → 0 ≤ (σ1960 17 k).toInt ∧ (σ1960 17 k).toInt ≤ 3 := (by rw [f1962 17 (by omega)]; exact (by rw [f1944 17 (by omega)]; exact (by rw [f1906 17 (by omega)]; exact (by rw [f1894 17 (by omega)]; exact (by rw [f1875 17 (by omega)]; exact (by rw [f1781 17 (by omega)]; exact (by rw [f1769 17 (by omega)]; exact (by rw [f32 17 (by omega)]; exact (by rw [f11 17 (by omega)]; exact w7)))))))))
                          have I1981 : jI16 σ1960 := ⟨(by omega), (by omega), (by omega), w1980⟩
                          exact hret r1961 σ1960 τ _ _ _ _ rfl ⟨rfl, (fun i hi => by rw [f1962 i (by omega), f1944 i (by omega), f1906 i (by omega), f1894 i (by omega), f1875 i (by omega), f1781 i (by omega), f1769 i (by omega), f32 i (by omega), f11 i (by omega)]), (fun k hk => by rw [f1963 k (by omega), f1945 k (by omega), f1907 k (by omega), f1895 k (by omega), f1876 k (by omega), f1782 k (by omega), f1770 k (by omega), f33 k (by omega), f12 k (by omega)]), (fun k hk => by rw [f1962 16 (by omega), f1944 16 (by omega), f1906 16 (by omega), f1894 16 (by omega), f1875 16 (by omega), f1781 16 (by omega), f1769 16 (by omega), f32 16 (by omega), f11 16 (by omega)]), I1964, I1981, trivial⟩ hP hS dX7_readOrder_147
                    · have kc1891 := jnlt c1891 rfl jz_1
                      refine lv_iload_n hx hb dX7_readOrder_105 rfl (lv_at hl 0 rfl) ?_
                      refine lv_bipush (v := 12) hx hb dX7_readOrder_106 (by decide) ?_
                      refine lv_icmp_le (tgt := 117) hx hb dX7_readOrder_108 (by decide) (fun c1982 => ?_) (fun c1982 => ?_)
                      · have kc1982 := jle c1982 rfl jz_12
                        refine lv_aload_n hx hb dX7_readOrder_117 rfl (lv_at hl 4 rfl) ?_
                        refine lv_bipush (v := 114) hx hb dX7_readOrder_118 (by decide) ?_
                        refine jcallV (As := [.int 114]) (rest := []) ⟨hx, hb, hml, hown, hts⟩ hK hP hA hS hZ (c_X7_skip_9 l D cI cL ad zz hJ σ1873 τ 114 (114) jz_114 I1877 I1878 I1879 (by omega)) cw_RX7_50 (jc_9 cI cL ad σ1873 τ) rfl ⟨Nat.le_of_ble_eq_true rfl, Nat.le_of_ble_eq_true rfl⟩ rfl rfl rfl hl.1 rfl (Nat.le_of_ble_eq_true rfl) dX7_readOrder_120 ⟨Nat.zero_le _, Nat.zero_le _⟩ (fun r1984 σ1983 τ1983 H locs h1983 hP hS => ?_)
                        obtain ⟨rfl, f1985, f1986, I1987, I1988, I1989, h1983⟩ := h1983
                        obtain ⟨i1990, w1991, w1992⟩ : (0 ≤ (σ1983 9 0).toInt ∧ (σ1983 9 0).toInt ≤ 80) ∧ (∀ k : Nat, k < 80 → 0 ≤ (σ1983 10 k).toInt ∧ (σ1983 10 k).toInt ≤ 255) ∧ (∀ k : Nat, k < 8 → 0 ≤ (σ1983 11 k).toInt ∧ (σ1983 11 k).toInt ≤ 3) := id I1987
                        obtain ⟨i1993, i1994⟩ : (0 ≤ (σ1983 9 1).toInt) ∧ ((σ1983 9 1).toInt ≤ (σ1983 9 0).toInt) := id I1988
                        have i1995 : (-1) ≤ (σ1983 9 2).toInt := I1989
                        have z1996 : (σ1983 9 0).toInt = (σ 9 0).toInt := by rw [(show σ1983 9 0 = (σ 9 0) from (by rw [f1986 0 (by omega)]; exact (by rw [f1876 0 (by omega)]; exact (by rw [f1782 0 (by omega)]; exact (by rw [f1770 0 (by omega)]; exact (by rw [f33 0 (by omega)]; exact (by rw [f12 0 (by omega)])))))))]
                        have z1997 : (σ1983 9 2).toInt = (σ1873 9 2).toInt := by rw [(show σ1983 9 2 = (σ1873 9 2) from (by rw [f1986 2 (by omega)]))]
                        refine lv_if_eq (tgt := 133) hx hb dX7_readOrder_123 (by decide) (fun c1998 => ?_) (fun c1998 => ?_)
                        · have kc1998 := jeq c1998 rfl jz_0
                          refine lv_aload_n hx hb dX7_readOrder_133 rfl (lv_at hl 4 rfl) ?_
                          refine jcallV (As := []) (rest := []) ⟨hx, hb, hml, hown, hts⟩ hK hP hA hS hZ (c_X7_end_9 l D cI cL ad zz hJ σ1983 τ I1987 I1988 I1989) cw_RX7_57 (jc_9 cI cL ad σ1983 τ) rfl ⟨Nat.le_of_ble_eq_true rfl, Nat.le_of_ble_eq_true rfl⟩ rfl rfl rfl hl.1 rfl (Nat.le_of_ble_eq_true rfl) dX7_readOrder_134 ⟨Nat.zero_le _, Nat.zero_le _⟩ (fun r2000 σ1999 τ1999 H locs h1999 hP hS => ?_)
                          obtain ⟨rfl, f2001, f2002, I2003, I2004, h1999⟩ := h1999
                          obtain ⟨i2005, w2006, w2007⟩ : (0 ≤ (σ1999 9 0).toInt ∧ (σ1999 9 0).toInt ≤ 80) ∧ (∀ k : Nat, k < 80 → 0 ≤ (σ1999 10 k).toInt ∧ (σ1999 10 k).toInt ≤ 255) ∧ (∀ k : Nat, k < 8 → 0 ≤ (σ1999 11 k).toInt ∧ (σ1999 11 k).toInt ≤ 3) := id I2003
                          have i2008 : (-1) ≤ (σ1999 9 2).toInt := I2004
                          rcases h1999 with h2009 | h2010
                          · obtain ⟨q2012, k2011⟩ := h2009
                            exact absurd (by omega : False) id
                          · obtain ⟨q2014, k2013⟩ := h2010
                            refine lv_istore (lv' := [(5, .int r2000), (3, .int r1874), (4, .int 0), (2, .int x25), (0, .ref (ad 9)), (1, .ref (ad 16))]) hx hb dX7_readOrder_137 hl (by decide) rfl (fun ls hl => ?_)
                            refine lv_iload hx hb dX7_readOrder_139 (lv_at hl 0 rfl) ?_
                            refine lv_iconst (v := (-1)) hx hb dX7_readOrder_141 (by decide) ?_
                            refine lv_icmp_eq (tgt := 148) hx hb dX7_readOrder_142 (by decide) (fun c => absurd (jeq c rfl jz_m1) (by omega)) (fun c2015 => ?_)
                            have kc2015 := jne c2015 rfl jz_m1
                            refine lv_iload hx hb dX7_readOrder_145 (lv_at hl 0 rfl) ?_
                            have z2016 : (σ1999 16 0).toInt = (σ 16 0).toInt := by rw [(show σ1999 16 0 = (σ 16 0) from (by rw [f2001 16 (by omega)]; exact (by rw [f1985 16 (by omega)]; exact (by rw [f1875 16 (by omega)]; exact (by rw [f1781 16 (by omega)]; exact (by rw [f1769 16 (by omega)]; exact (by rw [f32 16 (by omega)]; exact (by rw [f11 16 (by omega)]))))))))]
                            have z2017 : (σ1999 16 1).toInt = (σ 16 1).toInt := by rw [(show σ1999 16 1 = (σ 16 1) from (by rw [f2001 16 (by omega)]; exact (by rw [f1985 16 (by omega)]; exact (by rw [f1875 16 (by omega)]; exact (by rw [f1781 16 (by omega)]; exact (by rw [f1769 16 (by omega)]; exact (by rw [f32 16 (by omega)]; exact (by rw [f11 16 (by omega)]))))))))]
                            have z2018 : (σ1999 16 2).toInt = (σ 16 2).toInt := by rw [(show σ1999 16 2 = (σ 16 2) from (by rw [f2001 16 (by omega)]; exact (by rw [f1985 16 (by omega)]; exact (by rw [f1875 16 (by omega)]; exact (by rw [f1781 16 (by omega)]; exact (by rw [f1769 16 (by omega)]; exact (by rw [f32 16 (by omega)]; exact (by rw [f11 16 (by omega)]))))))))]
                            have w2019 : ∀ k : Nat, k < 8 → 0 ≤ (σ1999 17 k).toInt ∧ (σ1999 17 k).toInt ≤ 3 := (by rw [f2001 17 (by omega)]; exact (by rw [f1985 17 (by omega)]; exact (by rw [f1875 17 (by omega)]; exact (by rw [f1781 17 (by omega)]; exact (by rw [f1769 17 (by omega)]; exact (by rw [f32 17 (by omega)]; exact (by rw [f11 17 (by omega)]; exact w7)))))))
                            have I2020 : jI16 σ1999 := ⟨(by omega), (by omega), (by omega), w2019⟩
                            exact hret r2000 σ1999 τ _ _ _ _ rfl ⟨rfl, (fun i hi => by rw [f2001 i (by omega), f1985 i (by omega), f1875 i (by omega), f1781 i (by omega), f1769 i (by omega), f32 i (by omega), f11 i (by omega)]), (fun k hk => by rw [f2002 k (by omega), f1986 k (by omega), f1876 k (by omega), f1782 k (by omega), f1770 k (by omega), f33 k (by omega), f12 k (by omega)]), (fun k hk => by rw [f2001 16 (by omega), f1985 16 (by omega), f1875 16 (by omega), f1781 16 (by omega), f1769 16 (by omega), f32 16 (by omega), f11 16 (by omega)]), I2003, I2020, trivial⟩ hP hS dX7_readOrder_147
                        · have kc1998 := jne c1998 rfl jz_0
                          refine lv_aload_n hx hb dX7_readOrder_126 rfl (lv_at hl 4 rfl) ?_
                          refine lv_iconst (v := 3) hx hb dX7_readOrder_127 (by decide) ?_
                          refine jcallV (As := [.int 3]) (rest := []) ⟨hx, hb, hml, hown, hts⟩ hK hP hA hS hZ (c_X7_number_3 l D cI cL ad zz hJ σ1983 τ I1987 I1988 I1989) cw_RX7_53 (jc_9 cI cL ad σ1983 τ) rfl ⟨Nat.le_of_ble_eq_true rfl, Nat.le_of_ble_eq_true rfl⟩ rfl rfl rfl hl.1 rfl (Nat.le_of_ble_eq_true rfl) dX7_readOrder_128 ⟨Nat.zero_le _, Nat.zero_le _⟩ (fun r2022 σ2021 τ2021 H locs h2021 hP hS => ?_)
                          obtain ⟨rfl, f2023, f2024, I2025, I2026, I2027, h2021⟩ := h2021
                          obtain ⟨i2028, w2029, w2030⟩ : (0 ≤ (σ2021 9 0).toInt ∧ (σ2021 9 0).toInt ≤ 80) ∧ (∀ k : Nat, k < 80 → 0 ≤ (σ2021 10 k).toInt ∧ (σ2021 10 k).toInt ≤ 255) ∧ (∀ k : Nat, k < 8 → 0 ≤ (σ2021 11 k).toInt ∧ (σ2021 11 k).toInt ≤ 3) := id I2025
                          obtain ⟨i2031, i2032⟩ : (0 ≤ (σ2021 9 1).toInt) ∧ ((σ2021 9 1).toInt ≤ (σ2021 9 0).toInt) := id I2026
                          have i2033 : (-1) ≤ (σ2021 9 2).toInt := I2027
                          have z2034 : (σ2021 9 0).toInt = (σ 9 0).toInt := by rw [(show σ2021 9 0 = (σ 9 0) from (by rw [f2024 0 (by omega)]; exact (by rw [f1986 0 (by omega)]; exact (by rw [f1876 0 (by omega)]; exact (by rw [f1782 0 (by omega)]; exact (by rw [f1770 0 (by omega)]; exact (by rw [f33 0 (by omega)]; exact (by rw [f12 0 (by omega)]))))))))]
                          obtain ⟨k2035, h2021⟩ := h2021
                          have h2036 := h2021
                          obtain ⟨q2038, k2037⟩ := h2036
                          refine lv_istore (lv' := [(4, .int r2022), (3, .int r1874), (5, .int (σ1779 9 1)), (2, .int x25), (0, .ref (ad 9)), (1, .ref (ad 16))]) hx hb dX7_readOrder_131 hl (by decide) rfl (fun ls hl => ?_)
                          refine lv_aload_n hx hb dX7_readOrder_133 rfl (lv_at hl 4 rfl) ?_
                          refine jcallV (As := []) (rest := []) ⟨hx, hb, hml, hown, hts⟩ hK hP hA hS hZ (c_X7_end_9 l D cI cL ad zz hJ σ2021 τ I2025 I2026 I2027) cw_RX7_57 (jc_9 cI cL ad σ2021 τ) rfl ⟨Nat.le_of_ble_eq_true rfl, Nat.le_of_ble_eq_true rfl⟩ rfl rfl rfl hl.1 rfl (Nat.le_of_ble_eq_true rfl) dX7_readOrder_134 ⟨Nat.zero_le _, Nat.zero_le _⟩ (fun r2040 σ2039 τ2039 H locs h2039 hP hS => ?_)
                          obtain ⟨rfl, f2041, f2042, I2043, I2044, h2039⟩ := h2039
                          obtain ⟨i2045, w2046, w2047⟩ : (0 ≤ (σ2039 9 0).toInt ∧ (σ2039 9 0).toInt ≤ 80) ∧ (∀ k : Nat, k < 80 → 0 ≤ (σ2039 10 k).toInt ∧ (σ2039 10 k).toInt ≤ 255) ∧ (∀ k : Nat, k < 8 → 0 ≤ (σ2039 11 k).toInt ∧ (σ2039 11 k).toInt ≤ 3) := id I2043
                          have i2048 : (-1) ≤ (σ2039 9 2).toInt := I2044
                          rcases h2039 with h2049 | h2050
                          · obtain ⟨q2052, k2051⟩ := h2049
                            exact absurd (by omega : False) id
                          · obtain ⟨q2054, k2053⟩ := h2050
                            refine lv_istore (lv' := [(5, .int r2040), (4, .int r2022), (3, .int r1874), (2, .int x25), (0, .ref (ad 9)), (1, .ref (ad 16))]) hx hb dX7_readOrder_137 hl (by decide) rfl (fun ls hl => ?_)
                            refine lv_iload hx hb dX7_readOrder_139 (lv_at hl 0 rfl) ?_
                            refine lv_iconst (v := (-1)) hx hb dX7_readOrder_141 (by decide) ?_
                            refine lv_icmp_eq (tgt := 148) hx hb dX7_readOrder_142 (by decide) (fun c => absurd (jeq c rfl jz_m1) (by omega)) (fun c2055 => ?_)
                            have kc2055 := jne c2055 rfl jz_m1
                            refine lv_iload hx hb dX7_readOrder_145 (lv_at hl 0 rfl) ?_
                            have z2056 : (σ2039 16 0).toInt = (σ 16 0).toInt := by rw [(show σ2039 16 0 = (σ 16 0) from (by rw [f2041 16 (by omega)]; exact (by rw [f2023 16 (by omega)]; exact (by rw [f1985 16 (by omega)]; exact (by rw [f1875 16 (by omega)]; exact (by rw [f1781 16 (by omega)]; exact (by rw [f1769 16 (by omega)]; exact (by rw [f32 16 (by omega)]; exact (by rw [f11 16 (by omega)])))))))))]
                            have z2057 : (σ2039 16 1).toInt = (σ 16 1).toInt := by rw [(show σ2039 16 1 = (σ 16 1) from (by rw [f2041 16 (by omega)]; exact (by rw [f2023 16 (by omega)]; exact (by rw [f1985 16 (by omega)]; exact (by rw [f1875 16 (by omega)]; exact (by rw [f1781 16 (by omega)]; exact (by rw [f1769 16 (by omega)]; exact (by rw [f32 16 (by omega)]; exact (by rw [f11 16 (by omega)])))))))))]
                            have z2058 : (σ2039 16 2).toInt = (σ 16 2).toInt := by rw [(show σ2039 16 2 = (σ 16 2) from (by rw [f2041 16 (by omega)]; exact (by rw [f2023 16 (by omega)]; exact (by rw [f1985 16 (by omega)]; exact (by rw [f1875 16 (by omega)]; exact (by rw [f1781 16 (by omega)]; exact (by rw [f1769 16 (by omega)]; exact (by rw [f32 16 (by omega)]; exact (by rw [f11 16 (by omega)])))))))))]
                            have w2059 : ∀ k : Nat, k < 8 → 0 ≤ (σ2039 17 k).toInt ∧ (σ2039 17 k).toInt ≤ 3 := (by rw [f2041 17 (by omega)]; exact (by rw [f2023 17 (by omega)]; exact (by rw [f1985 17 (by omega)]; exact (by rw [f1875 17 (by omega)]; exact (by rw [f1781 17 (by omega)]; exact (by rw [f1769 17 (by omega)]; exact (by rw [f32 17 (by omega)]; exact (by rw [f11 17 (by omega)]; exact w7))))))))
                            have I2060 : jI16 σ2039 := ⟨(by omega), (by omega), (by omega), w2059⟩
                            exact hret r2040 σ2039 τ _ _ _ _ rfl ⟨rfl, (fun i hi => by rw [f2041 i (by omega), f2023 i (by omega), f1985 i (by omega), f1875 i (by omega), f1781 i (by omega), f1769 i (by omega), f32 i (by omega), f11 i (by omega)]), (fun k hk => by rw [f2042 k (by omega), f2024 k (by omega), f1986 k (by omega), f1876 k (by omega), f1782 k (by omega), f1770 k (by omega), f33 k (by omega), f12 k (by omega)]), (fun k hk => by rw [f2041 16 (by omega), f2023 16 (by omega), f1985 16 (by omega), f1875 16 (by omega), f1781 16 (by omega), f1769 16 (by omega), f32 16 (by omega), f11 16 (by omega)]), I2043, I2060, trivial⟩ hP hS dX7_readOrder_147
                      · have kc1982 := jnle c1982 rfl jz_12
                        refine lv_aload_n hx hb dX7_readOrder_111 rfl (lv_at hl 4 rfl) ?_
                        refine lv_iload hx hb dX7_readOrder_112 (lv_at hl 1 rfl) ?_
                        refine jcallVv (As := [.int (σ1779 9 1)]) (rest := []) ⟨hx, hb, hml, hown, hts⟩ hK hP hA hS hZ (c_X7_fail_9 l D cI cL ad zz hJ σ1873 τ (σ1779 9 1) ((σ1779 9 1).toInt) rfl I1879 (by omega)) cw_RX7_43 (jc_9 cI cL ad σ1873 τ) rfl ⟨Nat.le_of_ble_eq_true rfl, Nat.le_of_ble_eq_true rfl⟩ rfl rfl rfl hl.1 rfl (Nat.le_of_ble_eq_true rfl) dX7_readOrder_114 ⟨Nat.zero_le _, Nat.zero_le _⟩ (fun σ2061 τ2061 H locs h2061 hP hS => ?_)
                        obtain ⟨rfl, f2063, f2064, h2061⟩ := h2061
                        obtain ⟨k2065, h2061⟩ := h2061
                        refine lv_aload_n hx hb dX7_readOrder_117 rfl (lv_at hl 4 rfl) ?_
                        refine lv_bipush (v := 114) hx hb dX7_readOrder_118 (by decide) ?_
                        have z2066 : (σ2061 9 0).toInt = (σ 9 0).toInt := by rw [(show σ2061 9 0 = (σ 9 0) from (by rw [f2064 0 (by omega)]; exact (by rw [f1876 0 (by omega)]; exact (by rw [f1782 0 (by omega)]; exact (by rw [f1770 0 (by omega)]; exact (by rw [f33 0 (by omega)]; exact (by rw [f12 0 (by omega)])))))))]
                        have w2067 : ∀ k : Nat, k < 80 → 0 ≤ (σ2061 10 k).toInt ∧ (σ2061 10 k).toInt ≤ 255 := (by rw [f2063 10 (by omega)]; exact w1881)
                        have w2068 : ∀ k : Nat, k < 8 → 0 ≤ (σ2061 11 k).toInt ∧ (σ2061 11 k).toInt ≤ 3 := (by rw [f2063 11 (by omega)]; exact w1882)
                        have I2069 : jI9 σ2061 := ⟨(by omega), w2067, w2068⟩
                        have z2070 : (σ2061 9 1).toInt = (σ1873 9 1).toInt := by rw [(show σ2061 9 1 = (σ1873 9 1) from (by rw [f2064 1 (by omega)]))]
                        have I2071 : jI91 σ2061 := ⟨(by omega), (by omega)⟩
                        have I2072 : jI92 σ2061 := (show (-1) ≤ (σ2061 9 2).toInt by omega)
                        refine jcallV (As := [.int 114]) (rest := []) ⟨hx, hb, hml, hown, hts⟩ hK hP hA hS hZ (c_X7_skip_9 l D cI cL ad zz hJ σ2061 τ 114 (114) jz_114 I2069 I2071 I2072 (by omega)) cw_RX7_50 (jc_9 cI cL ad σ2061 τ) rfl ⟨Nat.le_of_ble_eq_true rfl, Nat.le_of_ble_eq_true rfl⟩ rfl rfl rfl hl.1 rfl (Nat.le_of_ble_eq_true rfl) dX7_readOrder_120 ⟨Nat.zero_le _, Nat.zero_le _⟩ (fun r2074 σ2073 τ2073 H locs h2073 hP hS => ?_)
                        obtain ⟨rfl, f2075, f2076, I2077, I2078, I2079, h2073⟩ := h2073
                        obtain ⟨i2080, w2081, w2082⟩ : (0 ≤ (σ2073 9 0).toInt ∧ (σ2073 9 0).toInt ≤ 80) ∧ (∀ k : Nat, k < 80 → 0 ≤ (σ2073 10 k).toInt ∧ (σ2073 10 k).toInt ≤ 255) ∧ (∀ k : Nat, k < 8 → 0 ≤ (σ2073 11 k).toInt ∧ (σ2073 11 k).toInt ≤ 3) := id I2077
                        obtain ⟨i2083, i2084⟩ : (0 ≤ (σ2073 9 1).toInt) ∧ ((σ2073 9 1).toInt ≤ (σ2073 9 0).toInt) := id I2078
                        have i2085 : (-1) ≤ (σ2073 9 2).toInt := I2079
                        have z2086 : (σ2073 9 0).toInt = (σ 9 0).toInt := by rw [(show σ2073 9 0 = (σ 9 0) from (by rw [f2076 0 (by omega)]; exact (by rw [f2064 0 (by omega)]; exact (by rw [f1876 0 (by omega)]; exact (by rw [f1782 0 (by omega)]; exact (by rw [f1770 0 (by omega)]; exact (by rw [f33 0 (by omega)]; exact (by rw [f12 0 (by omega)]))))))))]
                        have z2087 : (σ2073 9 2).toInt = (σ2061 9 2).toInt := by rw [(show σ2073 9 2 = (σ2061 9 2) from (by rw [f2076 2 (by omega)]))]
                        refine lv_if_eq (tgt := 133) hx hb dX7_readOrder_123 (by decide) (fun c2088 => ?_) (fun c2088 => ?_)
                        · have kc2088 := jeq c2088 rfl jz_0
                          refine lv_aload_n hx hb dX7_readOrder_133 rfl (lv_at hl 4 rfl) ?_
                          refine jcallV (As := []) (rest := []) ⟨hx, hb, hml, hown, hts⟩ hK hP hA hS hZ (c_X7_end_9 l D cI cL ad zz hJ σ2073 τ I2077 I2078 I2079) cw_RX7_57 (jc_9 cI cL ad σ2073 τ) rfl ⟨Nat.le_of_ble_eq_true rfl, Nat.le_of_ble_eq_true rfl⟩ rfl rfl rfl hl.1 rfl (Nat.le_of_ble_eq_true rfl) dX7_readOrder_134 ⟨Nat.zero_le _, Nat.zero_le _⟩ (fun r2090 σ2089 τ2089 H locs h2089 hP hS => ?_)
                          obtain ⟨rfl, f2091, f2092, I2093, I2094, h2089⟩ := h2089
                          obtain ⟨i2095, w2096, w2097⟩ : (0 ≤ (σ2089 9 0).toInt ∧ (σ2089 9 0).toInt ≤ 80) ∧ (∀ k : Nat, k < 80 → 0 ≤ (σ2089 10 k).toInt ∧ (σ2089 10 k).toInt ≤ 255) ∧ (∀ k : Nat, k < 8 → 0 ≤ (σ2089 11 k).toInt ∧ (σ2089 11 k).toInt ≤ 3) := id I2093
                          have i2098 : (-1) ≤ (σ2089 9 2).toInt := I2094
                          rcases h2089 with h2099 | h2100
                          · obtain ⟨q2102, k2101⟩ := h2099
                            exact absurd (by omega : False) id
                          · obtain ⟨q2104, k2103⟩ := h2100
                            refine lv_istore (lv' := [(5, .int r2090), (3, .int r1874), (4, .int 0), (2, .int x25), (0, .ref (ad 9)), (1, .ref (ad 16))]) hx hb dX7_readOrder_137 hl (by decide) rfl (fun ls hl => ?_)
                            refine lv_iload hx hb dX7_readOrder_139 (lv_at hl 0 rfl) ?_
                            refine lv_iconst (v := (-1)) hx hb dX7_readOrder_141 (by decide) ?_
                            refine lv_icmp_eq (tgt := 148) hx hb dX7_readOrder_142 (by decide) (fun c => absurd (jeq c rfl jz_m1) (by omega)) (fun c2105 => ?_)
                            have kc2105 := jne c2105 rfl jz_m1
                            refine lv_iload hx hb dX7_readOrder_145 (lv_at hl 0 rfl) ?_
                            have z2106 : (σ2089 16 0).toInt = (σ 16 0).toInt := by rw [(show σ2089 16 0 = (σ 16 0) from (by rw [f2091 16 (by omega)]; exact (by rw [f2075 16 (by omega)]; exact (by rw [f2063 16 (by omega)]; exact (by rw [f1875 16 (by omega)]; exact (by rw [f1781 16 (by omega)]; exact (by rw [f1769 16 (by omega)]; exact (by rw [f32 16 (by omega)]; exact (by rw [f11 16 (by omega)])))))))))]
                            have z2107 : (σ2089 16 1).toInt = (σ 16 1).toInt := by rw [(show σ2089 16 1 = (σ 16 1) from (by rw [f2091 16 (by omega)]; exact (by rw [f2075 16 (by omega)]; exact (by rw [f2063 16 (by omega)]; exact (by rw [f1875 16 (by omega)]; exact (by rw [f1781 16 (by omega)]; exact (by rw [f1769 16 (by omega)]; exact (by rw [f32 16 (by omega)]; exact (by rw [f11 16 (by omega)])))))))))]
                            have z2108 : (σ2089 16 2).toInt = (σ 16 2).toInt := by rw [(show σ2089 16 2 = (σ 16 2) from (by rw [f2091 16 (by omega)]; exact (by rw [f2075 16 (by omega)]; exact (by rw [f2063 16 (by omega)]; exact (by rw [f1875 16 (by omega)]; exact (by rw [f1781 16 (by omega)]; exact (by rw [f1769 16 (by omega)]; exact (by rw [f32 16 (by omega)]; exact (by rw [f11 16 (by omega)])))))))))]
                            have w2109 : ∀ k : Nat, k < 8 → 0 ≤ (σ2089 17 k).toInt ∧ (σ2089 17 k).toInt ≤ 3 := (by rw [f2091 17 (by omega)]; exact (by rw [f2075 17 (by omega)]; exact (by rw [f2063 17 (by omega)]; exact (by rw [f1875 17 (by omega)]; exact (by rw [f1781 17 (by omega)]; exact (by rw [f1769 17 (by omega)]; exact (by rw [f32 17 (by omega)]; exact (by rw [f11 17 (by omega)]; exact w7))))))))
                            have I2110 : jI16 σ2089 := ⟨(by omega), (by omega), (by omega), w2109⟩
                            exact hret r2090 σ2089 τ _ _ _ _ rfl ⟨rfl, (fun i hi => by rw [f2091 i (by omega), f2075 i (by omega), f2063 i (by omega), f1875 i (by omega), f1781 i (by omega), f1769 i (by omega), f32 i (by omega), f11 i (by omega)]), (fun k hk => by rw [f2092 k (by omega), f2076 k (by omega), f2064 k (by omega), f1876 k (by omega), f1782 k (by omega), f1770 k (by omega), f33 k (by omega), f12 k (by omega)]), (fun k hk => by rw [f2091 16 (by omega), f2075 16 (by omega), f2063 16 (by omega), f1875 16 (by omega), f1781 16 (by omega), f1769 16 (by omega), f32 16 (by omega), f11 16 (by omega)]), I2093, I2110, trivial⟩ hP hS dX7_readOrder_147
                        · have kc2088 := jne c2088 rfl jz_0
                          refine lv_aload_n hx hb dX7_readOrder_126 rfl (lv_at hl 4 rfl) ?_
                          refine lv_iconst (v := 3) hx hb dX7_readOrder_127 (by decide) ?_
                          refine jcallV (As := [.int 3]) (rest := []) ⟨hx, hb, hml, hown, hts⟩ hK hP hA hS hZ (c_X7_number_3 l D cI cL ad zz hJ σ2073 τ I2077 I2078 I2079) cw_RX7_53 (jc_9 cI cL ad σ2073 τ) rfl ⟨Nat.le_of_ble_eq_true rfl, Nat.le_of_ble_eq_true rfl⟩ rfl rfl rfl hl.1 rfl (Nat.le_of_ble_eq_true rfl) dX7_readOrder_128 ⟨Nat.zero_le _, Nat.zero_le _⟩ (fun r2112 σ2111 τ2111 H locs h2111 hP hS => ?_)
                          obtain ⟨rfl, f2113, f2114, I2115, I2116, I2117, h2111⟩ := h2111
                          obtain ⟨i2118, w2119, w2120⟩ : (0 ≤ (σ2111 9 0).toInt ∧ (σ2111 9 0).toInt ≤ 80) ∧ (∀ k : Nat, k < 80 → 0 ≤ (σ2111 10 k).toInt ∧ (σ2111 10 k).toInt ≤ 255) ∧ (∀ k : Nat, k < 8 → 0 ≤ (σ2111 11 k).toInt ∧ (σ2111 11 k).toInt ≤ 3) := id I2115
                          obtain ⟨i2121, i2122⟩ : (0 ≤ (σ2111 9 1).toInt) ∧ ((σ2111 9 1).toInt ≤ (σ2111 9 0).toInt) := id I2116
                          have i2123 : (-1) ≤ (σ2111 9 2).toInt := I2117
                          have z2124 : (σ2111 9 0).toInt = (σ 9 0).toInt := by rw [(show σ2111 9 0 = (σ 9 0) from (by rw [f2114 0 (by omega)]; exact (by rw [f2076 0 (by omega)]; exact (by rw [f2064 0 (by omega)]; exact (by rw [f1876 0 (by omega)]; exact (by rw [f1782 0 (by omega)]; exact (by rw [f1770 0 (by omega)]; exact (by rw [f33 0 (by omega)]; exact (by rw [f12 0 (by omega)])))))))))]
                          obtain ⟨k2125, h2111⟩ := h2111
                          have h2126 := h2111
                          obtain ⟨q2128, k2127⟩ := h2126
                          refine lv_istore (lv' := [(4, .int r2112), (3, .int r1874), (5, .int (σ1779 9 1)), (2, .int x25), (0, .ref (ad 9)), (1, .ref (ad 16))]) hx hb dX7_readOrder_131 hl (by decide) rfl (fun ls hl => ?_)
                          refine lv_aload_n hx hb dX7_readOrder_133 rfl (lv_at hl 4 rfl) ?_
                          refine jcallV (As := []) (rest := []) ⟨hx, hb, hml, hown, hts⟩ hK hP hA hS hZ (c_X7_end_9 l D cI cL ad zz hJ σ2111 τ I2115 I2116 I2117) cw_RX7_57 (jc_9 cI cL ad σ2111 τ) rfl ⟨Nat.le_of_ble_eq_true rfl, Nat.le_of_ble_eq_true rfl⟩ rfl rfl rfl hl.1 rfl (Nat.le_of_ble_eq_true rfl) dX7_readOrder_134 ⟨Nat.zero_le _, Nat.zero_le _⟩ (fun r2130 σ2129 τ2129 H locs h2129 hP hS => ?_)
                          obtain ⟨rfl, f2131, f2132, I2133, I2134, h2129⟩ := h2129
                          obtain ⟨i2135, w2136, w2137⟩ : (0 ≤ (σ2129 9 0).toInt ∧ (σ2129 9 0).toInt ≤ 80) ∧ (∀ k : Nat, k < 80 → 0 ≤ (σ2129 10 k).toInt ∧ (σ2129 10 k).toInt ≤ 255) ∧ (∀ k : Nat, k < 8 → 0 ≤ (σ2129 11 k).toInt ∧ (σ2129 11 k).toInt ≤ 3) := id I2133
                          have i2138 : (-1) ≤ (σ2129 9 2).toInt := I2134
                          rcases h2129 with h2139 | h2140
                          · obtain ⟨q2142, k2141⟩ := h2139
                            exact absurd (by omega : False) id
                          · obtain ⟨q2144, k2143⟩ := h2140
                            refine lv_istore (lv' := [(5, .int r2130), (4, .int r2112), (3, .int r1874), (2, .int x25), (0, .ref (ad 9)), (1, .ref (ad 16))]) hx hb dX7_readOrder_137 hl (by decide) rfl (fun ls hl => ?_)
                            refine lv_iload hx hb dX7_readOrder_139 (lv_at hl 0 rfl) ?_
                            refine lv_iconst (v := (-1)) hx hb dX7_readOrder_141 (by decide) ?_
                            refine lv_icmp_eq (tgt := 148) hx hb dX7_readOrder_142 (by decide) (fun c => absurd (jeq c rfl jz_m1) (by omega)) (fun c2145 => ?_)
                            have kc2145 := jne c2145 rfl jz_m1
                            refine lv_iload hx hb dX7_readOrder_145 (lv_at hl 0 rfl) ?_
                            have z2146 : (σ2129 16 0).toInt = (σ 16 0).toInt := by rw [(show σ2129 16 0 = (σ 16 0) from (by rw [f2131 16 (by omega)]; exact (by rw [f2113 16 (by omega)]; exact (by rw [f2075 16 (by omega)]; exact (by rw [f2063 16 (by omega)]; exact (by rw [f1875 16 (by omega)]; exact (by rw [f1781 16 (by omega)]; exact (by rw [f1769 16 (by omega)]; exact (by rw [f32 16 (by omega)]; exact (by rw [f11 16 (by omega)]))))))))))]
                            have z2147 : (σ2129 16 1).toInt = (σ 16 1).toInt := by rw [(show σ2129 16 1 = (σ 16 1) from (by rw [f2131 16 (by omega)]; exact (by rw [f2113 16 (by omega)]; exact (by rw [f2075 16 (by omega)]; exact (by rw [f2063 16 (by omega)]; exact (by rw [f1875 16 (by omega)]; exact (by rw [f1781 16 (by omega)]; exact (by rw [f1769 16 (by omega)]; exact (by rw [f32 16 (by omega)]; exact (by rw [f11 16 (by omega)]))))))))))]
                            have z2148 : (σ2129 16 2).toInt = (σ 16 2).toInt := by rw [(show σ2129 16 2 = (σ 16 2) from (by rw [f2131 16 (by omega)]; exact (by rw [f2113 16 (by omega)]; exact (by rw [f2075 16 (by omega)]; exact (by rw [f2063 16 (by omega)]; exact (by rw [f1875 16 (by omega)]; exact (by rw [f1781 16 (by omega)]; exact (by rw [f1769 16 (by omega)]; exact (by rw [f32 16 (by omega)]; exact (by rw [f11 16 (by omega)]))))))))))]
                            have w2149 : ∀ k : Nat, k < 8 → 0 ≤ (σ2129 17 k).toInt ∧ (σ2129 17 k).toInt ≤ 3 := (by rw [f2131 17 (by omega)]; exact (by rw [f2113 17 (by omega)]; exact (by rw [f2075 17 (by omega)]; exact (by rw [f2063 17 (by omega)]; exact (by rw [f1875 17 (by omega)]; exact (by rw [f1781 17 (by omega)]; exact (by rw [f1769 17 (by omega)]; exact (by rw [f32 17 (by omega)]; exact (by rw [f11 17 (by omega)]; exact w7)))))))))
                            have I2150 : jI16 σ2129 := ⟨(by omega), (by omega), (by omega), w2149⟩
                            exact hret r2130 σ2129 τ _ _ _ _ rfl ⟨rfl, (fun i hi => by rw [f2131 i (by omega), f2113 i (by omega), f2075 i (by omega), f2063 i (by omega), f1875 i (by omega), f1781 i (by omega), f1769 i (by omega), f32 i (by omega), f11 i (by omega)]), (fun k hk => by rw [f2132 k (by omega), f2114 k (by omega), f2076 k (by omega), f2064 k (by omega), f1876 k (by omega), f1782 k (by omega), f1770 k (by omega), f33 k (by omega), f12 k (by omega)]), (fun k hk => by rw [f2131 16 (by omega), f2113 16 (by omega), f2075 16 (by omega), f2063 16 (by omega), f1875 16 (by omega), f1781 16 (by omega), f1769 16 (by omega), f32 16 (by omega), f11 16 (by omega)]), I2133, I2150, trivial⟩ hP hS dX7_readOrder_147
              · have kc1324 := jnlt c1324 jz_51 rfl
                refine lv_aload_n hx hb dX7_readOrder_36 rfl (lv_at hl 3 rfl) ?_
                refine va_get (D := D) hx hb hts inlX7 hown hK hP 9 (jc_9 cI cL ad σ26 τ) rfl 4 (by decide) (hts _ kw_3_21) (fun _ h9 => h9) rfl dX7_readOrder_37 ?_
                refine lv_iload_n hx hb dX7_readOrder_40 rfl (lv_at hl 2 rfl) ?_
                obtain ⟨x2151, ex2151⟩ : ∃ y : Int32, y = x25 + 1 := ⟨_, rfl⟩
                have tx2151 : x2151.toInt = x25.toInt + 1 := (jadd ex2151 rfl jz_1 (by omega) (by omega)).trans (by omega)
                refine lv_iinc (v := x2151) (lv' := [(2, .int x2151), (4, .int 0), (3, .int 8), (0, .ref (ad 9)), (1, .ref (ad 16))]) hx hb dX7_readOrder_41 hl (k := 2) rfl (by rw [ex2151]; rfl) (by decide) rfl (fun ls hl => ?_)
                refine lv_aload_n hx hb dX7_readOrder_44 rfl (lv_at hl 3 rfl) ?_
                refine va_get (D := D) hx hb hts inlX7 hown hK hP 9 (jc_9 cI cL ad σ26 τ) rfl 3 (by decide) (hts _ kw_3_20) (fun _ h9 => h9) rfl dX7_readOrder_45 ?_
                refine lv_aload_n hx hb dX7_readOrder_48 rfl (lv_at hl 3 rfl) ?_
                refine lv_dup hx hb dX7_readOrder_49 rfl ?_
                refine va_get (D := D) hx hb hts inlX7 hown hK hP 9 (jc_9 cI cL ad σ26 τ) rfl 1 (by decide) (hts _ kw_13_17) (fun _ h9 => h9) rfl dX7_readOrder_50 ?_
                refine lv_dup_x1 hx hb dX7_readOrder_53 rfl rfl ?_
                refine lv_iconst (v := 1) hx hb dX7_readOrder_54 (by decide) ?_
                have g2152 := jrg (rfl : (σ26 9 1).toInt = (σ26 9 1).toInt)
                refine lv_iadd hx hb dX7_readOrder_55 ?_
                refine lv_topi (fun x2153 ex2153 => ?_)
                have tx2153 : x2153.toInt = (σ26 9 1).toInt + 1 := (jadd ex2153 rfl jz_1 (by omega) (by omega)).trans (by omega)
                refine jput (ty := .int) hx hb hts inlX7 tyX7 tyX7_ok nmX7 hown hK hP hJ hA hS (jc_9 cI cL ad σ26 τ) rfl (k := 1) (by decide) (Nat.le_of_ble_eq_true rfl) (jp_9_1 cI cL ad σ26 τ x2153) (hts _ kw_13_17) (fun _ h9 => h9) rfl (by decide +kernel) rfl rfl dX7_readOrder_56 (fun σ2154 H locs eσ2154 hP hS => ?_)
                refine jald hx hb hK hP (jc_10 cI cL ad σ2154 τ) (jin rfl (by omega) (by omega)) dX7_readOrder_59 ?_
                refine jtopr (y := (σ 10 (σ26 9 1).toNatClampNeg)) (by rw [eσ2154, jup_n (by decide), f32 10 (by omega), f11 10 (by omega)]) ?_
                refine lv_bipush (v := 48) hx hb dX7_readOrder_60 (by decide) ?_
                have g2155 := jrg (rfl : (σ 10 (σ26 9 1).toNatClampNeg).toInt = (σ 10 (σ26 9 1).toNatClampNeg).toInt)
                refine lv_isub hx hb dX7_readOrder_62 ?_
                refine lv_topi (fun x2156 ex2156 => ?_)
                have tx2156 : x2156.toInt = (σ 10 (σ26 9 1).toNatClampNeg).toInt - 48 := (jsub ex2156 rfl jz_48 (by omega) (by omega)).trans (by omega)
                refine jast hx hb hK hP hJ hA hS (jc_11 cI cL ad σ2154 τ) (ja_11 cI cL ad σ2154 τ _ _) (jin rfl (by omega) (by omega)) dX7_readOrder_63 (fun σ2157 H locs eσ2157 hP hS => ?_)
                refine lv_goto (tgt := 12) hx hb dX7_readOrder_64 (by decide) ?_
                have z2158 : (σ2157 9 1).toInt = (σ26 9 1).toInt + 1 := by rw [(show σ2157 9 1 = x2153 from (by rw [eσ2157, jup_n (by decide)]; exact (by rw [eσ2154]; exact jup_s)))]; exact tx2153
                have z2159 : (σ2157 9 0).toInt = (σ 9 0).toInt := by rw [(show σ2157 9 0 = (σ 9 0) from (by rw [eσ2157, jup_n (by decide)]; exact (by rw [eσ2154, jup_k (by decide)]; exact (by rw [f33 0 (by omega)]; exact (by rw [f12 0 (by omega)])))))]
                have w2160 : ∀ k : Nat, k < 8 → 0 ≤ (σ2157 11 k).toInt ∧ (σ2157 11 k).toInt ≤ 3 := (by rw [eσ2157]; exact jrr_up (by rw [eσ2154, jup_n (by decide)]; exact w34) (by have h9 := tx2156; omega) (by have h9 := tx2156; omega))
                exact ihlp23 x2151 σ2157 _ _ ls (by have h90 := tx2151; omega) (by have h90 := tx2151; omega) (by have h90 := tx2151; omega) (by have h90 := tx2151; omega) (by have h90 := tx2151; omega) (fun i hi => by rw [eσ2157, jup_n (by omega), eσ2154, jup_n (by omega), f32 i hi]) (fun k hk => by rw [eσ2157, jup_n (by decide), eσ2154, jup_k (by omega), f33 k hk])  w2160 hP hS (lv_sub hl [1, 2, 0, 3, 4] rfl)
            · obtain ⟨q2162, k2161⟩ := h1319
              exact absurd (by omega : False) id
        · obtain ⟨q2164, k2163⟩ := h484
          have q2164 := q2164.symm
          subst q2164
          refine lv_bipush (v := 48) hx hb dX7_readOrder_22 (by decide) ?_
          refine lv_icmp_lt (tgt := 67) hx hb dX7_readOrder_24 (by decide) (fun _ => ?_) (fun c => absurd (by decide) c)
          refine lv_iload_n hx hb dX7_readOrder_67 rfl (lv_at hl 2 rfl) ?_
          refine lv_if_ne (tgt := 79) hx hb dX7_readOrder_68 (by decide) (fun c2165 => ?_) (fun c2165 => ?_)
          · have kc2165 := jne c2165 rfl jz_0
            refine lv_aload_n hx hb dX7_readOrder_79 rfl (lv_at hl 3 rfl) ?_
            refine lv_bipush (v := 58) hx hb dX7_readOrder_80 (by decide) ?_
            have I2166 : jI91 σ26 := ⟨(by omega), (by omega)⟩
            have z2167 : (σ26 9 2).toInt = (σ9 9 2).toInt := by rw [(show σ26 9 2 = (σ9 9 2) from (by rw [f33 2 (by omega)]))]
            have I2168 : jI92 σ26 := (show (-1) ≤ (σ26 9 2).toInt by omega)
            refine jcallV (As := [.int 58]) (rest := []) ⟨hx, hb, hml, hown, hts⟩ hK hP hA hS hZ (c_X7_skip_9 l D cI cL ad zz hJ σ26 τ 58 (58) jz_58 I480 I2166 I2168 (by omega)) cw_RX7_50 (jc_9 cI cL ad σ26 τ) rfl ⟨Nat.le_of_ble_eq_true rfl, Nat.le_of_ble_eq_true rfl⟩ rfl rfl rfl hl.1 rfl (Nat.le_of_ble_eq_true rfl) dX7_readOrder_82 ⟨Nat.zero_le _, Nat.zero_le _⟩ (fun r2170 σ2169 τ2169 H locs h2169 hP hS => ?_)
            obtain ⟨rfl, f2171, f2172, I2173, I2174, I2175, h2169⟩ := h2169
            obtain ⟨i2176, w2177, w2178⟩ : (0 ≤ (σ2169 9 0).toInt ∧ (σ2169 9 0).toInt ≤ 80) ∧ (∀ k : Nat, k < 80 → 0 ≤ (σ2169 10 k).toInt ∧ (σ2169 10 k).toInt ≤ 255) ∧ (∀ k : Nat, k < 8 → 0 ≤ (σ2169 11 k).toInt ∧ (σ2169 11 k).toInt ≤ 3) := id I2173
            obtain ⟨i2179, i2180⟩ : (0 ≤ (σ2169 9 1).toInt) ∧ ((σ2169 9 1).toInt ≤ (σ2169 9 0).toInt) := id I2174
            have i2181 : (-1) ≤ (σ2169 9 2).toInt := I2175
            have z2182 : (σ2169 9 0).toInt = (σ 9 0).toInt := by rw [(show σ2169 9 0 = (σ 9 0) from (by rw [f2172 0 (by omega)]; exact (by rw [f33 0 (by omega)]; exact (by rw [f12 0 (by omega)]))))]
            have z2183 : (σ2169 9 2).toInt = (σ9 9 2).toInt := by rw [(show σ2169 9 2 = (σ9 9 2) from (by rw [f2172 2 (by omega)]; exact (by rw [f33 2 (by omega)])))]
            refine lv_if_eq (tgt := 117) hx hb dX7_readOrder_85 (by decide) (fun c2184 => ?_) (fun c2184 => ?_)
            · have kc2184 := jeq c2184 rfl jz_0
              refine lv_aload_n hx hb dX7_readOrder_117 rfl (lv_at hl 3 rfl) ?_
              refine lv_bipush (v := 114) hx hb dX7_readOrder_118 (by decide) ?_
              refine jcallV (As := [.int 114]) (rest := []) ⟨hx, hb, hml, hown, hts⟩ hK hP hA hS hZ (c_X7_skip_9 l D cI cL ad zz hJ σ2169 τ 114 (114) jz_114 I2173 I2174 I2175 (by omega)) cw_RX7_50 (jc_9 cI cL ad σ2169 τ) rfl ⟨Nat.le_of_ble_eq_true rfl, Nat.le_of_ble_eq_true rfl⟩ rfl rfl rfl hl.1 rfl (Nat.le_of_ble_eq_true rfl) dX7_readOrder_120 ⟨Nat.zero_le _, Nat.zero_le _⟩ (fun r2186 σ2185 τ2185 H locs h2185 hP hS => ?_)
              obtain ⟨rfl, f2187, f2188, I2189, I2190, I2191, h2185⟩ := h2185
              obtain ⟨i2192, w2193, w2194⟩ : (0 ≤ (σ2185 9 0).toInt ∧ (σ2185 9 0).toInt ≤ 80) ∧ (∀ k : Nat, k < 80 → 0 ≤ (σ2185 10 k).toInt ∧ (σ2185 10 k).toInt ≤ 255) ∧ (∀ k : Nat, k < 8 → 0 ≤ (σ2185 11 k).toInt ∧ (σ2185 11 k).toInt ≤ 3) := id I2189
              obtain ⟨i2195, i2196⟩ : (0 ≤ (σ2185 9 1).toInt) ∧ ((σ2185 9 1).toInt ≤ (σ2185 9 0).toInt) := id I2190
              have i2197 : (-1) ≤ (σ2185 9 2).toInt := I2191
              have z2198 : (σ2185 9 0).toInt = (σ 9 0).toInt := by rw [(show σ2185 9 0 = (σ 9 0) from (by rw [f2188 0 (by omega)]; exact (by rw [f2172 0 (by omega)]; exact (by rw [f33 0 (by omega)]; exact (by rw [f12 0 (by omega)])))))]
              have z2199 : (σ2185 9 2).toInt = (σ9 9 2).toInt := by rw [(show σ2185 9 2 = (σ9 9 2) from (by rw [f2188 2 (by omega)]; exact (by rw [f2172 2 (by omega)]; exact (by rw [f33 2 (by omega)]))))]
              refine lv_if_eq (tgt := 133) hx hb dX7_readOrder_123 (by decide) (fun c2200 => ?_) (fun c2200 => ?_)
              · have kc2200 := jeq c2200 rfl jz_0
                refine lv_aload_n hx hb dX7_readOrder_133 rfl (lv_at hl 3 rfl) ?_
                refine jcallV (As := []) (rest := []) ⟨hx, hb, hml, hown, hts⟩ hK hP hA hS hZ (c_X7_end_9 l D cI cL ad zz hJ σ2185 τ I2189 I2190 I2191) cw_RX7_57 (jc_9 cI cL ad σ2185 τ) rfl ⟨Nat.le_of_ble_eq_true rfl, Nat.le_of_ble_eq_true rfl⟩ rfl rfl rfl hl.1 rfl (Nat.le_of_ble_eq_true rfl) dX7_readOrder_134 ⟨Nat.zero_le _, Nat.zero_le _⟩ (fun r2202 σ2201 τ2201 H locs h2201 hP hS => ?_)
                obtain ⟨rfl, f2203, f2204, I2205, I2206, h2201⟩ := h2201
                obtain ⟨i2207, w2208, w2209⟩ : (0 ≤ (σ2201 9 0).toInt ∧ (σ2201 9 0).toInt ≤ 80) ∧ (∀ k : Nat, k < 80 → 0 ≤ (σ2201 10 k).toInt ∧ (σ2201 10 k).toInt ≤ 255) ∧ (∀ k : Nat, k < 8 → 0 ≤ (σ2201 11 k).toInt ∧ (σ2201 11 k).toInt ≤ 3) := id I2205
                have i2210 : (-1) ≤ (σ2201 9 2).toInt := I2206
                rcases h2201 with h2211 | h2212
                · obtain ⟨q2214, k2213⟩ := h2211
                  have q2214 := q2214.symm
                  subst q2214
                  refine lv_istore (lv' := [(5, .int (-1)), (4, .int 0), (3, .int 8), (2, .int x25), (0, .ref (ad 9)), (1, .ref (ad 16))]) hx hb dX7_readOrder_137 hl (by decide) rfl (fun ls hl => ?_)
                  refine lv_iload hx hb dX7_readOrder_139 (lv_at hl 0 rfl) ?_
                  refine lv_iconst (v := (-1)) hx hb dX7_readOrder_141 (by decide) ?_
                  refine lv_icmp_eq (tgt := 148) hx hb dX7_readOrder_142 (by decide) (fun _ => ?_) (fun c => absurd (by decide) c)
                  refine lv_aload_n hx hb dX7_readOrder_148 rfl (lv_at hl 5 rfl) ?_
                  refine lv_iload_n hx hb dX7_readOrder_149 rfl (lv_at hl 3 rfl) ?_
                  refine jput (ty := .int) hx hb hts inlX6 tyX6 tyX6_ok nmX6 hown hK hP hJ hA hS (jc_16 cI cL ad σ2201 τ) rfl (k := 0) (by decide) (Nat.le_of_ble_eq_true rfl) (jp_16_0 cI cL ad σ2201 τ x25) (hts _ kw_13_18) (fun _ h9 => h9) rfl (by decide +kernel) rfl rfl dX7_readOrder_150 (fun σ2215 H locs eσ2215 hP hS => ?_)
                  refine lv_aload_n hx hb dX7_readOrder_153 rfl (lv_at hl 5 rfl) ?_
                  refine lv_iload_n hx hb dX7_readOrder_154 rfl (lv_at hl 2 rfl) ?_
                  refine jput (ty := .int) hx hb hts inlX6 tyX6 tyX6_ok nmX6 hown hK hP hJ hA hS (jc_16 cI cL ad σ2215 τ) rfl (k := 1) (by decide) (Nat.le_of_ble_eq_true rfl) (jp_16_1 cI cL ad σ2215 τ 8) (hts _ kw_13_19) (fun _ h9 => h9) rfl (by decide +kernel) rfl rfl dX7_readOrder_155 (fun σ2216 H locs eσ2216 hP hS => ?_)
                  refine lv_aload_n hx hb dX7_readOrder_158 rfl (lv_at hl 5 rfl) ?_
                  refine lv_iload hx hb dX7_readOrder_159 (lv_at hl 1 rfl) ?_
                  refine jput (ty := .int) hx hb hts inlX6 tyX6 tyX6_ok nmX6 hown hK hP hJ hA hS (jc_16 cI cL ad σ2216 τ) rfl (k := 2) (by decide) (Nat.le_of_ble_eq_true rfl) (jp_16_2 cI cL ad σ2216 τ 0) (hts _ kw_13_20) (fun _ h9 => h9) rfl (by decide +kernel) rfl rfl dX7_readOrder_161 (fun σ2217 H locs eσ2217 hP hS => ?_)
                  refine lv_aload_n hx hb dX7_readOrder_164 rfl (lv_at hl 4 rfl) ?_
                  refine va_get (D := D) hx hb hts inlX7 hown hK hP 9 (jc_9 cI cL ad σ2217 τ) rfl 4 (by decide) (hts _ kw_3_21) (fun _ h9 => h9) rfl dX7_readOrder_165 ?_
                  refine lv_iconst (v := 0) hx hb dX7_readOrder_168 (by decide) ?_
                  refine lv_aload_n hx hb dX7_readOrder_169 rfl (lv_at hl 5 rfl) ?_
                  refine va_get (D := D) hx hb hts inlX6 hown hK hP 16 (jc_16 cI cL ad σ2217 τ) rfl 3 (by decide) (hts _ kw_13_21) (fun _ h9 => h9) rfl dX7_readOrder_170 ?_
                  refine lv_iconst (v := 0) hx hb dX7_readOrder_173 (by decide) ?_
                  refine lv_iload_n hx hb dX7_readOrder_174 rfl (lv_at hl 3 rfl) ?_
                  refine jcpyI (q0 := 11) (q1 := 17) hx hb (hml.trans hl.1.symm) hown (hts _ kw_13_22) (hts _ kw_13_23) (hts _ kw_14_0) (hts _ kw_14_1) hK hP hJ hA hS (jc_11 cI cL ad σ2217 τ) (jc_17 cI cL ad σ2217 τ) (fun _ => rfl) jz_0 jz_0 rfl (by omega) (by omega) (by omega) (by omega) (by omega) (Nat.le_of_ble_eq_true rfl) (Nat.le_of_ble_eq_true rfl) dX7_readOrder_175 (fun σ2218 H locs eσ2218 hP hS => ?_)
                  have w2219 : ∀ k : Nat, k < 8 → 0 ≤ (σ2217 11 k).toInt ∧ (σ2217 11 k).toInt ≤ 3 := (by rw [eσ2217, jup_n (by decide)]; exact (by rw [eσ2216, jup_n (by decide)]; exact (by rw [eσ2215, jup_n (by decide)]; exact w2209)))
                  have w2220 : ∀ k : Nat, k < 8 → 0 ≤ (σ2217 17 k).toInt ∧ (σ2217 17 k).toInt ≤ 3 := (by rw [eσ2217, jup_n (by decide)]; exact (by rw [eσ2216, jup_n (by decide)]; exact (by rw [eσ2215, jup_n (by decide)]; exact (by rw [f2203 17 (by omega)]; exact (by rw [f2187 17 (by omega)]; exact (by rw [f2171 17 (by omega)]; exact (by rw [f32 17 (by omega)]; exact (by rw [f11 17 (by omega)]; exact w7))))))))
                  have f2221 : (∀ i : Nat, (i < 17 ∨ 17 < i) → σ2218 i = σ2217 i) := by rw [eσ2218]; exact jrow_n
                  have w2222 : ∀ k : Nat, k < 8 → 0 ≤ (σ2218 17 k).toInt ∧ (σ2218 17 k).toInt ≤ 3 := by rw [eσ2218]; exact jrow_rr w2219 w2220 jz_0 rfl (n0 := 8) (by omega) (by omega) (by omega)
                  refine lv_iconst (v := (-1)) hx hb dX7_readOrder_178 (by decide) ?_
                  have z2223 : (σ2218 9 0).toInt = (σ2201 9 0).toInt := by rw [(show σ2218 9 0 = (σ2201 9 0) from (by rw [f2221 9 (by omega)]; exact (by rw [eσ2217, jup_n (by decide)]; exact (by rw [eσ2216, jup_n (by decide)]; exact (by rw [eσ2215, jup_n (by decide)])))))]
                  have w2224 : ∀ k : Nat, k < 80 → 0 ≤ (σ2218 10 k).toInt ∧ (σ2218 10 k).toInt ≤ 255 := (by rw [f2221 10 (by omega)]; exact (by rw [eσ2217, jup_n (by decide)]; exact (by rw [eσ2216, jup_n (by decide)]; exact (by rw [eσ2215, jup_n (by decide)]; exact w2208))))
                  have w2225 : ∀ k : Nat, k < 8 → 0 ≤ (σ2218 11 k).toInt ∧ (σ2218 11 k).toInt ≤ 3 := (by rw [f2221 11 (by omega)]; exact w2219)
                  have I2226 : jI9 σ2218 := ⟨(by omega), w2224, w2225⟩
                  have z2227 : (σ2218 16 0).toInt = x25.toInt := by rw [(show σ2218 16 0 = x25 from (by rw [f2221 16 (by omega)]; exact (by rw [eσ2217, jup_k (by decide)]; exact (by rw [eσ2216, jup_k (by decide)]; exact (by rw [eσ2215]; exact jup_s)))))]
                  have z2228 : (σ2218 16 1).toInt = 8 := by rw [(show σ2218 16 1 = 8 from (by rw [f2221 16 (by omega)]; exact (by rw [eσ2217, jup_k (by decide)]; exact (by rw [eσ2216]; exact jup_s))))]; exact jz_8
                  have z2229 : (σ2218 16 2).toInt = 0 := by rw [(show σ2218 16 2 = 0 from (by rw [f2221 16 (by omega)]; exact (by rw [eσ2217]; exact jup_s)))]; exact jz_0
                  have I2230 : jI16 σ2218 := ⟨(by omega), (by omega), (by omega), w2222⟩
                  exact hret (-1) σ2218 τ _ _ _ _ rfl ⟨rfl, (fun i hi => by rw [f2221 i (by omega), eσ2217, jup_n (by omega), eσ2216, jup_n (by omega), eσ2215, jup_n (by omega), f2203 i (by omega), f2187 i (by omega), f2171 i (by omega), f32 i (by omega), f11 i (by omega)]), (fun k hk => by rw [f2221 9 (by omega), eσ2217, jup_n (by decide), eσ2216, jup_n (by decide), eσ2215, jup_n (by decide), f2204 k (by omega), f2188 k (by omega), f2172 k (by omega), f33 k (by omega), f12 k (by omega)]), (fun k hk => by rw [f2221 16 (by omega), eσ2217, jup_k (by omega), eσ2216, jup_k (by omega), eσ2215, jup_k (by omega), f2203 16 (by omega), f2187 16 (by omega), f2171 16 (by omega), f32 16 (by omega), f11 16 (by omega)]), I2226, I2230, trivial⟩ hP hS dX7_readOrder_179
                · obtain ⟨q2232, k2231⟩ := h2212
                  refine lv_istore (lv' := [(5, .int r2202), (4, .int 0), (3, .int 8), (2, .int x25), (0, .ref (ad 9)), (1, .ref (ad 16))]) hx hb dX7_readOrder_137 hl (by decide) rfl (fun ls hl => ?_)
                  refine lv_iload hx hb dX7_readOrder_139 (lv_at hl 0 rfl) ?_
                  refine lv_iconst (v := (-1)) hx hb dX7_readOrder_141 (by decide) ?_
                  refine lv_icmp_eq (tgt := 148) hx hb dX7_readOrder_142 (by decide) (fun c => absurd (jeq c rfl jz_m1) (by omega)) (fun c2233 => ?_)
                  have kc2233 := jne c2233 rfl jz_m1
                  refine lv_iload hx hb dX7_readOrder_145 (lv_at hl 0 rfl) ?_
                  have z2234 : (σ2201 16 0).toInt = (σ 16 0).toInt := by rw [(show σ2201 16 0 = (σ 16 0) from (by rw [f2203 16 (by omega)]; exact (by rw [f2187 16 (by omega)]; exact (by rw [f2171 16 (by omega)]; exact (by rw [f32 16 (by omega)]; exact (by rw [f11 16 (by omega)]))))))]
                  have z2235 : (σ2201 16 1).toInt = (σ 16 1).toInt := by rw [(show σ2201 16 1 = (σ 16 1) from (by rw [f2203 16 (by omega)]; exact (by rw [f2187 16 (by omega)]; exact (by rw [f2171 16 (by omega)]; exact (by rw [f32 16 (by omega)]; exact (by rw [f11 16 (by omega)]))))))]
                  have z2236 : (σ2201 16 2).toInt = (σ 16 2).toInt := by rw [(show σ2201 16 2 = (σ 16 2) from (by rw [f2203 16 (by omega)]; exact (by rw [f2187 16 (by omega)]; exact (by rw [f2171 16 (by omega)]; exact (by rw [f32 16 (by omega)]; exact (by rw [f11 16 (by omega)]))))))]
                  have w2237 : ∀ k : Nat, k < 8 → 0 ≤ (σ2201 17 k).toInt ∧ (σ2201 17 k).toInt ≤ 3 := (by rw [f2203 17 (by omega)]; exact (by rw [f2187 17 (by omega)]; exact (by rw [f2171 17 (by omega)]; exact (by rw [f32 17 (by omega)]; exact (by rw [f11 17 (by omega)]; exact w7)))))
                  have I2238 : jI16 σ2201 := ⟨(by omega), (by omega), (by omega), w2237⟩
                  exact hret r2202 σ2201 τ _ _ _ _ rfl ⟨rfl, (fun i hi => by rw [f2203 i (by omega), f2187 i (by omega), f2171 i (by omega), f32 i (by omega), f11 i (by omega)]), (fun k hk => by rw [f2204 k (by omega), f2188 k (by omega), f2172 k (by omega), f33 k (by omega), f12 k (by omega)]), (fun k hk => by rw [f2203 16 (by omega), f2187 16 (by omega), f2171 16 (by omega), f32 16 (by omega), f11 16 (by omega)]), I2205, I2238, trivial⟩ hP hS dX7_readOrder_147
              · have kc2200 := jne c2200 rfl jz_0
                refine lv_aload_n hx hb dX7_readOrder_126 rfl (lv_at hl 3 rfl) ?_
                refine lv_iconst (v := 3) hx hb dX7_readOrder_127 (by decide) ?_
                refine jcallV (As := [.int 3]) (rest := []) ⟨hx, hb, hml, hown, hts⟩ hK hP hA hS hZ (c_X7_number_3 l D cI cL ad zz hJ σ2185 τ I2189 I2190 I2191) cw_RX7_53 (jc_9 cI cL ad σ2185 τ) rfl ⟨Nat.le_of_ble_eq_true rfl, Nat.le_of_ble_eq_true rfl⟩ rfl rfl rfl hl.1 rfl (Nat.le_of_ble_eq_true rfl) dX7_readOrder_128 ⟨Nat.zero_le _, Nat.zero_le _⟩ (fun r2240 σ2239 τ2239 H locs h2239 hP hS => ?_)
                obtain ⟨rfl, f2241, f2242, I2243, I2244, I2245, h2239⟩ := h2239
                obtain ⟨i2246, w2247, w2248⟩ : (0 ≤ (σ2239 9 0).toInt ∧ (σ2239 9 0).toInt ≤ 80) ∧ (∀ k : Nat, k < 80 → 0 ≤ (σ2239 10 k).toInt ∧ (σ2239 10 k).toInt ≤ 255) ∧ (∀ k : Nat, k < 8 → 0 ≤ (σ2239 11 k).toInt ∧ (σ2239 11 k).toInt ≤ 3) := id I2243
                obtain ⟨i2249, i2250⟩ : (0 ≤ (σ2239 9 1).toInt) ∧ ((σ2239 9 1).toInt ≤ (σ2239 9 0).toInt) := id I2244
                have i2251 : (-1) ≤ (σ2239 9 2).toInt := I2245
                have z2252 : (σ2239 9 0).toInt = (σ 9 0).toInt := by rw [(show σ2239 9 0 = (σ 9 0) from (by rw [f2242 0 (by omega)]; exact (by rw [f2188 0 (by omega)]; exact (by rw [f2172 0 (by omega)]; exact (by rw [f33 0 (by omega)]; exact (by rw [f12 0 (by omega)]))))))]
                obtain ⟨k2253, h2239⟩ := h2239
                have h2254 := h2239
                obtain ⟨q2256, k2255⟩ := h2254
                refine lv_istore (lv' := [(4, .int r2240), (3, .int 8), (2, .int x25), (0, .ref (ad 9)), (1, .ref (ad 16))]) hx hb dX7_readOrder_131 hl (by decide) rfl (fun ls hl => ?_)
                refine lv_aload_n hx hb dX7_readOrder_133 rfl (lv_at hl 3 rfl) ?_
                refine jcallV (As := []) (rest := []) ⟨hx, hb, hml, hown, hts⟩ hK hP hA hS hZ (c_X7_end_9 l D cI cL ad zz hJ σ2239 τ I2243 I2244 I2245) cw_RX7_57 (jc_9 cI cL ad σ2239 τ) rfl ⟨Nat.le_of_ble_eq_true rfl, Nat.le_of_ble_eq_true rfl⟩ rfl rfl rfl hl.1 rfl (Nat.le_of_ble_eq_true rfl) dX7_readOrder_134 ⟨Nat.zero_le _, Nat.zero_le _⟩ (fun r2258 σ2257 τ2257 H locs h2257 hP hS => ?_)
                obtain ⟨rfl, f2259, f2260, I2261, I2262, h2257⟩ := h2257
                obtain ⟨i2263, w2264, w2265⟩ : (0 ≤ (σ2257 9 0).toInt ∧ (σ2257 9 0).toInt ≤ 80) ∧ (∀ k : Nat, k < 80 → 0 ≤ (σ2257 10 k).toInt ∧ (σ2257 10 k).toInt ≤ 255) ∧ (∀ k : Nat, k < 8 → 0 ≤ (σ2257 11 k).toInt ∧ (σ2257 11 k).toInt ≤ 3) := id I2261
                have i2266 : (-1) ≤ (σ2257 9 2).toInt := I2262
                rcases h2257 with h2267 | h2268
                · obtain ⟨q2270, k2269⟩ := h2267
                  have q2270 := q2270.symm
                  subst q2270
                  refine lv_istore (lv' := [(5, .int (-1)), (4, .int r2240), (3, .int 8), (2, .int x25), (0, .ref (ad 9)), (1, .ref (ad 16))]) hx hb dX7_readOrder_137 hl (by decide) rfl (fun ls hl => ?_)
                  refine lv_iload hx hb dX7_readOrder_139 (lv_at hl 0 rfl) ?_
                  refine lv_iconst (v := (-1)) hx hb dX7_readOrder_141 (by decide) ?_
                  refine lv_icmp_eq (tgt := 148) hx hb dX7_readOrder_142 (by decide) (fun _ => ?_) (fun c => absurd (by decide) c)
                  refine lv_aload_n hx hb dX7_readOrder_148 rfl (lv_at hl 5 rfl) ?_
                  refine lv_iload_n hx hb dX7_readOrder_149 rfl (lv_at hl 3 rfl) ?_
                  refine jput (ty := .int) hx hb hts inlX6 tyX6 tyX6_ok nmX6 hown hK hP hJ hA hS (jc_16 cI cL ad σ2257 τ) rfl (k := 0) (by decide) (Nat.le_of_ble_eq_true rfl) (jp_16_0 cI cL ad σ2257 τ x25) (hts _ kw_13_18) (fun _ h9 => h9) rfl (by decide +kernel) rfl rfl dX7_readOrder_150 (fun σ2271 H locs eσ2271 hP hS => ?_)
                  refine lv_aload_n hx hb dX7_readOrder_153 rfl (lv_at hl 5 rfl) ?_
                  refine lv_iload_n hx hb dX7_readOrder_154 rfl (lv_at hl 2 rfl) ?_
                  refine jput (ty := .int) hx hb hts inlX6 tyX6 tyX6_ok nmX6 hown hK hP hJ hA hS (jc_16 cI cL ad σ2271 τ) rfl (k := 1) (by decide) (Nat.le_of_ble_eq_true rfl) (jp_16_1 cI cL ad σ2271 τ 8) (hts _ kw_13_19) (fun _ h9 => h9) rfl (by decide +kernel) rfl rfl dX7_readOrder_155 (fun σ2272 H locs eσ2272 hP hS => ?_)
                  refine lv_aload_n hx hb dX7_readOrder_158 rfl (lv_at hl 5 rfl) ?_
                  refine lv_iload hx hb dX7_readOrder_159 (lv_at hl 1 rfl) ?_
                  refine jput (ty := .int) hx hb hts inlX6 tyX6 tyX6_ok nmX6 hown hK hP hJ hA hS (jc_16 cI cL ad σ2272 τ) rfl (k := 2) (by decide) (Nat.le_of_ble_eq_true rfl) (jp_16_2 cI cL ad σ2272 τ r2240) (hts _ kw_13_20) (fun _ h9 => h9) rfl (by decide +kernel) rfl rfl dX7_readOrder_161 (fun σ2273 H locs eσ2273 hP hS => ?_)
                  refine lv_aload_n hx hb dX7_readOrder_164 rfl (lv_at hl 4 rfl) ?_
                  refine va_get (D := D) hx hb hts inlX7 hown hK hP 9 (jc_9 cI cL ad σ2273 τ) rfl 4 (by decide) (hts _ kw_3_21) (fun _ h9 => h9) rfl dX7_readOrder_165 ?_
                  refine lv_iconst (v := 0) hx hb dX7_readOrder_168 (by decide) ?_
                  refine lv_aload_n hx hb dX7_readOrder_169 rfl (lv_at hl 5 rfl) ?_
                  refine va_get (D := D) hx hb hts inlX6 hown hK hP 16 (jc_16 cI cL ad σ2273 τ) rfl 3 (by decide) (hts _ kw_13_21) (fun _ h9 => h9) rfl dX7_readOrder_170 ?_
                  refine lv_iconst (v := 0) hx hb dX7_readOrder_173 (by decide) ?_
                  refine lv_iload_n hx hb dX7_readOrder_174 rfl (lv_at hl 3 rfl) ?_
                  refine jcpyI (q0 := 11) (q1 := 17) hx hb (hml.trans hl.1.symm) hown (hts _ kw_13_22) (hts _ kw_13_23) (hts _ kw_14_0) (hts _ kw_14_1) hK hP hJ hA hS (jc_11 cI cL ad σ2273 τ) (jc_17 cI cL ad σ2273 τ) (fun _ => rfl) jz_0 jz_0 rfl (by omega) (by omega) (by omega) (by omega) (by omega) (Nat.le_of_ble_eq_true rfl) (Nat.le_of_ble_eq_true rfl) dX7_readOrder_175 (fun σ2274 H locs eσ2274 hP hS => ?_)
                  have w2275 : ∀ k : Nat, k < 8 → 0 ≤ (σ2273 11 k).toInt ∧ (σ2273 11 k).toInt ≤ 3 := (by rw [eσ2273, jup_n (by decide)]; exact (by rw [eσ2272, jup_n (by decide)]; exact (by rw [eσ2271, jup_n (by decide)]; exact w2265)))
                  have w2276 : ∀ k : Nat, k < 8 → 0 ≤ (σ2273 17 k).toInt ∧ (σ2273 17 k).toInt ≤ 3 := (by rw [eσ2273, jup_n (by decide)]; exact (by rw [eσ2272, jup_n (by decide)]; exact (by rw [eσ2271, jup_n (by decide)]; exact (by rw [f2259 17 (by omega)]; exact (by rw [f2241 17 (by omega)]; exact (by rw [f2187 17 (by omega)]; exact (by rw [f2171 17 (by omega)]; exact (by rw [f32 17 (by omega)]; exact (by rw [f11 17 (by omega)]; exact w7)))))))))
                  have f2277 : (∀ i : Nat, (i < 17 ∨ 17 < i) → σ2274 i = σ2273 i) := by rw [eσ2274]; exact jrow_n
                  have w2278 : ∀ k : Nat, k < 8 → 0 ≤ (σ2274 17 k).toInt ∧ (σ2274 17 k).toInt ≤ 3 := by rw [eσ2274]; exact jrow_rr w2275 w2276 jz_0 rfl (n0 := 8) (by omega) (by omega) (by omega)
                  refine lv_iconst (v := (-1)) hx hb dX7_readOrder_178 (by decide) ?_
                  have z2279 : (σ2274 9 0).toInt = (σ2257 9 0).toInt := by rw [(show σ2274 9 0 = (σ2257 9 0) from (by rw [f2277 9 (by omega)]; exact (by rw [eσ2273, jup_n (by decide)]; exact (by rw [eσ2272, jup_n (by decide)]; exact (by rw [eσ2271, jup_n (by decide)])))))]
                  have w2280 : ∀ k : Nat, k < 80 → 0 ≤ (σ2274 10 k).toInt ∧ (σ2274 10 k).toInt ≤ 255 := (by rw [f2277 10 (by omega)]; exact (by rw [eσ2273, jup_n (by decide)]; exact (by rw [eσ2272, jup_n (by decide)]; exact (by rw [eσ2271, jup_n (by decide)]; exact w2264))))
                  have w2281 : ∀ k : Nat, k < 8 → 0 ≤ (σ2274 11 k).toInt ∧ (σ2274 11 k).toInt ≤ 3 := (by rw [f2277 11 (by omega)]; exact w2275)
                  have I2282 : jI9 σ2274 := ⟨(by omega), w2280, w2281⟩
                  have z2283 : (σ2274 16 0).toInt = x25.toInt := by rw [(show σ2274 16 0 = x25 from (by rw [f2277 16 (by omega)]; exact (by rw [eσ2273, jup_k (by decide)]; exact (by rw [eσ2272, jup_k (by decide)]; exact (by rw [eσ2271]; exact jup_s)))))]
                  have z2284 : (σ2274 16 1).toInt = 8 := by rw [(show σ2274 16 1 = 8 from (by rw [f2277 16 (by omega)]; exact (by rw [eσ2273, jup_k (by decide)]; exact (by rw [eσ2272]; exact jup_s))))]; exact jz_8
                  have z2285 : (σ2274 16 2).toInt = r2240.toInt := by rw [(show σ2274 16 2 = r2240 from (by rw [f2277 16 (by omega)]; exact (by rw [eσ2273]; exact jup_s)))]
                  have I2286 : jI16 σ2274 := ⟨(by omega), (by omega), (by omega), w2278⟩
                  exact hret (-1) σ2274 τ _ _ _ _ rfl ⟨rfl, (fun i hi => by rw [f2277 i (by omega), eσ2273, jup_n (by omega), eσ2272, jup_n (by omega), eσ2271, jup_n (by omega), f2259 i (by omega), f2241 i (by omega), f2187 i (by omega), f2171 i (by omega), f32 i (by omega), f11 i (by omega)]), (fun k hk => by rw [f2277 9 (by omega), eσ2273, jup_n (by decide), eσ2272, jup_n (by decide), eσ2271, jup_n (by decide), f2260 k (by omega), f2242 k (by omega), f2188 k (by omega), f2172 k (by omega), f33 k (by omega), f12 k (by omega)]), (fun k hk => by rw [f2277 16 (by omega), eσ2273, jup_k (by omega), eσ2272, jup_k (by omega), eσ2271, jup_k (by omega), f2259 16 (by omega), f2241 16 (by omega), f2187 16 (by omega), f2171 16 (by omega), f32 16 (by omega), f11 16 (by omega)]), I2282, I2286, trivial⟩ hP hS dX7_readOrder_179
                · obtain ⟨q2288, k2287⟩ := h2268
                  refine lv_istore (lv' := [(5, .int r2258), (4, .int r2240), (3, .int 8), (2, .int x25), (0, .ref (ad 9)), (1, .ref (ad 16))]) hx hb dX7_readOrder_137 hl (by decide) rfl (fun ls hl => ?_)
                  refine lv_iload hx hb dX7_readOrder_139 (lv_at hl 0 rfl) ?_
                  refine lv_iconst (v := (-1)) hx hb dX7_readOrder_141 (by decide) ?_
                  refine lv_icmp_eq (tgt := 148) hx hb dX7_readOrder_142 (by decide) (fun c => absurd (jeq c rfl jz_m1) (by omega)) (fun c2289 => ?_)
                  have kc2289 := jne c2289 rfl jz_m1
                  refine lv_iload hx hb dX7_readOrder_145 (lv_at hl 0 rfl) ?_
                  have z2290 : (σ2257 16 0).toInt = (σ 16 0).toInt := by rw [(show σ2257 16 0 = (σ 16 0) from (by rw [f2259 16 (by omega)]; exact (by rw [f2241 16 (by omega)]; exact (by rw [f2187 16 (by omega)]; exact (by rw [f2171 16 (by omega)]; exact (by rw [f32 16 (by omega)]; exact (by rw [f11 16 (by omega)])))))))]
                  have z2291 : (σ2257 16 1).toInt = (σ 16 1).toInt := by rw [(show σ2257 16 1 = (σ 16 1) from (by rw [f2259 16 (by omega)]; exact (by rw [f2241 16 (by omega)]; exact (by rw [f2187 16 (by omega)]; exact (by rw [f2171 16 (by omega)]; exact (by rw [f32 16 (by omega)]; exact (by rw [f11 16 (by omega)])))))))]
                  have z2292 : (σ2257 16 2).toInt = (σ 16 2).toInt := by rw [(show σ2257 16 2 = (σ 16 2) from (by rw [f2259 16 (by omega)]; exact (by rw [f2241 16 (by omega)]; exact (by rw [f2187 16 (by omega)]; exact (by rw [f2171 16 (by omega)]; exact (by rw [f32 16 (by omega)]; exact (by rw [f11 16 (by omega)])))))))]
                  have w2293 : ∀ k : Nat, k < 8 → 0 ≤ (σ2257 17 k).toInt ∧ (σ2257 17 k).toInt ≤ 3 := (by rw [f2259 17 (by omega)]; exact (by rw [f2241 17 (by omega)]; exact (by rw [f2187 17 (by omega)]; exact (by rw [f2171 17 (by omega)]; exact (by rw [f32 17 (by omega)]; exact (by rw [f11 17 (by omega)]; exact w7))))))
                  have I2294 : jI16 σ2257 := ⟨(by omega), (by omega), (by omega), w2293⟩
                  exact hret r2258 σ2257 τ _ _ _ _ rfl ⟨rfl, (fun i hi => by rw [f2259 i (by omega), f2241 i (by omega), f2187 i (by omega), f2171 i (by omega), f32 i (by omega), f11 i (by omega)]), (fun k hk => by rw [f2260 k (by omega), f2242 k (by omega), f2188 k (by omega), f2172 k (by omega), f33 k (by omega), f12 k (by omega)]), (fun k hk => by rw [f2259 16 (by omega), f2241 16 (by omega), f2187 16 (by omega), f2171 16 (by omega), f32 16 (by omega), f11 16 (by omega)]), I2261, I2294, trivial⟩ hP hS dX7_readOrder_147
            · have kc2184 := jne c2184 rfl jz_0
              refine lv_aload_n hx hb dX7_readOrder_88 rfl (lv_at hl 3 rfl) ?_
              refine va_get (D := D) hx hb hts inlX7 hown hK hP 9 (jc_9 cI cL ad σ2169 τ) rfl 1 (by decide) (hts _ kw_13_17) (fun _ h9 => h9) rfl dX7_readOrder_89 ?_
              refine lv_istore (lv' := [(5, .int (σ2169 9 1)), (4, .int 0), (3, .int 8), (2, .int x25), (0, .ref (ad 9)), (1, .ref (ad 16))]) hx hb dX7_readOrder_92 hl (by decide) rfl (fun ls hl => ?_)
              refine lv_aload_n hx hb dX7_readOrder_94 rfl (lv_at hl 4 rfl) ?_
              refine lv_iconst (v := 2) hx hb dX7_readOrder_95 (by decide) ?_
              refine jcallV (As := [.int 2]) (rest := []) ⟨hx, hb, hml, hown, hts⟩ hK hP hA hS hZ (c_X7_number_2 l D cI cL ad zz hJ σ2169 τ I2173 I2174 I2175) cw_RX7_53 (jc_9 cI cL ad σ2169 τ) rfl ⟨Nat.le_of_ble_eq_true rfl, Nat.le_of_ble_eq_true rfl⟩ rfl rfl rfl hl.1 rfl (Nat.le_of_ble_eq_true rfl) dX7_readOrder_96 ⟨Nat.zero_le _, Nat.zero_le _⟩ (fun r2296 σ2295 τ2295 H locs h2295 hP hS => ?_)
              obtain ⟨rfl, f2297, f2298, I2299, I2300, I2301, h2295⟩ := h2295
              obtain ⟨i2302, w2303, w2304⟩ : (0 ≤ (σ2295 9 0).toInt ∧ (σ2295 9 0).toInt ≤ 80) ∧ (∀ k : Nat, k < 80 → 0 ≤ (σ2295 10 k).toInt ∧ (σ2295 10 k).toInt ≤ 255) ∧ (∀ k : Nat, k < 8 → 0 ≤ (σ2295 11 k).toInt ∧ (σ2295 11 k).toInt ≤ 3) := id I2299
              obtain ⟨i2305, i2306⟩ : (0 ≤ (σ2295 9 1).toInt) ∧ ((σ2295 9 1).toInt ≤ (σ2295 9 0).toInt) := id I2300
              have i2307 : (-1) ≤ (σ2295 9 2).toInt := I2301
              have z2308 : (σ2295 9 0).toInt = (σ 9 0).toInt := by rw [(show σ2295 9 0 = (σ 9 0) from (by rw [f2298 0 (by omega)]; exact (by rw [f2172 0 (by omega)]; exact (by rw [f33 0 (by omega)]; exact (by rw [f12 0 (by omega)])))))]
              obtain ⟨k2309, h2295⟩ := h2295
              have h2310 := h2295
              obtain ⟨q2312, k2311⟩ := h2310
              refine lv_istore_n (lv' := [(3, .int r2296), (5, .int (σ2169 9 1)), (4, .int 0), (2, .int x25), (0, .ref (ad 9)), (1, .ref (ad 16))]) hx hb dX7_readOrder_99 rfl hl (by decide) rfl (fun ls hl => ?_)
              refine lv_iload_n hx hb dX7_readOrder_100 rfl (lv_at hl 0 rfl) ?_
              refine lv_iconst (v := 1) hx hb dX7_readOrder_101 (by decide) ?_
              refine lv_icmp_lt (tgt := 111) hx hb dX7_readOrder_102 (by decide) (fun c2313 => ?_) (fun c2313 => ?_)
              · have kc2313 := jlt c2313 rfl jz_1
                refine lv_aload_n hx hb dX7_readOrder_111 rfl (lv_at hl 4 rfl) ?_
                refine lv_iload hx hb dX7_readOrder_112 (lv_at hl 1 rfl) ?_
                refine jcallVv (As := [.int (σ2169 9 1)]) (rest := []) ⟨hx, hb, hml, hown, hts⟩ hK hP hA hS hZ (c_X7_fail_9 l D cI cL ad zz hJ σ2295 τ (σ2169 9 1) ((σ2169 9 1).toInt) rfl I2301 (by omega)) cw_RX7_43 (jc_9 cI cL ad σ2295 τ) rfl ⟨Nat.le_of_ble_eq_true rfl, Nat.le_of_ble_eq_true rfl⟩ rfl rfl rfl hl.1 rfl (Nat.le_of_ble_eq_true rfl) dX7_readOrder_114 ⟨Nat.zero_le _, Nat.zero_le _⟩ (fun σ2314 τ2314 H locs h2314 hP hS => ?_)
                obtain ⟨rfl, f2316, f2317, h2314⟩ := h2314
                obtain ⟨k2318, h2314⟩ := h2314
                refine lv_aload_n hx hb dX7_readOrder_117 rfl (lv_at hl 4 rfl) ?_
                refine lv_bipush (v := 114) hx hb dX7_readOrder_118 (by decide) ?_
                have z2319 : (σ2314 9 0).toInt = (σ 9 0).toInt := by rw [(show σ2314 9 0 = (σ 9 0) from (by rw [f2317 0 (by omega)]; exact (by rw [f2298 0 (by omega)]; exact (by rw [f2172 0 (by omega)]; exact (by rw [f33 0 (by omega)]; exact (by rw [f12 0 (by omega)]))))))]
                have w2320 : ∀ k : Nat, k < 80 → 0 ≤ (σ2314 10 k).toInt ∧ (σ2314 10 k).toInt ≤ 255 := (by rw [f2316 10 (by omega)]; exact w2303)
                have w2321 : ∀ k : Nat, k < 8 → 0 ≤ (σ2314 11 k).toInt ∧ (σ2314 11 k).toInt ≤ 3 := (by rw [f2316 11 (by omega)]; exact w2304)
                have I2322 : jI9 σ2314 := ⟨(by omega), w2320, w2321⟩
                have z2323 : (σ2314 9 1).toInt = (σ2295 9 1).toInt := by rw [(show σ2314 9 1 = (σ2295 9 1) from (by rw [f2317 1 (by omega)]))]
                have I2324 : jI91 σ2314 := ⟨(by omega), (by omega)⟩
                have I2325 : jI92 σ2314 := (show (-1) ≤ (σ2314 9 2).toInt by omega)
                refine jcallV (As := [.int 114]) (rest := []) ⟨hx, hb, hml, hown, hts⟩ hK hP hA hS hZ (c_X7_skip_9 l D cI cL ad zz hJ σ2314 τ 114 (114) jz_114 I2322 I2324 I2325 (by omega)) cw_RX7_50 (jc_9 cI cL ad σ2314 τ) rfl ⟨Nat.le_of_ble_eq_true rfl, Nat.le_of_ble_eq_true rfl⟩ rfl rfl rfl hl.1 rfl (Nat.le_of_ble_eq_true rfl) dX7_readOrder_120 ⟨Nat.zero_le _, Nat.zero_le _⟩ (fun r2327 σ2326 τ2326 H locs h2326 hP hS => ?_)
                obtain ⟨rfl, f2328, f2329, I2330, I2331, I2332, h2326⟩ := h2326
                obtain ⟨i2333, w2334, w2335⟩ : (0 ≤ (σ2326 9 0).toInt ∧ (σ2326 9 0).toInt ≤ 80) ∧ (∀ k : Nat, k < 80 → 0 ≤ (σ2326 10 k).toInt ∧ (σ2326 10 k).toInt ≤ 255) ∧ (∀ k : Nat, k < 8 → 0 ≤ (σ2326 11 k).toInt ∧ (σ2326 11 k).toInt ≤ 3) := id I2330
                obtain ⟨i2336, i2337⟩ : (0 ≤ (σ2326 9 1).toInt) ∧ ((σ2326 9 1).toInt ≤ (σ2326 9 0).toInt) := id I2331
                have i2338 : (-1) ≤ (σ2326 9 2).toInt := I2332
                have z2339 : (σ2326 9 0).toInt = (σ 9 0).toInt := by rw [(show σ2326 9 0 = (σ 9 0) from (by rw [f2329 0 (by omega)]; exact (by rw [f2317 0 (by omega)]; exact (by rw [f2298 0 (by omega)]; exact (by rw [f2172 0 (by omega)]; exact (by rw [f33 0 (by omega)]; exact (by rw [f12 0 (by omega)])))))))]
                have z2340 : (σ2326 9 2).toInt = (σ2314 9 2).toInt := by rw [(show σ2326 9 2 = (σ2314 9 2) from (by rw [f2329 2 (by omega)]))]
                refine lv_if_eq (tgt := 133) hx hb dX7_readOrder_123 (by decide) (fun c2341 => ?_) (fun c2341 => ?_)
                · have kc2341 := jeq c2341 rfl jz_0
                  refine lv_aload_n hx hb dX7_readOrder_133 rfl (lv_at hl 4 rfl) ?_
                  refine jcallV (As := []) (rest := []) ⟨hx, hb, hml, hown, hts⟩ hK hP hA hS hZ (c_X7_end_9 l D cI cL ad zz hJ σ2326 τ I2330 I2331 I2332) cw_RX7_57 (jc_9 cI cL ad σ2326 τ) rfl ⟨Nat.le_of_ble_eq_true rfl, Nat.le_of_ble_eq_true rfl⟩ rfl rfl rfl hl.1 rfl (Nat.le_of_ble_eq_true rfl) dX7_readOrder_134 ⟨Nat.zero_le _, Nat.zero_le _⟩ (fun r2343 σ2342 τ2342 H locs h2342 hP hS => ?_)
                  obtain ⟨rfl, f2344, f2345, I2346, I2347, h2342⟩ := h2342
                  obtain ⟨i2348, w2349, w2350⟩ : (0 ≤ (σ2342 9 0).toInt ∧ (σ2342 9 0).toInt ≤ 80) ∧ (∀ k : Nat, k < 80 → 0 ≤ (σ2342 10 k).toInt ∧ (σ2342 10 k).toInt ≤ 255) ∧ (∀ k : Nat, k < 8 → 0 ≤ (σ2342 11 k).toInt ∧ (σ2342 11 k).toInt ≤ 3) := id I2346
                  have i2351 : (-1) ≤ (σ2342 9 2).toInt := I2347
                  rcases h2342 with h2352 | h2353
                  · obtain ⟨q2355, k2354⟩ := h2352
                    exact absurd (by omega : False) id
                  · obtain ⟨q2357, k2356⟩ := h2353
                    refine lv_istore (lv' := [(5, .int r2343), (3, .int r2296), (4, .int 0), (2, .int x25), (0, .ref (ad 9)), (1, .ref (ad 16))]) hx hb dX7_readOrder_137 hl (by decide) rfl (fun ls hl => ?_)
                    refine lv_iload hx hb dX7_readOrder_139 (lv_at hl 0 rfl) ?_
                    refine lv_iconst (v := (-1)) hx hb dX7_readOrder_141 (by decide) ?_
                    refine lv_icmp_eq (tgt := 148) hx hb dX7_readOrder_142 (by decide) (fun c => absurd (jeq c rfl jz_m1) (by omega)) (fun c2358 => ?_)
                    have kc2358 := jne c2358 rfl jz_m1
                    refine lv_iload hx hb dX7_readOrder_145 (lv_at hl 0 rfl) ?_
                    have z2359 : (σ2342 16 0).toInt = (σ 16 0).toInt := by rw [(show σ2342 16 0 = (σ 16 0) from (by rw [f2344 16 (by omega)]; exact (by rw [f2328 16 (by omega)]; exact (by rw [f2316 16 (by omega)]; exact (by rw [f2297 16 (by omega)]; exact (by rw [f2171 16 (by omega)]; exact (by rw [f32 16 (by omega)]; exact (by rw [f11 16 (by omega)]))))))))]
                    have z2360 : (σ2342 16 1).toInt = (σ 16 1).toInt := by rw [(show σ2342 16 1 = (σ 16 1) from (by rw [f2344 16 (by omega)]; exact (by rw [f2328 16 (by omega)]; exact (by rw [f2316 16 (by omega)]; exact (by rw [f2297 16 (by omega)]; exact (by rw [f2171 16 (by omega)]; exact (by rw [f32 16 (by omega)]; exact (by rw [f11 16 (by omega)]))))))))]
                    have z2361 : (σ2342 16 2).toInt = (σ 16 2).toInt := by rw [(show σ2342 16 2 = (σ 16 2) from (by rw [f2344 16 (by omega)]; exact (by rw [f2328 16 (by omega)]; exact (by rw [f2316 16 (by omega)]; exact (by rw [f2297 16 (by omega)]; exact (by rw [f2171 16 (by omega)]; exact (by rw [f32 16 (by omega)]; exact (by rw [f11 16 (by omega)]))))))))]
                    have w2362 : ∀ k : Nat, k < 8 → 0 ≤ (σ2342 17 k).toInt ∧ (σ2342 17 k).toInt ≤ 3 := (by rw [f2344 17 (by omega)]; exact (by rw [f2328 17 (by omega)]; exact (by rw [f2316 17 (by omega)]; exact (by rw [f2297 17 (by omega)]; exact (by rw [f2171 17 (by omega)]; exact (by rw [f32 17 (by omega)]; exact (by rw [f11 17 (by omega)]; exact w7)))))))
                    have I2363 : jI16 σ2342 := ⟨(by omega), (by omega), (by omega), w2362⟩
                    exact hret r2343 σ2342 τ _ _ _ _ rfl ⟨rfl, (fun i hi => by rw [f2344 i (by omega), f2328 i (by omega), f2316 i (by omega), f2297 i (by omega), f2171 i (by omega), f32 i (by omega), f11 i (by omega)]), (fun k hk => by rw [f2345 k (by omega), f2329 k (by omega), f2317 k (by omega), f2298 k (by omega), f2172 k (by omega), f33 k (by omega), f12 k (by omega)]), (fun k hk => by rw [f2344 16 (by omega), f2328 16 (by omega), f2316 16 (by omega), f2297 16 (by omega), f2171 16 (by omega), f32 16 (by omega), f11 16 (by omega)]), I2346, I2363, trivial⟩ hP hS dX7_readOrder_147
                · have kc2341 := jne c2341 rfl jz_0
                  refine lv_aload_n hx hb dX7_readOrder_126 rfl (lv_at hl 4 rfl) ?_
                  refine lv_iconst (v := 3) hx hb dX7_readOrder_127 (by decide) ?_
                  refine jcallV (As := [.int 3]) (rest := []) ⟨hx, hb, hml, hown, hts⟩ hK hP hA hS hZ (c_X7_number_3 l D cI cL ad zz hJ σ2326 τ I2330 I2331 I2332) cw_RX7_53 (jc_9 cI cL ad σ2326 τ) rfl ⟨Nat.le_of_ble_eq_true rfl, Nat.le_of_ble_eq_true rfl⟩ rfl rfl rfl hl.1 rfl (Nat.le_of_ble_eq_true rfl) dX7_readOrder_128 ⟨Nat.zero_le _, Nat.zero_le _⟩ (fun r2365 σ2364 τ2364 H locs h2364 hP hS => ?_)
                  obtain ⟨rfl, f2366, f2367, I2368, I2369, I2370, h2364⟩ := h2364
                  obtain ⟨i2371, w2372, w2373⟩ : (0 ≤ (σ2364 9 0).toInt ∧ (σ2364 9 0).toInt ≤ 80) ∧ (∀ k : Nat, k < 80 → 0 ≤ (σ2364 10 k).toInt ∧ (σ2364 10 k).toInt ≤ 255) ∧ (∀ k : Nat, k < 8 → 0 ≤ (σ2364 11 k).toInt ∧ (σ2364 11 k).toInt ≤ 3) := id I2368
                  obtain ⟨i2374, i2375⟩ : (0 ≤ (σ2364 9 1).toInt) ∧ ((σ2364 9 1).toInt ≤ (σ2364 9 0).toInt) := id I2369
                  have i2376 : (-1) ≤ (σ2364 9 2).toInt := I2370
                  have z2377 : (σ2364 9 0).toInt = (σ 9 0).toInt := by rw [(show σ2364 9 0 = (σ 9 0) from (by rw [f2367 0 (by omega)]; exact (by rw [f2329 0 (by omega)]; exact (by rw [f2317 0 (by omega)]; exact (by rw [f2298 0 (by omega)]; exact (by rw [f2172 0 (by omega)]; exact (by rw [f33 0 (by omega)]; exact (by rw [f12 0 (by omega)]))))))))]
                  obtain ⟨k2378, h2364⟩ := h2364
                  have h2379 := h2364
                  obtain ⟨q2381, k2380⟩ := h2379
                  refine lv_istore (lv' := [(4, .int r2365), (3, .int r2296), (5, .int (σ2169 9 1)), (2, .int x25), (0, .ref (ad 9)), (1, .ref (ad 16))]) hx hb dX7_readOrder_131 hl (by decide) rfl (fun ls hl => ?_)
                  refine lv_aload_n hx hb dX7_readOrder_133 rfl (lv_at hl 4 rfl) ?_
                  refine jcallV (As := []) (rest := []) ⟨hx, hb, hml, hown, hts⟩ hK hP hA hS hZ (c_X7_end_9 l D cI cL ad zz hJ σ2364 τ I2368 I2369 I2370) cw_RX7_57 (jc_9 cI cL ad σ2364 τ) rfl ⟨Nat.le_of_ble_eq_true rfl, Nat.le_of_ble_eq_true rfl⟩ rfl rfl rfl hl.1 rfl (Nat.le_of_ble_eq_true rfl) dX7_readOrder_134 ⟨Nat.zero_le _, Nat.zero_le _⟩ (fun r2383 σ2382 τ2382 H locs h2382 hP hS => ?_)
                  obtain ⟨rfl, f2384, f2385, I2386, I2387, h2382⟩ := h2382
                  obtain ⟨i2388, w2389, w2390⟩ : (0 ≤ (σ2382 9 0).toInt ∧ (σ2382 9 0).toInt ≤ 80) ∧ (∀ k : Nat, k < 80 → 0 ≤ (σ2382 10 k).toInt ∧ (σ2382 10 k).toInt ≤ 255) ∧ (∀ k : Nat, k < 8 → 0 ≤ (σ2382 11 k).toInt ∧ (σ2382 11 k).toInt ≤ 3) := id I2386
                  have i2391 : (-1) ≤ (σ2382 9 2).toInt := I2387
                  rcases h2382 with h2392 | h2393
                  · obtain ⟨q2395, k2394⟩ := h2392
                    exact absurd (by omega : False) id
                  · obtain ⟨q2397, k2396⟩ := h2393
                    refine lv_istore (lv' := [(5, .int r2383), (4, .int r2365), (3, .int r2296), (2, .int x25), (0, .ref (ad 9)), (1, .ref (ad 16))]) hx hb dX7_readOrder_137 hl (by decide) rfl (fun ls hl => ?_)
                    refine lv_iload hx hb dX7_readOrder_139 (lv_at hl 0 rfl) ?_
                    refine lv_iconst (v := (-1)) hx hb dX7_readOrder_141 (by decide) ?_
                    refine lv_icmp_eq (tgt := 148) hx hb dX7_readOrder_142 (by decide) (fun c => absurd (jeq c rfl jz_m1) (by omega)) (fun c2398 => ?_)
                    have kc2398 := jne c2398 rfl jz_m1
                    refine lv_iload hx hb dX7_readOrder_145 (lv_at hl 0 rfl) ?_
                    have z2399 : (σ2382 16 0).toInt = (σ 16 0).toInt := by rw [(show σ2382 16 0 = (σ 16 0) from (by rw [f2384 16 (by omega)]; exact (by rw [f2366 16 (by omega)]; exact (by rw [f2328 16 (by omega)]; exact (by rw [f2316 16 (by omega)]; exact (by rw [f2297 16 (by omega)]; exact (by rw [f2171 16 (by omega)]; exact (by rw [f32 16 (by omega)]; exact (by rw [f11 16 (by omega)])))))))))]
                    have z2400 : (σ2382 16 1).toInt = (σ 16 1).toInt := by rw [(show σ2382 16 1 = (σ 16 1) from (by rw [f2384 16 (by omega)]; exact (by rw [f2366 16 (by omega)]; exact (by rw [f2328 16 (by omega)]; exact (by rw [f2316 16 (by omega)]; exact (by rw [f2297 16 (by omega)]; exact (by rw [f2171 16 (by omega)]; exact (by rw [f32 16 (by omega)]; exact (by rw [f11 16 (by omega)])))))))))]
                    have z2401 : (σ2382 16 2).toInt = (σ 16 2).toInt := by rw [(show σ2382 16 2 = (σ 16 2) from (by rw [f2384 16 (by omega)]; exact (by rw [f2366 16 (by omega)]; exact (by rw [f2328 16 (by omega)]; exact (by rw [f2316 16 (by omega)]; exact (by rw [f2297 16 (by omega)]; exact (by rw [f2171 16 (by omega)]; exact (by rw [f32 16 (by omega)]; exact (by rw [f11 16 (by omega)])))))))))]
                    have w2402 : ∀ k : Nat, k < 8 → 0 ≤ (σ2382 17 k).toInt ∧ (σ2382 17 k).toInt ≤ 3 := (by rw [f2384 17 (by omega)]; exact (by rw [f2366 17 (by omega)]; exact (by rw [f2328 17 (by omega)]; exact (by rw [f2316 17 (by omega)]; exact (by rw [f2297 17 (by omega)]; exact (by rw [f2171 17 (by omega)]; exact (by rw [f32 17 (by omega)]; exact (by rw [f11 17 (by omega)]; exact w7))))))))
                    have I2403 : jI16 σ2382 := ⟨(by omega), (by omega), (by omega), w2402⟩
                    exact hret r2383 σ2382 τ _ _ _ _ rfl ⟨rfl, (fun i hi => by rw [f2384 i (by omega), f2366 i (by omega), f2328 i (by omega), f2316 i (by omega), f2297 i (by omega), f2171 i (by omega), f32 i (by omega), f11 i (by omega)]), (fun k hk => by rw [f2385 k (by omega), f2367 k (by omega), f2329 k (by omega), f2317 k (by omega), f2298 k (by omega), f2172 k (by omega), f33 k (by omega), f12 k (by omega)]), (fun k hk => by rw [f2384 16 (by omega), f2366 16 (by omega), f2328 16 (by omega), f2316 16 (by omega), f2297 16 (by omega), f2171 16 (by omega), f32 16 (by omega), f11 16 (by omega)]), I2386, I2403, trivial⟩ hP hS dX7_readOrder_147
              · have kc2313 := jnlt c2313 rfl jz_1
                refine lv_iload_n hx hb dX7_readOrder_105 rfl (lv_at hl 0 rfl) ?_
                refine lv_bipush (v := 12) hx hb dX7_readOrder_106 (by decide) ?_
                refine lv_icmp_le (tgt := 117) hx hb dX7_readOrder_108 (by decide) (fun c2404 => ?_) (fun c2404 => ?_)
                · have kc2404 := jle c2404 rfl jz_12
                  refine lv_aload_n hx hb dX7_readOrder_117 rfl (lv_at hl 4 rfl) ?_
                  refine lv_bipush (v := 114) hx hb dX7_readOrder_118 (by decide) ?_
                  refine jcallV (As := [.int 114]) (rest := []) ⟨hx, hb, hml, hown, hts⟩ hK hP hA hS hZ (c_X7_skip_9 l D cI cL ad zz hJ σ2295 τ 114 (114) jz_114 I2299 I2300 I2301 (by omega)) cw_RX7_50 (jc_9 cI cL ad σ2295 τ) rfl ⟨Nat.le_of_ble_eq_true rfl, Nat.le_of_ble_eq_true rfl⟩ rfl rfl rfl hl.1 rfl (Nat.le_of_ble_eq_true rfl) dX7_readOrder_120 ⟨Nat.zero_le _, Nat.zero_le _⟩ (fun r2406 σ2405 τ2405 H locs h2405 hP hS => ?_)
                  obtain ⟨rfl, f2407, f2408, I2409, I2410, I2411, h2405⟩ := h2405
                  obtain ⟨i2412, w2413, w2414⟩ : (0 ≤ (σ2405 9 0).toInt ∧ (σ2405 9 0).toInt ≤ 80) ∧ (∀ k : Nat, k < 80 → 0 ≤ (σ2405 10 k).toInt ∧ (σ2405 10 k).toInt ≤ 255) ∧ (∀ k : Nat, k < 8 → 0 ≤ (σ2405 11 k).toInt ∧ (σ2405 11 k).toInt ≤ 3) := id I2409
                  obtain ⟨i2415, i2416⟩ : (0 ≤ (σ2405 9 1).toInt) ∧ ((σ2405 9 1).toInt ≤ (σ2405 9 0).toInt) := id I2410
                  have i2417 : (-1) ≤ (σ2405 9 2).toInt := I2411
                  have z2418 : (σ2405 9 0).toInt = (σ 9 0).toInt := by rw [(show σ2405 9 0 = (σ 9 0) from (by rw [f2408 0 (by omega)]; exact (by rw [f2298 0 (by omega)]; exact (by rw [f2172 0 (by omega)]; exact (by rw [f33 0 (by omega)]; exact (by rw [f12 0 (by omega)]))))))]
                  have z2419 : (σ2405 9 2).toInt = (σ2295 9 2).toInt := by rw [(show σ2405 9 2 = (σ2295 9 2) from (by rw [f2408 2 (by omega)]))]
                  refine lv_if_eq (tgt := 133) hx hb dX7_readOrder_123 (by decide) (fun c2420 => ?_) (fun c2420 => ?_)
                  · have kc2420 := jeq c2420 rfl jz_0
                    refine lv_aload_n hx hb dX7_readOrder_133 rfl (lv_at hl 4 rfl) ?_
                    refine jcallV (As := []) (rest := []) ⟨hx, hb, hml, hown, hts⟩ hK hP hA hS hZ (c_X7_end_9 l D cI cL ad zz hJ σ2405 τ I2409 I2410 I2411) cw_RX7_57 (jc_9 cI cL ad σ2405 τ) rfl ⟨Nat.le_of_ble_eq_true rfl, Nat.le_of_ble_eq_true rfl⟩ rfl rfl rfl hl.1 rfl (Nat.le_of_ble_eq_true rfl) dX7_readOrder_134 ⟨Nat.zero_le _, Nat.zero_le _⟩ (fun r2422 σ2421 τ2421 H locs h2421 hP hS => ?_)
                    obtain ⟨rfl, f2423, f2424, I2425, I2426, h2421⟩ := h2421
                    obtain ⟨i2427, w2428, w2429⟩ : (0 ≤ (σ2421 9 0).toInt ∧ (σ2421 9 0).toInt ≤ 80) ∧ (∀ k : Nat, k < 80 → 0 ≤ (σ2421 10 k).toInt ∧ (σ2421 10 k).toInt ≤ 255) ∧ (∀ k : Nat, k < 8 → 0 ≤ (σ2421 11 k).toInt ∧ (σ2421 11 k).toInt ≤ 3) := id I2425
                    have i2430 : (-1) ≤ (σ2421 9 2).toInt := I2426
                    rcases h2421 with h2431 | h2432
                    · obtain ⟨q2434, k2433⟩ := h2431
                      have q2434 := q2434.symm
                      subst q2434
                      refine lv_istore (lv' := [(5, .int (-1)), (3, .int r2296), (4, .int 0), (2, .int x25), (0, .ref (ad 9)), (1, .ref (ad 16))]) hx hb dX7_readOrder_137 hl (by decide) rfl (fun ls hl => ?_)
                      refine lv_iload hx hb dX7_readOrder_139 (lv_at hl 0 rfl) ?_
                      refine lv_iconst (v := (-1)) hx hb dX7_readOrder_141 (by decide) ?_
                      refine lv_icmp_eq (tgt := 148) hx hb dX7_readOrder_142 (by decide) (fun _ => ?_) (fun c => absurd (by decide) c)
                      refine lv_aload_n hx hb dX7_readOrder_148 rfl (lv_at hl 5 rfl) ?_
                      refine lv_iload_n hx hb dX7_readOrder_149 rfl (lv_at hl 3 rfl) ?_
                      refine jput (ty := .int) hx hb hts inlX6 tyX6 tyX6_ok nmX6 hown hK hP hJ hA hS (jc_16 cI cL ad σ2421 τ) rfl (k := 0) (by decide) (Nat.le_of_ble_eq_true rfl) (jp_16_0 cI cL ad σ2421 τ x25) (hts _ kw_13_18) (fun _ h9 => h9) rfl (by decide +kernel) rfl rfl dX7_readOrder_150 (fun σ2435 H locs eσ2435 hP hS => ?_)
                      refine lv_aload_n hx hb dX7_readOrder_153 rfl (lv_at hl 5 rfl) ?_
                      refine lv_iload_n hx hb dX7_readOrder_154 rfl (lv_at hl 1 rfl) ?_
                      refine jput (ty := .int) hx hb hts inlX6 tyX6 tyX6_ok nmX6 hown hK hP hJ hA hS (jc_16 cI cL ad σ2435 τ) rfl (k := 1) (by decide) (Nat.le_of_ble_eq_true rfl) (jp_16_1 cI cL ad σ2435 τ r2296) (hts _ kw_13_19) (fun _ h9 => h9) rfl (by decide +kernel) rfl rfl dX7_readOrder_155 (fun σ2436 H locs eσ2436 hP hS => ?_)
                      refine lv_aload_n hx hb dX7_readOrder_158 rfl (lv_at hl 5 rfl) ?_
                      refine lv_iload hx hb dX7_readOrder_159 (lv_at hl 2 rfl) ?_
                      refine jput (ty := .int) hx hb hts inlX6 tyX6 tyX6_ok nmX6 hown hK hP hJ hA hS (jc_16 cI cL ad σ2436 τ) rfl (k := 2) (by decide) (Nat.le_of_ble_eq_true rfl) (jp_16_2 cI cL ad σ2436 τ 0) (hts _ kw_13_20) (fun _ h9 => h9) rfl (by decide +kernel) rfl rfl dX7_readOrder_161 (fun σ2437 H locs eσ2437 hP hS => ?_)
                      refine lv_aload_n hx hb dX7_readOrder_164 rfl (lv_at hl 4 rfl) ?_
                      refine va_get (D := D) hx hb hts inlX7 hown hK hP 9 (jc_9 cI cL ad σ2437 τ) rfl 4 (by decide) (hts _ kw_3_21) (fun _ h9 => h9) rfl dX7_readOrder_165 ?_
                      refine lv_iconst (v := 0) hx hb dX7_readOrder_168 (by decide) ?_
                      refine lv_aload_n hx hb dX7_readOrder_169 rfl (lv_at hl 5 rfl) ?_
                      refine va_get (D := D) hx hb hts inlX6 hown hK hP 16 (jc_16 cI cL ad σ2437 τ) rfl 3 (by decide) (hts _ kw_13_21) (fun _ h9 => h9) rfl dX7_readOrder_170 ?_
                      refine lv_iconst (v := 0) hx hb dX7_readOrder_173 (by decide) ?_
                      refine lv_iload_n hx hb dX7_readOrder_174 rfl (lv_at hl 3 rfl) ?_
                      refine jcpyI (q0 := 11) (q1 := 17) hx hb (hml.trans hl.1.symm) hown (hts _ kw_13_22) (hts _ kw_13_23) (hts _ kw_14_0) (hts _ kw_14_1) hK hP hJ hA hS (jc_11 cI cL ad σ2437 τ) (jc_17 cI cL ad σ2437 τ) (fun _ => rfl) jz_0 jz_0 rfl (by omega) (by omega) (by omega) (by omega) (by omega) (Nat.le_of_ble_eq_true rfl) (Nat.le_of_ble_eq_true rfl) dX7_readOrder_175 (fun σ2438 H locs eσ2438 hP hS => ?_)
                      have w2439 : ∀ k : Nat, k < 8 → 0 ≤ (σ2437 11 k).toInt ∧ (σ2437 11 k).toInt ≤ 3 := (by rw [eσ2437, jup_n (by decide)]; exact (by rw [eσ2436, jup_n (by decide)]; exact (by rw [eσ2435, jup_n (by decide)]; exact w2429)))
                      have w2440 : ∀ k : Nat, k < 8 → 0 ≤ (σ2437 17 k).toInt ∧ (σ2437 17 k).toInt ≤ 3 := (by rw [eσ2437, jup_n (by decide)]; exact (by rw [eσ2436, jup_n (by decide)]; exact (by rw [eσ2435, jup_n (by decide)]; exact (by rw [f2423 17 (by omega)]; exact (by rw [f2407 17 (by omega)]; exact (by rw [f2297 17 (by omega)]; exact (by rw [f2171 17 (by omega)]; exact (by rw [f32 17 (by omega)]; exact (by rw [f11 17 (by omega)]; exact w7)))))))))
                      have f2441 : (∀ i : Nat, (i < 17 ∨ 17 < i) → σ2438 i = σ2437 i) := by rw [eσ2438]; exact jrow_n
                      have w2442 : ∀ k : Nat, k < 8 → 0 ≤ (σ2438 17 k).toInt ∧ (σ2438 17 k).toInt ≤ 3 := by rw [eσ2438]; exact jrow_rr w2439 w2440 jz_0 rfl (n0 := 8) (by omega) (by omega) (by omega)
                      refine lv_iconst (v := (-1)) hx hb dX7_readOrder_178 (by decide) ?_
                      have z2443 : (σ2438 9 0).toInt = (σ2421 9 0).toInt := by rw [(show σ2438 9 0 = (σ2421 9 0) from (by rw [f2441 9 (by omega)]; exact (by rw [eσ2437, jup_n (by decide)]; exact (by rw [eσ2436, jup_n (by decide)]; exact (by rw [eσ2435, jup_n (by decide)])))))]
                      have w2444 : ∀ k : Nat, k < 80 → 0 ≤ (σ2438 10 k).toInt ∧ (σ2438 10 k).toInt ≤ 255 := (by rw [f2441 10 (by omega)]; exact (by rw [eσ2437, jup_n (by decide)]; exact (by rw [eσ2436, jup_n (by decide)]; exact (by rw [eσ2435, jup_n (by decide)]; exact w2428))))
                      have w2445 : ∀ k : Nat, k < 8 → 0 ≤ (σ2438 11 k).toInt ∧ (σ2438 11 k).toInt ≤ 3 := (by rw [f2441 11 (by omega)]; exact w2439)
                      have I2446 : jI9 σ2438 := ⟨(by omega), w2444, w2445⟩
                      have z2447 : (σ2438 16 0).toInt = x25.toInt := by rw [(show σ2438 16 0 = x25 from (by rw [f2441 16 (by omega)]; exact (by rw [eσ2437, jup_k (by decide)]; exact (by rw [eσ2436, jup_k (by decide)]; exact (by rw [eσ2435]; exact jup_s)))))]
                      have z2448 : (σ2438 16 1).toInt = r2296.toInt := by rw [(show σ2438 16 1 = r2296 from (by rw [f2441 16 (by omega)]; exact (by rw [eσ2437, jup_k (by decide)]; exact (by rw [eσ2436]; exact jup_s))))]
                      have z2449 : (σ2438 16 2).toInt = 0 := by rw [(show σ2438 16 2 = 0 from (by rw [f2441 16 (by omega)]; exact (by rw [eσ2437]; exact jup_s)))]; exact jz_0
                      have I2450 : jI16 σ2438 := ⟨(by omega), (by omega), (by omega), w2442⟩
                      exact hret (-1) σ2438 τ _ _ _ _ rfl ⟨rfl, (fun i hi => by rw [f2441 i (by omega), eσ2437, jup_n (by omega), eσ2436, jup_n (by omega), eσ2435, jup_n (by omega), f2423 i (by omega), f2407 i (by omega), f2297 i (by omega), f2171 i (by omega), f32 i (by omega), f11 i (by omega)]), (fun k hk => by rw [f2441 9 (by omega), eσ2437, jup_n (by decide), eσ2436, jup_n (by decide), eσ2435, jup_n (by decide), f2424 k (by omega), f2408 k (by omega), f2298 k (by omega), f2172 k (by omega), f33 k (by omega), f12 k (by omega)]), (fun k hk => by rw [f2441 16 (by omega), eσ2437, jup_k (by omega), eσ2436, jup_k (by omega), eσ2435, jup_k (by omega), f2423 16 (by omega), f2407 16 (by omega), f2297 16 (by omega), f2171 16 (by omega), f32 16 (by omega), f11 16 (by omega)]), I2446, I2450, trivial⟩ hP hS dX7_readOrder_179
                    · obtain ⟨q2452, k2451⟩ := h2432
                      refine lv_istore (lv' := [(5, .int r2422), (3, .int r2296), (4, .int 0), (2, .int x25), (0, .ref (ad 9)), (1, .ref (ad 16))]) hx hb dX7_readOrder_137 hl (by decide) rfl (fun ls hl => ?_)
                      refine lv_iload hx hb dX7_readOrder_139 (lv_at hl 0 rfl) ?_
                      refine lv_iconst (v := (-1)) hx hb dX7_readOrder_141 (by decide) ?_
                      refine lv_icmp_eq (tgt := 148) hx hb dX7_readOrder_142 (by decide) (fun c => absurd (jeq c rfl jz_m1) (by omega)) (fun c2453 => ?_)
                      have kc2453 := jne c2453 rfl jz_m1
                      refine lv_iload hx hb dX7_readOrder_145 (lv_at hl 0 rfl) ?_
                      have z2454 : (σ2421 16 0).toInt = (σ 16 0).toInt := by rw [(show σ2421 16 0 = (σ 16 0) from (by rw [f2423 16 (by omega)]; exact (by rw [f2407 16 (by omega)]; exact (by rw [f2297 16 (by omega)]; exact (by rw [f2171 16 (by omega)]; exact (by rw [f32 16 (by omega)]; exact (by rw [f11 16 (by omega)])))))))]
                      have z2455 : (σ2421 16 1).toInt = (σ 16 1).toInt := by rw [(show σ2421 16 1 = (σ 16 1) from (by rw [f2423 16 (by omega)]; exact (by rw [f2407 16 (by omega)]; exact (by rw [f2297 16 (by omega)]; exact (by rw [f2171 16 (by omega)]; exact (by rw [f32 16 (by omega)]; exact (by rw [f11 16 (by omega)])))))))]
                      have z2456 : (σ2421 16 2).toInt = (σ 16 2).toInt := by rw [(show σ2421 16 2 = (σ 16 2) from (by rw [f2423 16 (by omega)]; exact (by rw [f2407 16 (by omega)]; exact (by rw [f2297 16 (by omega)]; exact (by rw [f2171 16 (by omega)]; exact (by rw [f32 16 (by omega)]; exact (by rw [f11 16 (by omega)])))))))]
                      have w2457 : ∀ k : Nat, k < 8 → 0 ≤ (σ2421 17 k).toInt ∧ (σ2421 17 k).toInt ≤ 3 := (by rw [f2423 17 (by omega)]; exact (by rw [f2407 17 (by omega)]; exact (by rw [f2297 17 (by omega)]; exact (by rw [f2171 17 (by omega)]; exact (by rw [f32 17 (by omega)]; exact (by rw [f11 17 (by omega)]; exact w7))))))
                      have I2458 : jI16 σ2421 := ⟨(by omega), (by omega), (by omega), w2457⟩
                      exact hret r2422 σ2421 τ _ _ _ _ rfl ⟨rfl, (fun i hi => by rw [f2423 i (by omega), f2407 i (by omega), f2297 i (by omega), f2171 i (by omega), f32 i (by omega), f11 i (by omega)]), (fun k hk => by rw [f2424 k (by omega), f2408 k (by omega), f2298 k (by omega), f2172 k (by omega), f33 k (by omega), f12 k (by omega)]), (fun k hk => by rw [f2423 16 (by omega), f2407 16 (by omega), f2297 16 (by omega), f2171 16 (by omega), f32 16 (by omega), f11 16 (by omega)]), I2425, I2458, trivial⟩ hP hS dX7_readOrder_147
                  · have kc2420 := jne c2420 rfl jz_0
                    refine lv_aload_n hx hb dX7_readOrder_126 rfl (lv_at hl 4 rfl) ?_
                    refine lv_iconst (v := 3) hx hb dX7_readOrder_127 (by decide) ?_
                    refine jcallV (As := [.int 3]) (rest := []) ⟨hx, hb, hml, hown, hts⟩ hK hP hA hS hZ (c_X7_number_3 l D cI cL ad zz hJ σ2405 τ I2409 I2410 I2411) cw_RX7_53 (jc_9 cI cL ad σ2405 τ) rfl ⟨Nat.le_of_ble_eq_true rfl, Nat.le_of_ble_eq_true rfl⟩ rfl rfl rfl hl.1 rfl (Nat.le_of_ble_eq_true rfl) dX7_readOrder_128 ⟨Nat.zero_le _, Nat.zero_le _⟩ (fun r2460 σ2459 τ2459 H locs h2459 hP hS => ?_)
                    obtain ⟨rfl, f2461, f2462, I2463, I2464, I2465, h2459⟩ := h2459
                    obtain ⟨i2466, w2467, w2468⟩ : (0 ≤ (σ2459 9 0).toInt ∧ (σ2459 9 0).toInt ≤ 80) ∧ (∀ k : Nat, k < 80 → 0 ≤ (σ2459 10 k).toInt ∧ (σ2459 10 k).toInt ≤ 255) ∧ (∀ k : Nat, k < 8 → 0 ≤ (σ2459 11 k).toInt ∧ (σ2459 11 k).toInt ≤ 3) := id I2463
                    obtain ⟨i2469, i2470⟩ : (0 ≤ (σ2459 9 1).toInt) ∧ ((σ2459 9 1).toInt ≤ (σ2459 9 0).toInt) := id I2464
                    have i2471 : (-1) ≤ (σ2459 9 2).toInt := I2465
                    have z2472 : (σ2459 9 0).toInt = (σ 9 0).toInt := by rw [(show σ2459 9 0 = (σ 9 0) from (by rw [f2462 0 (by omega)]; exact (by rw [f2408 0 (by omega)]; exact (by rw [f2298 0 (by omega)]; exact (by rw [f2172 0 (by omega)]; exact (by rw [f33 0 (by omega)]; exact (by rw [f12 0 (by omega)])))))))]
                    obtain ⟨k2473, h2459⟩ := h2459
                    have h2474 := h2459
                    obtain ⟨q2476, k2475⟩ := h2474
                    refine lv_istore (lv' := [(4, .int r2460), (3, .int r2296), (5, .int (σ2169 9 1)), (2, .int x25), (0, .ref (ad 9)), (1, .ref (ad 16))]) hx hb dX7_readOrder_131 hl (by decide) rfl (fun ls hl => ?_)
                    refine lv_aload_n hx hb dX7_readOrder_133 rfl (lv_at hl 4 rfl) ?_
                    refine jcallV (As := []) (rest := []) ⟨hx, hb, hml, hown, hts⟩ hK hP hA hS hZ (c_X7_end_9 l D cI cL ad zz hJ σ2459 τ I2463 I2464 I2465) cw_RX7_57 (jc_9 cI cL ad σ2459 τ) rfl ⟨Nat.le_of_ble_eq_true rfl, Nat.le_of_ble_eq_true rfl⟩ rfl rfl rfl hl.1 rfl (Nat.le_of_ble_eq_true rfl) dX7_readOrder_134 ⟨Nat.zero_le _, Nat.zero_le _⟩ (fun r2478 σ2477 τ2477 H locs h2477 hP hS => ?_)
                    obtain ⟨rfl, f2479, f2480, I2481, I2482, h2477⟩ := h2477
                    obtain ⟨i2483, w2484, w2485⟩ : (0 ≤ (σ2477 9 0).toInt ∧ (σ2477 9 0).toInt ≤ 80) ∧ (∀ k : Nat, k < 80 → 0 ≤ (σ2477 10 k).toInt ∧ (σ2477 10 k).toInt ≤ 255) ∧ (∀ k : Nat, k < 8 → 0 ≤ (σ2477 11 k).toInt ∧ (σ2477 11 k).toInt ≤ 3) := id I2481
                    have i2486 : (-1) ≤ (σ2477 9 2).toInt := I2482
                    rcases h2477 with h2487 | h2488
                    · obtain ⟨q2490, k2489⟩ := h2487
                      have q2490 := q2490.symm
                      subst q2490
                      refine lv_istore (lv' := [(5, .int (-1)), (4, .int r2460), (3, .int r2296), (2, .int x25), (0, .ref (ad 9)), (1, .ref (ad 16))]) hx hb dX7_readOrder_137 hl (by decide) rfl (fun ls hl => ?_)
                      refine lv_iload hx hb dX7_readOrder_139 (lv_at hl 0 rfl) ?_
                      refine lv_iconst (v := (-1)) hx hb dX7_readOrder_141 (by decide) ?_
                      refine lv_icmp_eq (tgt := 148) hx hb dX7_readOrder_142 (by decide) (fun _ => ?_) (fun c => absurd (by decide) c)
                      refine lv_aload_n hx hb dX7_readOrder_148 rfl (lv_at hl 5 rfl) ?_
                      refine lv_iload_n hx hb dX7_readOrder_149 rfl (lv_at hl 3 rfl) ?_
                      refine jput (ty := .int) hx hb hts inlX6 tyX6 tyX6_ok nmX6 hown hK hP hJ hA hS (jc_16 cI cL ad σ2477 τ) rfl (k := 0) (by decide) (Nat.le_of_ble_eq_true rfl) (jp_16_0 cI cL ad σ2477 τ x25) (hts _ kw_13_18) (fun _ h9 => h9) rfl (by decide +kernel) rfl rfl dX7_readOrder_150 (fun σ2491 H locs eσ2491 hP hS => ?_)
                      refine lv_aload_n hx hb dX7_readOrder_153 rfl (lv_at hl 5 rfl) ?_
                      refine lv_iload_n hx hb dX7_readOrder_154 rfl (lv_at hl 2 rfl) ?_
                      refine jput (ty := .int) hx hb hts inlX6 tyX6 tyX6_ok nmX6 hown hK hP hJ hA hS (jc_16 cI cL ad σ2491 τ) rfl (k := 1) (by decide) (Nat.le_of_ble_eq_true rfl) (jp_16_1 cI cL ad σ2491 τ r2296) (hts _ kw_13_19) (fun _ h9 => h9) rfl (by decide +kernel) rfl rfl dX7_readOrder_155 (fun σ2492 H locs eσ2492 hP hS => ?_)
                      refine lv_aload_n hx hb dX7_readOrder_158 rfl (lv_at hl 5 rfl) ?_
                      refine lv_iload hx hb dX7_readOrder_159 (lv_at hl 1 rfl) ?_
                      refine jput (ty := .int) hx hb hts inlX6 tyX6 tyX6_ok nmX6 hown hK hP hJ hA hS (jc_16 cI cL ad σ2492 τ) rfl (k := 2) (by decide) (Nat.le_of_ble_eq_true rfl) (jp_16_2 cI cL ad σ2492 τ r2460) (hts _ kw_13_20) (fun _ h9 => h9) rfl (by decide +kernel) rfl rfl dX7_readOrder_161 (fun σ2493 H locs eσ2493 hP hS => ?_)
                      refine lv_aload_n hx hb dX7_readOrder_164 rfl (lv_at hl 4 rfl) ?_
                      refine va_get (D := D) hx hb hts inlX7 hown hK hP 9 (jc_9 cI cL ad σ2493 τ) rfl 4 (by decide) (hts _ kw_3_21) (fun _ h9 => h9) rfl dX7_readOrder_165 ?_
                      refine lv_iconst (v := 0) hx hb dX7_readOrder_168 (by decide) ?_
                      refine lv_aload_n hx hb dX7_readOrder_169 rfl (lv_at hl 5 rfl) ?_
                      refine va_get (D := D) hx hb hts inlX6 hown hK hP 16 (jc_16 cI cL ad σ2493 τ) rfl 3 (by decide) (hts _ kw_13_21) (fun _ h9 => h9) rfl dX7_readOrder_170 ?_
                      refine lv_iconst (v := 0) hx hb dX7_readOrder_173 (by decide) ?_
                      refine lv_iload_n hx hb dX7_readOrder_174 rfl (lv_at hl 3 rfl) ?_
                      refine jcpyI (q0 := 11) (q1 := 17) hx hb (hml.trans hl.1.symm) hown (hts _ kw_13_22) (hts _ kw_13_23) (hts _ kw_14_0) (hts _ kw_14_1) hK hP hJ hA hS (jc_11 cI cL ad σ2493 τ) (jc_17 cI cL ad σ2493 τ) (fun _ => rfl) jz_0 jz_0 rfl (by omega) (by omega) (by omega) (by omega) (by omega) (Nat.le_of_ble_eq_true rfl) (Nat.le_of_ble_eq_true rfl) dX7_readOrder_175 (fun σ2494 H locs eσ2494 hP hS => ?_)
                      have w2495 : ∀ k : Nat, k < 8 → 0 ≤ (σ2493 11 k).toInt ∧ (σ2493 11 k).toInt ≤ 3 := (by rw [eσ2493, jup_n (by decide)]; exact (by rw [eσ2492, jup_n (by decide)]; exact (by rw [eσ2491, jup_n (by decide)]; exact w2485)))
                      have w2496 : ∀ k : Nat, k < 8 → 0 ≤ (σ2493 17 k).toInt ∧ (σ2493 17 k).toInt ≤ 3 := (by rw [eσ2493, jup_n (by decide)]; exact (by rw [eσ2492, jup_n (by decide)]; exact (by rw [eσ2491, jup_n (by decide)]; exact (by rw [f2479 17 (by omega)]; exact (by rw [f2461 17 (by omega)]; exact (by rw [f2407 17 (by omega)]; exact (by rw [f2297 17 (by omega)]; exact (by rw [f2171 17 (by omega)]; exact (by rw [f32 17 (by omega)]; exact (by rw [f11 17 (by omega)]; exact w7))))))))))
                      have f2497 : (∀ i : Nat, (i < 17 ∨ 17 < i) → σ2494 i = σ2493 i) := by rw [eσ2494]; exact jrow_n
                      have w2498 : ∀ k : Nat, k < 8 → 0 ≤ (σ2494 17 k).toInt ∧ (σ2494 17 k).toInt ≤ 3 := by rw [eσ2494]; exact jrow_rr w2495 w2496 jz_0 rfl (n0 := 8) (by omega) (by omega) (by omega)
                      refine lv_iconst (v := (-1)) hx hb dX7_readOrder_178 (by decide) ?_
                      have z2499 : (σ2494 9 0).toInt = (σ2477 9 0).toInt := by rw [(show σ2494 9 0 = (σ2477 9 0) from (by rw [f2497 9 (by omega)]; exact (by rw [eσ2493, jup_n (by decide)]; exact (by rw [eσ2492, jup_n (by decide)]; exact (by rw [eσ2491, jup_n (by decide)])))))]
                      have w2500 : ∀ k : Nat, k < 80 → 0 ≤ (σ2494 10 k).toInt ∧ (σ2494 10 k).toInt ≤ 255 := (by rw [f2497 10 (by omega)]; exact (by rw [eσ2493, jup_n (by decide)]; exact (by rw [eσ2492, jup_n (by decide)]; exact (by rw [eσ2491, jup_n (by decide)]; exact w2484))))
                      have w2501 : ∀ k : Nat, k < 8 → 0 ≤ (σ2494 11 k).toInt ∧ (σ2494 11 k).toInt ≤ 3 := (by rw [f2497 11 (by omega)]; exact w2495)
                      have I2502 : jI9 σ2494 := ⟨(by omega), w2500, w2501⟩
                      have z2503 : (σ2494 16 0).toInt = x25.toInt := by rw [(show σ2494 16 0 = x25 from (by rw [f2497 16 (by omega)]; exact (by rw [eσ2493, jup_k (by decide)]; exact (by rw [eσ2492, jup_k (by decide)]; exact (by rw [eσ2491]; exact jup_s)))))]
                      have z2504 : (σ2494 16 1).toInt = r2296.toInt := by rw [(show σ2494 16 1 = r2296 from (by rw [f2497 16 (by omega)]; exact (by rw [eσ2493, jup_k (by decide)]; exact (by rw [eσ2492]; exact jup_s))))]
                      have z2505 : (σ2494 16 2).toInt = r2460.toInt := by rw [(show σ2494 16 2 = r2460 from (by rw [f2497 16 (by omega)]; exact (by rw [eσ2493]; exact jup_s)))]
                      have I2506 : jI16 σ2494 := ⟨(by omega), (by omega), (by omega), w2498⟩
                      exact hret (-1) σ2494 τ _ _ _ _ rfl ⟨rfl, (fun i hi => by rw [f2497 i (by omega), eσ2493, jup_n (by omega), eσ2492, jup_n (by omega), eσ2491, jup_n (by omega), f2479 i (by omega), f2461 i (by omega), f2407 i (by omega), f2297 i (by omega), f2171 i (by omega), f32 i (by omega), f11 i (by omega)]), (fun k hk => by rw [f2497 9 (by omega), eσ2493, jup_n (by decide), eσ2492, jup_n (by decide), eσ2491, jup_n (by decide), f2480 k (by omega), f2462 k (by omega), f2408 k (by omega), f2298 k (by omega), f2172 k (by omega), f33 k (by omega), f12 k (by omega)]), (fun k hk => by rw [f2497 16 (by omega), eσ2493, jup_k (by omega), eσ2492, jup_k (by omega), eσ2491, jup_k (by omega), f2479 16 (by omega), f2461 16 (by omega), f2407 16 (by omega), f2297 16 (by omega), f2171 16 (by omega), f32 16 (by omega), f11 16 (by omega)]), I2502, I2506, trivial⟩ hP hS dX7_readOrder_179
                    · obtain ⟨q2508, k2507⟩ := h2488
                      refine lv_istore (lv' := [(5, .int r2478), (4, .int r2460), (3, .int r2296), (2, .int x25), (0, .ref (ad 9)), (1, .ref (ad 16))]) hx hb dX7_readOrder_137 hl (by decide) rfl (fun ls hl => ?_)
                      refine lv_iload hx hb dX7_readOrder_139 (lv_at hl 0 rfl) ?_
                      refine lv_iconst (v := (-1)) hx hb dX7_readOrder_141 (by decide) ?_
                      refine lv_icmp_eq (tgt := 148) hx hb dX7_readOrder_142 (by decide) (fun c => absurd (jeq c rfl jz_m1) (by omega)) (fun c2509 => ?_)
                      have kc2509 := jne c2509 rfl jz_m1
                      refine lv_iload hx hb dX7_readOrder_145 (lv_at hl 0 rfl) ?_
                      have z2510 : (σ2477 16 0).toInt = (σ 16 0).toInt := by rw [(show σ2477 16 0 = (σ 16 0) from (by rw [f2479 16 (by omega)]; exact (by rw [f2461 16 (by omega)]; exact (by rw [f2407 16 (by omega)]; exact (by rw [f2297 16 (by omega)]; exact (by rw [f2171 16 (by omega)]; exact (by rw [f32 16 (by omega)]; exact (by rw [f11 16 (by omega)]))))))))]
                      have z2511 : (σ2477 16 1).toInt = (σ 16 1).toInt := by rw [(show σ2477 16 1 = (σ 16 1) from (by rw [f2479 16 (by omega)]; exact (by rw [f2461 16 (by omega)]; exact (by rw [f2407 16 (by omega)]; exact (by rw [f2297 16 (by omega)]; exact (by rw [f2171 16 (by omega)]; exact (by rw [f32 16 (by omega)]; exact (by rw [f11 16 (by omega)]))))))))]
                      have z2512 : (σ2477 16 2).toInt = (σ 16 2).toInt := by rw [(show σ2477 16 2 = (σ 16 2) from (by rw [f2479 16 (by omega)]; exact (by rw [f2461 16 (by omega)]; exact (by rw [f2407 16 (by omega)]; exact (by rw [f2297 16 (by omega)]; exact (by rw [f2171 16 (by omega)]; exact (by rw [f32 16 (by omega)]; exact (by rw [f11 16 (by omega)]))))))))]
                      have w2513 : ∀ k : Nat, k < 8 → 0 ≤ (σ2477 17 k).toInt ∧ (σ2477 17 k).toInt ≤ 3 := (by rw [f2479 17 (by omega)]; exact (by rw [f2461 17 (by omega)]; exact (by rw [f2407 17 (by omega)]; exact (by rw [f2297 17 (by omega)]; exact (by rw [f2171 17 (by omega)]; exact (by rw [f32 17 (by omega)]; exact (by rw [f11 17 (by omega)]; exact w7)))))))
                      have I2514 : jI16 σ2477 := ⟨(by omega), (by omega), (by omega), w2513⟩
                      exact hret r2478 σ2477 τ _ _ _ _ rfl ⟨rfl, (fun i hi => by rw [f2479 i (by omega), f2461 i (by omega), f2407 i (by omega), f2297 i (by omega), f2171 i (by omega), f32 i (by omega), f11 i (by omega)]), (fun k hk => by rw [f2480 k (by omega), f2462 k (by omega), f2408 k (by omega), f2298 k (by omega), f2172 k (by omega), f33 k (by omega), f12 k (by omega)]), (fun k hk => by rw [f2479 16 (by omega), f2461 16 (by omega), f2407 16 (by omega), f2297 16 (by omega), f2171 16 (by omega), f32 16 (by omega), f11 16 (by omega)]), I2481, I2514, trivial⟩ hP hS dX7_readOrder_147
                · have kc2404 := jnle c2404 rfl jz_12
                  refine lv_aload_n hx hb dX7_readOrder_111 rfl (lv_at hl 4 rfl) ?_
                  refine lv_iload hx hb dX7_readOrder_112 (lv_at hl 1 rfl) ?_
                  refine jcallVv (As := [.int (σ2169 9 1)]) (rest := []) ⟨hx, hb, hml, hown, hts⟩ hK hP hA hS hZ (c_X7_fail_9 l D cI cL ad zz hJ σ2295 τ (σ2169 9 1) ((σ2169 9 1).toInt) rfl I2301 (by omega)) cw_RX7_43 (jc_9 cI cL ad σ2295 τ) rfl ⟨Nat.le_of_ble_eq_true rfl, Nat.le_of_ble_eq_true rfl⟩ rfl rfl rfl hl.1 rfl (Nat.le_of_ble_eq_true rfl) dX7_readOrder_114 ⟨Nat.zero_le _, Nat.zero_le _⟩ (fun σ2515 τ2515 H locs h2515 hP hS => ?_)
                  obtain ⟨rfl, f2517, f2518, h2515⟩ := h2515
                  obtain ⟨k2519, h2515⟩ := h2515
                  refine lv_aload_n hx hb dX7_readOrder_117 rfl (lv_at hl 4 rfl) ?_
                  refine lv_bipush (v := 114) hx hb dX7_readOrder_118 (by decide) ?_
                  have z2520 : (σ2515 9 0).toInt = (σ 9 0).toInt := by rw [(show σ2515 9 0 = (σ 9 0) from (by rw [f2518 0 (by omega)]; exact (by rw [f2298 0 (by omega)]; exact (by rw [f2172 0 (by omega)]; exact (by rw [f33 0 (by omega)]; exact (by rw [f12 0 (by omega)]))))))]
                  have w2521 : ∀ k : Nat, k < 80 → 0 ≤ (σ2515 10 k).toInt ∧ (σ2515 10 k).toInt ≤ 255 := (by rw [f2517 10 (by omega)]; exact w2303)
                  have w2522 : ∀ k : Nat, k < 8 → 0 ≤ (σ2515 11 k).toInt ∧ (σ2515 11 k).toInt ≤ 3 := (by rw [f2517 11 (by omega)]; exact w2304)
                  have I2523 : jI9 σ2515 := ⟨(by omega), w2521, w2522⟩
                  have z2524 : (σ2515 9 1).toInt = (σ2295 9 1).toInt := by rw [(show σ2515 9 1 = (σ2295 9 1) from (by rw [f2518 1 (by omega)]))]
                  have I2525 : jI91 σ2515 := ⟨(by omega), (by omega)⟩
                  have I2526 : jI92 σ2515 := (show (-1) ≤ (σ2515 9 2).toInt by omega)
                  refine jcallV (As := [.int 114]) (rest := []) ⟨hx, hb, hml, hown, hts⟩ hK hP hA hS hZ (c_X7_skip_9 l D cI cL ad zz hJ σ2515 τ 114 (114) jz_114 I2523 I2525 I2526 (by omega)) cw_RX7_50 (jc_9 cI cL ad σ2515 τ) rfl ⟨Nat.le_of_ble_eq_true rfl, Nat.le_of_ble_eq_true rfl⟩ rfl rfl rfl hl.1 rfl (Nat.le_of_ble_eq_true rfl) dX7_readOrder_120 ⟨Nat.zero_le _, Nat.zero_le _⟩ (fun r2528 σ2527 τ2527 H locs h2527 hP hS => ?_)
                  obtain ⟨rfl, f2529, f2530, I2531, I2532, I2533, h2527⟩ := h2527
                  obtain ⟨i2534, w2535, w2536⟩ : (0 ≤ (σ2527 9 0).toInt ∧ (σ2527 9 0).toInt ≤ 80) ∧ (∀ k : Nat, k < 80 → 0 ≤ (σ2527 10 k).toInt ∧ (σ2527 10 k).toInt ≤ 255) ∧ (∀ k : Nat, k < 8 → 0 ≤ (σ2527 11 k).toInt ∧ (σ2527 11 k).toInt ≤ 3) := id I2531
                  obtain ⟨i2537, i2538⟩ : (0 ≤ (σ2527 9 1).toInt) ∧ ((σ2527 9 1).toInt ≤ (σ2527 9 0).toInt) := id I2532
                  have i2539 : (-1) ≤ (σ2527 9 2).toInt := I2533
                  have z2540 : (σ2527 9 0).toInt = (σ 9 0).toInt := by rw [(show σ2527 9 0 = (σ 9 0) from (by rw [f2530 0 (by omega)]; exact (by rw [f2518 0 (by omega)]; exact (by rw [f2298 0 (by omega)]; exact (by rw [f2172 0 (by omega)]; exact (by rw [f33 0 (by omega)]; exact (by rw [f12 0 (by omega)])))))))]
                  have z2541 : (σ2527 9 2).toInt = (σ2515 9 2).toInt := by rw [(show σ2527 9 2 = (σ2515 9 2) from (by rw [f2530 2 (by omega)]))]
                  refine lv_if_eq (tgt := 133) hx hb dX7_readOrder_123 (by decide) (fun c2542 => ?_) (fun c2542 => ?_)
                  · have kc2542 := jeq c2542 rfl jz_0
                    refine lv_aload_n hx hb dX7_readOrder_133 rfl (lv_at hl 4 rfl) ?_
                    refine jcallV (As := []) (rest := []) ⟨hx, hb, hml, hown, hts⟩ hK hP hA hS hZ (c_X7_end_9 l D cI cL ad zz hJ σ2527 τ I2531 I2532 I2533) cw_RX7_57 (jc_9 cI cL ad σ2527 τ) rfl ⟨Nat.le_of_ble_eq_true rfl, Nat.le_of_ble_eq_true rfl⟩ rfl rfl rfl hl.1 rfl (Nat.le_of_ble_eq_true rfl) dX7_readOrder_134 ⟨Nat.zero_le _, Nat.zero_le _⟩ (fun r2544 σ2543 τ2543 H locs h2543 hP hS => ?_)
                    obtain ⟨rfl, f2545, f2546, I2547, I2548, h2543⟩ := h2543
                    obtain ⟨i2549, w2550, w2551⟩ : (0 ≤ (σ2543 9 0).toInt ∧ (σ2543 9 0).toInt ≤ 80) ∧ (∀ k : Nat, k < 80 → 0 ≤ (σ2543 10 k).toInt ∧ (σ2543 10 k).toInt ≤ 255) ∧ (∀ k : Nat, k < 8 → 0 ≤ (σ2543 11 k).toInt ∧ (σ2543 11 k).toInt ≤ 3) := id I2547
                    have i2552 : (-1) ≤ (σ2543 9 2).toInt := I2548
                    rcases h2543 with h2553 | h2554
                    · obtain ⟨q2556, k2555⟩ := h2553
                      exact absurd (by omega : False) id
                    · obtain ⟨q2558, k2557⟩ := h2554
                      refine lv_istore (lv' := [(5, .int r2544), (3, .int r2296), (4, .int 0), (2, .int x25), (0, .ref (ad 9)), (1, .ref (ad 16))]) hx hb dX7_readOrder_137 hl (by decide) rfl (fun ls hl => ?_)
                      refine lv_iload hx hb dX7_readOrder_139 (lv_at hl 0 rfl) ?_
                      refine lv_iconst (v := (-1)) hx hb dX7_readOrder_141 (by decide) ?_
                      refine lv_icmp_eq (tgt := 148) hx hb dX7_readOrder_142 (by decide) (fun c => absurd (jeq c rfl jz_m1) (by omega)) (fun c2559 => ?_)
                      have kc2559 := jne c2559 rfl jz_m1
                      refine lv_iload hx hb dX7_readOrder_145 (lv_at hl 0 rfl) ?_
                      have z2560 : (σ2543 16 0).toInt = (σ 16 0).toInt := by rw [(show σ2543 16 0 = (σ 16 0) from (by rw [f2545 16 (by omega)]; exact (by rw [f2529 16 (by omega)]; exact (by rw [f2517 16 (by omega)]; exact (by rw [f2297 16 (by omega)]; exact (by rw [f2171 16 (by omega)]; exact (by rw [f32 16 (by omega)]; exact (by rw [f11 16 (by omega)]))))))))]
                      have z2561 : (σ2543 16 1).toInt = (σ 16 1).toInt := by rw [(show σ2543 16 1 = (σ 16 1) from (by rw [f2545 16 (by omega)]; exact (by rw [f2529 16 (by omega)]; exact (by rw [f2517 16 (by omega)]; exact (by rw [f2297 16 (by omega)]; exact (by rw [f2171 16 (by omega)]; exact (by rw [f32 16 (by omega)]; exact (by rw [f11 16 (by omega)]))))))))]
                      have z2562 : (σ2543 16 2).toInt = (σ 16 2).toInt := by rw [(show σ2543 16 2 = (σ 16 2) from (by rw [f2545 16 (by omega)]; exact (by rw [f2529 16 (by omega)]; exact (by rw [f2517 16 (by omega)]; exact (by rw [f2297 16 (by omega)]; exact (by rw [f2171 16 (by omega)]; exact (by rw [f32 16 (by omega)]; exact (by rw [f11 16 (by omega)]))))))))]
                      have w2563 : ∀ k : Nat, k < 8 → 0 ≤ (σ2543 17 k).toInt ∧ (σ2543 17 k).toInt ≤ 3 := (by rw [f2545 17 (by omega)]; exact (by rw [f2529 17 (by omega)]; exact (by rw [f2517 17 (by omega)]; exact (by rw [f2297 17 (by omega)]; exact (by rw [f2171 17 (by omega)]; exact (by rw [f32 17 (by omega)]; exact (by rw [f11 17 (by omega)]; exact w7)))))))
                      have I2564 : jI16 σ2543 := ⟨(by omega), (by omega), (by omega), w2563⟩
                      exact hret r2544 σ2543 τ _ _ _ _ rfl ⟨rfl, (fun i hi => by rw [f2545 i (by omega), f2529 i (by omega), f2517 i (by omega), f2297 i (by omega), f2171 i (by omega), f32 i (by omega), f11 i (by omega)]), (fun k hk => by rw [f2546 k (by omega), f2530 k (by omega), f2518 k (by omega), f2298 k (by omega), f2172 k (by omega), f33 k (by omega), f12 k (by omega)]), (fun k hk => by rw [f2545 16 (by omega), f2529 16 (by omega), f2517 16 (by omega), f2297 16 (by omega), f2171 16 (by omega), f32 16 (by omega), f11 16 (by omega)]), I2547, I2564, trivial⟩ hP hS dX7_readOrder_147
                  · have kc2542 := jne c2542 rfl jz_0
                    refine lv_aload_n hx hb dX7_readOrder_126 rfl (lv_at hl 4 rfl) ?_
                    refine lv_iconst (v := 3) hx hb dX7_readOrder_127 (by decide) ?_
                    refine jcallV (As := [.int 3]) (rest := []) ⟨hx, hb, hml, hown, hts⟩ hK hP hA hS hZ (c_X7_number_3 l D cI cL ad zz hJ σ2527 τ I2531 I2532 I2533) cw_RX7_53 (jc_9 cI cL ad σ2527 τ) rfl ⟨Nat.le_of_ble_eq_true rfl, Nat.le_of_ble_eq_true rfl⟩ rfl rfl rfl hl.1 rfl (Nat.le_of_ble_eq_true rfl) dX7_readOrder_128 ⟨Nat.zero_le _, Nat.zero_le _⟩ (fun r2566 σ2565 τ2565 H locs h2565 hP hS => ?_)
                    obtain ⟨rfl, f2567, f2568, I2569, I2570, I2571, h2565⟩ := h2565
                    obtain ⟨i2572, w2573, w2574⟩ : (0 ≤ (σ2565 9 0).toInt ∧ (σ2565 9 0).toInt ≤ 80) ∧ (∀ k : Nat, k < 80 → 0 ≤ (σ2565 10 k).toInt ∧ (σ2565 10 k).toInt ≤ 255) ∧ (∀ k : Nat, k < 8 → 0 ≤ (σ2565 11 k).toInt ∧ (σ2565 11 k).toInt ≤ 3) := id I2569
                    obtain ⟨i2575, i2576⟩ : (0 ≤ (σ2565 9 1).toInt) ∧ ((σ2565 9 1).toInt ≤ (σ2565 9 0).toInt) := id I2570
                    have i2577 : (-1) ≤ (σ2565 9 2).toInt := I2571
                    have z2578 : (σ2565 9 0).toInt = (σ 9 0).toInt := by rw [(show σ2565 9 0 = (σ 9 0) from (by rw [f2568 0 (by omega)]; exact (by rw [f2530 0 (by omega)]; exact (by rw [f2518 0 (by omega)]; exact (by rw [f2298 0 (by omega)]; exact (by rw [f2172 0 (by omega)]; exact (by rw [f33 0 (by omega)]; exact (by rw [f12 0 (by omega)]))))))))]
                    obtain ⟨k2579, h2565⟩ := h2565
                    have h2580 := h2565
                    obtain ⟨q2582, k2581⟩ := h2580
                    refine lv_istore (lv' := [(4, .int r2566), (3, .int r2296), (5, .int (σ2169 9 1)), (2, .int x25), (0, .ref (ad 9)), (1, .ref (ad 16))]) hx hb dX7_readOrder_131 hl (by decide) rfl (fun ls hl => ?_)
                    refine lv_aload_n hx hb dX7_readOrder_133 rfl (lv_at hl 4 rfl) ?_
                    refine jcallV (As := []) (rest := []) ⟨hx, hb, hml, hown, hts⟩ hK hP hA hS hZ (c_X7_end_9 l D cI cL ad zz hJ σ2565 τ I2569 I2570 I2571) cw_RX7_57 (jc_9 cI cL ad σ2565 τ) rfl ⟨Nat.le_of_ble_eq_true rfl, Nat.le_of_ble_eq_true rfl⟩ rfl rfl rfl hl.1 rfl (Nat.le_of_ble_eq_true rfl) dX7_readOrder_134 ⟨Nat.zero_le _, Nat.zero_le _⟩ (fun r2584 σ2583 τ2583 H locs h2583 hP hS => ?_)
                    obtain ⟨rfl, f2585, f2586, I2587, I2588, h2583⟩ := h2583
                    obtain ⟨i2589, w2590, w2591⟩ : (0 ≤ (σ2583 9 0).toInt ∧ (σ2583 9 0).toInt ≤ 80) ∧ (∀ k : Nat, k < 80 → 0 ≤ (σ2583 10 k).toInt ∧ (σ2583 10 k).toInt ≤ 255) ∧ (∀ k : Nat, k < 8 → 0 ≤ (σ2583 11 k).toInt ∧ (σ2583 11 k).toInt ≤ 3) := id I2587
                    have i2592 : (-1) ≤ (σ2583 9 2).toInt := I2588
                    rcases h2583 with h2593 | h2594
                    · obtain ⟨q2596, k2595⟩ := h2593
                      exact absurd (by omega : False) id
                    · obtain ⟨q2598, k2597⟩ := h2594
                      refine lv_istore (lv' := [(5, .int r2584), (4, .int r2566), (3, .int r2296), (2, .int x25), (0, .ref (ad 9)), (1, .ref (ad 16))]) hx hb dX7_readOrder_137 hl (by decide) rfl (fun ls hl => ?_)
                      refine lv_iload hx hb dX7_readOrder_139 (lv_at hl 0 rfl) ?_
                      refine lv_iconst (v := (-1)) hx hb dX7_readOrder_141 (by decide) ?_
                      refine lv_icmp_eq (tgt := 148) hx hb dX7_readOrder_142 (by decide) (fun c => absurd (jeq c rfl jz_m1) (by omega)) (fun c2599 => ?_)
                      have kc2599 := jne c2599 rfl jz_m1
                      refine lv_iload hx hb dX7_readOrder_145 (lv_at hl 0 rfl) ?_
                      have z2600 : (σ2583 16 0).toInt = (σ 16 0).toInt := by rw [(show σ2583 16 0 = (σ 16 0) from (by rw [f2585 16 (by omega)]; exact (by rw [f2567 16 (by omega)]; exact (by rw [f2529 16 (by omega)]; exact (by rw [f2517 16 (by omega)]; exact (by rw [f2297 16 (by omega)]; exact (by rw [f2171 16 (by omega)]; exact (by rw [f32 16 (by omega)]; exact (by rw [f11 16 (by omega)])))))))))]
                      have z2601 : (σ2583 16 1).toInt = (σ 16 1).toInt := by rw [(show σ2583 16 1 = (σ 16 1) from (by rw [f2585 16 (by omega)]; exact (by rw [f2567 16 (by omega)]; exact (by rw [f2529 16 (by omega)]; exact (by rw [f2517 16 (by omega)]; exact (by rw [f2297 16 (by omega)]; exact (by rw [f2171 16 (by omega)]; exact (by rw [f32 16 (by omega)]; exact (by rw [f11 16 (by omega)])))))))))]
                      have z2602 : (σ2583 16 2).toInt = (σ 16 2).toInt := by rw [(show σ2583 16 2 = (σ 16 2) from (by rw [f2585 16 (by omega)]; exact (by rw [f2567 16 (by omega)]; exact (by rw [f2529 16 (by omega)]; exact (by rw [f2517 16 (by omega)]; exact (by rw [f2297 16 (by omega)]; exact (by rw [f2171 16 (by omega)]; exact (by rw [f32 16 (by omega)]; exact (by rw [f11 16 (by omega)])))))))))]
                      have w2603 : ∀ k : Nat, k < 8 → 0 ≤ (σ2583 17 k).toInt ∧ (σ2583 17 k).toInt ≤ 3 := (by rw [f2585 17 (by omega)]; exact (by rw [f2567 17 (by omega)]; exact (by rw [f2529 17 (by omega)]; exact (by rw [f2517 17 (by omega)]; exact (by rw [f2297 17 (by omega)]; exact (by rw [f2171 17 (by omega)]; exact (by rw [f32 17 (by omega)]; exact (by rw [f11 17 (by omega)]; exact w7))))))))
                      have I2604 : jI16 σ2583 := ⟨(by omega), (by omega), (by omega), w2603⟩
                      exact hret r2584 σ2583 τ _ _ _ _ rfl ⟨rfl, (fun i hi => by rw [f2585 i (by omega), f2567 i (by omega), f2529 i (by omega), f2517 i (by omega), f2297 i (by omega), f2171 i (by omega), f32 i (by omega), f11 i (by omega)]), (fun k hk => by rw [f2586 k (by omega), f2568 k (by omega), f2530 k (by omega), f2518 k (by omega), f2298 k (by omega), f2172 k (by omega), f33 k (by omega), f12 k (by omega)]), (fun k hk => by rw [f2585 16 (by omega), f2567 16 (by omega), f2529 16 (by omega), f2517 16 (by omega), f2297 16 (by omega), f2171 16 (by omega), f32 16 (by omega), f11 16 (by omega)]), I2587, I2604, trivial⟩ hP hS dX7_readOrder_147
          · have kc2165 := jeq c2165 rfl jz_0
            refine lv_aload_n hx hb dX7_readOrder_71 rfl (lv_at hl 3 rfl) ?_
            refine lv_aload_n hx hb dX7_readOrder_72 rfl (lv_at hl 3 rfl) ?_
            refine va_get (D := D) hx hb hts inlX7 hown hK hP 9 (jc_9 cI cL ad σ26 τ) rfl 1 (by decide) (hts _ kw_13_17) (fun _ h9 => h9) rfl dX7_readOrder_73 ?_
            have z2605 : (σ26 9 2).toInt = (σ9 9 2).toInt := by rw [(show σ26 9 2 = (σ9 9 2) from (by rw [f33 2 (by omega)]))]
            have I2606 : jI92 σ26 := (show (-1) ≤ (σ26 9 2).toInt by omega)
            refine jcallVv (As := [.int (σ26 9 1)]) (rest := []) ⟨hx, hb, hml, hown, hts⟩ hK hP hA hS hZ (c_X7_fail_9 l D cI cL ad zz hJ σ26 τ (σ26 9 1) ((σ26 9 1).toInt) rfl I2606 (by omega)) cw_RX7_43 (jc_9 cI cL ad σ26 τ) rfl ⟨Nat.le_of_ble_eq_true rfl, Nat.le_of_ble_eq_true rfl⟩ rfl rfl rfl hl.1 rfl (Nat.le_of_ble_eq_true rfl) dX7_readOrder_76 ⟨Nat.zero_le _, Nat.zero_le _⟩ (fun σ2607 τ2607 H locs h2607 hP hS => ?_)
            obtain ⟨rfl, f2609, f2610, h2607⟩ := h2607
            obtain ⟨k2611, h2607⟩ := h2607
            refine lv_aload_n hx hb dX7_readOrder_79 rfl (lv_at hl 3 rfl) ?_
            refine lv_bipush (v := 58) hx hb dX7_readOrder_80 (by decide) ?_
            have z2612 : (σ2607 9 0).toInt = (σ 9 0).toInt := by rw [(show σ2607 9 0 = (σ 9 0) from (by rw [f2610 0 (by omega)]; exact (by rw [f33 0 (by omega)]; exact (by rw [f12 0 (by omega)]))))]
            have w2613 : ∀ k : Nat, k < 80 → 0 ≤ (σ2607 10 k).toInt ∧ (σ2607 10 k).toInt ≤ 255 := (by rw [f2609 10 (by omega)]; exact w479)
            have w2614 : ∀ k : Nat, k < 8 → 0 ≤ (σ2607 11 k).toInt ∧ (σ2607 11 k).toInt ≤ 3 := (by rw [f2609 11 (by omega)]; exact w34)
            have I2615 : jI9 σ2607 := ⟨(by omega), w2613, w2614⟩
            have z2616 : (σ2607 9 1).toInt = (σ26 9 1).toInt := by rw [(show σ2607 9 1 = (σ26 9 1) from (by rw [f2610 1 (by omega)]))]
            have I2617 : jI91 σ2607 := ⟨(by omega), (by omega)⟩
            have I2618 : jI92 σ2607 := (show (-1) ≤ (σ2607 9 2).toInt by omega)
            refine jcallV (As := [.int 58]) (rest := []) ⟨hx, hb, hml, hown, hts⟩ hK hP hA hS hZ (c_X7_skip_9 l D cI cL ad zz hJ σ2607 τ 58 (58) jz_58 I2615 I2617 I2618 (by omega)) cw_RX7_50 (jc_9 cI cL ad σ2607 τ) rfl ⟨Nat.le_of_ble_eq_true rfl, Nat.le_of_ble_eq_true rfl⟩ rfl rfl rfl hl.1 rfl (Nat.le_of_ble_eq_true rfl) dX7_readOrder_82 ⟨Nat.zero_le _, Nat.zero_le _⟩ (fun r2620 σ2619 τ2619 H locs h2619 hP hS => ?_)
            obtain ⟨rfl, f2621, f2622, I2623, I2624, I2625, h2619⟩ := h2619
            obtain ⟨i2626, w2627, w2628⟩ : (0 ≤ (σ2619 9 0).toInt ∧ (σ2619 9 0).toInt ≤ 80) ∧ (∀ k : Nat, k < 80 → 0 ≤ (σ2619 10 k).toInt ∧ (σ2619 10 k).toInt ≤ 255) ∧ (∀ k : Nat, k < 8 → 0 ≤ (σ2619 11 k).toInt ∧ (σ2619 11 k).toInt ≤ 3) := id I2623
            obtain ⟨i2629, i2630⟩ : (0 ≤ (σ2619 9 1).toInt) ∧ ((σ2619 9 1).toInt ≤ (σ2619 9 0).toInt) := id I2624
            have i2631 : (-1) ≤ (σ2619 9 2).toInt := I2625
            have z2632 : (σ2619 9 0).toInt = (σ 9 0).toInt := by rw [(show σ2619 9 0 = (σ 9 0) from (by rw [f2622 0 (by omega)]; exact (by rw [f2610 0 (by omega)]; exact (by rw [f33 0 (by omega)]; exact (by rw [f12 0 (by omega)])))))]
            have z2633 : (σ2619 9 2).toInt = (σ2607 9 2).toInt := by rw [(show σ2619 9 2 = (σ2607 9 2) from (by rw [f2622 2 (by omega)]))]
            refine lv_if_eq (tgt := 117) hx hb dX7_readOrder_85 (by decide) (fun c2634 => ?_) (fun c2634 => ?_)
            · have kc2634 := jeq c2634 rfl jz_0
              refine lv_aload_n hx hb dX7_readOrder_117 rfl (lv_at hl 3 rfl) ?_
              refine lv_bipush (v := 114) hx hb dX7_readOrder_118 (by decide) ?_
              refine jcallV (As := [.int 114]) (rest := []) ⟨hx, hb, hml, hown, hts⟩ hK hP hA hS hZ (c_X7_skip_9 l D cI cL ad zz hJ σ2619 τ 114 (114) jz_114 I2623 I2624 I2625 (by omega)) cw_RX7_50 (jc_9 cI cL ad σ2619 τ) rfl ⟨Nat.le_of_ble_eq_true rfl, Nat.le_of_ble_eq_true rfl⟩ rfl rfl rfl hl.1 rfl (Nat.le_of_ble_eq_true rfl) dX7_readOrder_120 ⟨Nat.zero_le _, Nat.zero_le _⟩ (fun r2636 σ2635 τ2635 H locs h2635 hP hS => ?_)
              obtain ⟨rfl, f2637, f2638, I2639, I2640, I2641, h2635⟩ := h2635
              obtain ⟨i2642, w2643, w2644⟩ : (0 ≤ (σ2635 9 0).toInt ∧ (σ2635 9 0).toInt ≤ 80) ∧ (∀ k : Nat, k < 80 → 0 ≤ (σ2635 10 k).toInt ∧ (σ2635 10 k).toInt ≤ 255) ∧ (∀ k : Nat, k < 8 → 0 ≤ (σ2635 11 k).toInt ∧ (σ2635 11 k).toInt ≤ 3) := id I2639
              obtain ⟨i2645, i2646⟩ : (0 ≤ (σ2635 9 1).toInt) ∧ ((σ2635 9 1).toInt ≤ (σ2635 9 0).toInt) := id I2640
              have i2647 : (-1) ≤ (σ2635 9 2).toInt := I2641
              have z2648 : (σ2635 9 0).toInt = (σ 9 0).toInt := by rw [(show σ2635 9 0 = (σ 9 0) from (by rw [f2638 0 (by omega)]; exact (by rw [f2622 0 (by omega)]; exact (by rw [f2610 0 (by omega)]; exact (by rw [f33 0 (by omega)]; exact (by rw [f12 0 (by omega)]))))))]
              have z2649 : (σ2635 9 2).toInt = (σ2607 9 2).toInt := by rw [(show σ2635 9 2 = (σ2607 9 2) from (by rw [f2638 2 (by omega)]; exact (by rw [f2622 2 (by omega)])))]
              refine lv_if_eq (tgt := 133) hx hb dX7_readOrder_123 (by decide) (fun c2650 => ?_) (fun c2650 => ?_)
              · have kc2650 := jeq c2650 rfl jz_0
                refine lv_aload_n hx hb dX7_readOrder_133 rfl (lv_at hl 3 rfl) ?_
                refine jcallV (As := []) (rest := []) ⟨hx, hb, hml, hown, hts⟩ hK hP hA hS hZ (c_X7_end_9 l D cI cL ad zz hJ σ2635 τ I2639 I2640 I2641) cw_RX7_57 (jc_9 cI cL ad σ2635 τ) rfl ⟨Nat.le_of_ble_eq_true rfl, Nat.le_of_ble_eq_true rfl⟩ rfl rfl rfl hl.1 rfl (Nat.le_of_ble_eq_true rfl) dX7_readOrder_134 ⟨Nat.zero_le _, Nat.zero_le _⟩ (fun r2652 σ2651 τ2651 H locs h2651 hP hS => ?_)
                obtain ⟨rfl, f2653, f2654, I2655, I2656, h2651⟩ := h2651
                obtain ⟨i2657, w2658, w2659⟩ : (0 ≤ (σ2651 9 0).toInt ∧ (σ2651 9 0).toInt ≤ 80) ∧ (∀ k : Nat, k < 80 → 0 ≤ (σ2651 10 k).toInt ∧ (σ2651 10 k).toInt ≤ 255) ∧ (∀ k : Nat, k < 8 → 0 ≤ (σ2651 11 k).toInt ∧ (σ2651 11 k).toInt ≤ 3) := id I2655
                have i2660 : (-1) ≤ (σ2651 9 2).toInt := I2656
                rcases h2651 with h2661 | h2662
                · obtain ⟨q2664, k2663⟩ := h2661
                  exact absurd (by omega : False) id
                · obtain ⟨q2666, k2665⟩ := h2662
                  refine lv_istore (lv' := [(5, .int r2652), (4, .int 0), (3, .int 8), (2, .int x25), (0, .ref (ad 9)), (1, .ref (ad 16))]) hx hb dX7_readOrder_137 hl (by decide) rfl (fun ls hl => ?_)
                  refine lv_iload hx hb dX7_readOrder_139 (lv_at hl 0 rfl) ?_
                  refine lv_iconst (v := (-1)) hx hb dX7_readOrder_141 (by decide) ?_
                  refine lv_icmp_eq (tgt := 148) hx hb dX7_readOrder_142 (by decide) (fun c => absurd (jeq c rfl jz_m1) (by omega)) (fun c2667 => ?_)
                  have kc2667 := jne c2667 rfl jz_m1
                  refine lv_iload hx hb dX7_readOrder_145 (lv_at hl 0 rfl) ?_
                  have z2668 : (σ2651 16 0).toInt = (σ 16 0).toInt := by rw [(show σ2651 16 0 = (σ 16 0) from (by rw [f2653 16 (by omega)]; exact (by rw [f2637 16 (by omega)]; exact (by rw [f2621 16 (by omega)]; exact (by rw [f2609 16 (by omega)]; exact (by rw [f32 16 (by omega)]; exact (by rw [f11 16 (by omega)])))))))]
                  have z2669 : (σ2651 16 1).toInt = (σ 16 1).toInt := by rw [(show σ2651 16 1 = (σ 16 1) from (by rw [f2653 16 (by omega)]; exact (by rw [f2637 16 (by omega)]; exact (by rw [f2621 16 (by omega)]; exact (by rw [f2609 16 (by omega)]; exact (by rw [f32 16 (by omega)]; exact (by rw [f11 16 (by omega)])))))))]
                  have z2670 : (σ2651 16 2).toInt = (σ 16 2).toInt := by rw [(show σ2651 16 2 = (σ 16 2) from (by rw [f2653 16 (by omega)]; exact (by rw [f2637 16 (by omega)]; exact (by rw [f2621 16 (by omega)]; exact (by rw [f2609 16 (by omega)]; exact (by rw [f32 16 (by omega)]; exact (by rw [f11 16 (by omega)])))))))]
                  have w2671 : ∀ k : Nat, k < 8 → 0 ≤ (σ2651 17 k).toInt ∧ (σ2651 17 k).toInt ≤ 3 := (by rw [f2653 17 (by omega)]; exact (by rw [f2637 17 (by omega)]; exact (by rw [f2621 17 (by omega)]; exact (by rw [f2609 17 (by omega)]; exact (by rw [f32 17 (by omega)]; exact (by rw [f11 17 (by omega)]; exact w7))))))
                  have I2672 : jI16 σ2651 := ⟨(by omega), (by omega), (by omega), w2671⟩
                  exact hret r2652 σ2651 τ _ _ _ _ rfl ⟨rfl, (fun i hi => by rw [f2653 i (by omega), f2637 i (by omega), f2621 i (by omega), f2609 i (by omega), f32 i (by omega), f11 i (by omega)]), (fun k hk => by rw [f2654 k (by omega), f2638 k (by omega), f2622 k (by omega), f2610 k (by omega), f33 k (by omega), f12 k (by omega)]), (fun k hk => by rw [f2653 16 (by omega), f2637 16 (by omega), f2621 16 (by omega), f2609 16 (by omega), f32 16 (by omega), f11 16 (by omega)]), I2655, I2672, trivial⟩ hP hS dX7_readOrder_147
              · have kc2650 := jne c2650 rfl jz_0
                refine lv_aload_n hx hb dX7_readOrder_126 rfl (lv_at hl 3 rfl) ?_
                refine lv_iconst (v := 3) hx hb dX7_readOrder_127 (by decide) ?_
                refine jcallV (As := [.int 3]) (rest := []) ⟨hx, hb, hml, hown, hts⟩ hK hP hA hS hZ (c_X7_number_3 l D cI cL ad zz hJ σ2635 τ I2639 I2640 I2641) cw_RX7_53 (jc_9 cI cL ad σ2635 τ) rfl ⟨Nat.le_of_ble_eq_true rfl, Nat.le_of_ble_eq_true rfl⟩ rfl rfl rfl hl.1 rfl (Nat.le_of_ble_eq_true rfl) dX7_readOrder_128 ⟨Nat.zero_le _, Nat.zero_le _⟩ (fun r2674 σ2673 τ2673 H locs h2673 hP hS => ?_)
                obtain ⟨rfl, f2675, f2676, I2677, I2678, I2679, h2673⟩ := h2673
                obtain ⟨i2680, w2681, w2682⟩ : (0 ≤ (σ2673 9 0).toInt ∧ (σ2673 9 0).toInt ≤ 80) ∧ (∀ k : Nat, k < 80 → 0 ≤ (σ2673 10 k).toInt ∧ (σ2673 10 k).toInt ≤ 255) ∧ (∀ k : Nat, k < 8 → 0 ≤ (σ2673 11 k).toInt ∧ (σ2673 11 k).toInt ≤ 3) := id I2677
                obtain ⟨i2683, i2684⟩ : (0 ≤ (σ2673 9 1).toInt) ∧ ((σ2673 9 1).toInt ≤ (σ2673 9 0).toInt) := id I2678
                have i2685 : (-1) ≤ (σ2673 9 2).toInt := I2679
                have z2686 : (σ2673 9 0).toInt = (σ 9 0).toInt := by rw [(show σ2673 9 0 = (σ 9 0) from (by rw [f2676 0 (by omega)]; exact (by rw [f2638 0 (by omega)]; exact (by rw [f2622 0 (by omega)]; exact (by rw [f2610 0 (by omega)]; exact (by rw [f33 0 (by omega)]; exact (by rw [f12 0 (by omega)])))))))]
                obtain ⟨k2687, h2673⟩ := h2673
                have h2688 := h2673
                obtain ⟨q2690, k2689⟩ := h2688
                refine lv_istore (lv' := [(4, .int r2674), (3, .int 8), (2, .int x25), (0, .ref (ad 9)), (1, .ref (ad 16))]) hx hb dX7_readOrder_131 hl (by decide) rfl (fun ls hl => ?_)
                refine lv_aload_n hx hb dX7_readOrder_133 rfl (lv_at hl 3 rfl) ?_
                refine jcallV (As := []) (rest := []) ⟨hx, hb, hml, hown, hts⟩ hK hP hA hS hZ (c_X7_end_9 l D cI cL ad zz hJ σ2673 τ I2677 I2678 I2679) cw_RX7_57 (jc_9 cI cL ad σ2673 τ) rfl ⟨Nat.le_of_ble_eq_true rfl, Nat.le_of_ble_eq_true rfl⟩ rfl rfl rfl hl.1 rfl (Nat.le_of_ble_eq_true rfl) dX7_readOrder_134 ⟨Nat.zero_le _, Nat.zero_le _⟩ (fun r2692 σ2691 τ2691 H locs h2691 hP hS => ?_)
                obtain ⟨rfl, f2693, f2694, I2695, I2696, h2691⟩ := h2691
                obtain ⟨i2697, w2698, w2699⟩ : (0 ≤ (σ2691 9 0).toInt ∧ (σ2691 9 0).toInt ≤ 80) ∧ (∀ k : Nat, k < 80 → 0 ≤ (σ2691 10 k).toInt ∧ (σ2691 10 k).toInt ≤ 255) ∧ (∀ k : Nat, k < 8 → 0 ≤ (σ2691 11 k).toInt ∧ (σ2691 11 k).toInt ≤ 3) := id I2695
                have i2700 : (-1) ≤ (σ2691 9 2).toInt := I2696
                rcases h2691 with h2701 | h2702
                · obtain ⟨q2704, k2703⟩ := h2701
                  exact absurd (by omega : False) id
                · obtain ⟨q2706, k2705⟩ := h2702
                  refine lv_istore (lv' := [(5, .int r2692), (4, .int r2674), (3, .int 8), (2, .int x25), (0, .ref (ad 9)), (1, .ref (ad 16))]) hx hb dX7_readOrder_137 hl (by decide) rfl (fun ls hl => ?_)
                  refine lv_iload hx hb dX7_readOrder_139 (lv_at hl 0 rfl) ?_
                  refine lv_iconst (v := (-1)) hx hb dX7_readOrder_141 (by decide) ?_
                  refine lv_icmp_eq (tgt := 148) hx hb dX7_readOrder_142 (by decide) (fun c => absurd (jeq c rfl jz_m1) (by omega)) (fun c2707 => ?_)
                  have kc2707 := jne c2707 rfl jz_m1
                  refine lv_iload hx hb dX7_readOrder_145 (lv_at hl 0 rfl) ?_
                  have z2708 : (σ2691 16 0).toInt = (σ 16 0).toInt := by rw [(show σ2691 16 0 = (σ 16 0) from (by rw [f2693 16 (by omega)]; exact (by rw [f2675 16 (by omega)]; exact (by rw [f2637 16 (by omega)]; exact (by rw [f2621 16 (by omega)]; exact (by rw [f2609 16 (by omega)]; exact (by rw [f32 16 (by omega)]; exact (by rw [f11 16 (by omega)]))))))))]
                  have z2709 : (σ2691 16 1).toInt = (σ 16 1).toInt := by rw [(show σ2691 16 1 = (σ 16 1) from (by rw [f2693 16 (by omega)]; exact (by rw [f2675 16 (by omega)]; exact (by rw [f2637 16 (by omega)]; exact (by rw [f2621 16 (by omega)]; exact (by rw [f2609 16 (by omega)]; exact (by rw [f32 16 (by omega)]; exact (by rw [f11 16 (by omega)]))))))))]
                  have z2710 : (σ2691 16 2).toInt = (σ 16 2).toInt := by rw [(show σ2691 16 2 = (σ 16 2) from (by rw [f2693 16 (by omega)]; exact (by rw [f2675 16 (by omega)]; exact (by rw [f2637 16 (by omega)]; exact (by rw [f2621 16 (by omega)]; exact (by rw [f2609 16 (by omega)]; exact (by rw [f32 16 (by omega)]; exact (by rw [f11 16 (by omega)]))))))))]
                  have w2711 : ∀ k : Nat, k < 8 → 0 ≤ (σ2691 17 k).toInt ∧ (σ2691 17 k).toInt ≤ 3 := (by rw [f2693 17 (by omega)]; exact (by rw [f2675 17 (by omega)]; exact (by rw [f2637 17 (by omega)]; exact (by rw [f2621 17 (by omega)]; exact (by rw [f2609 17 (by omega)]; exact (by rw [f32 17 (by omega)]; exact (by rw [f11 17 (by omega)]; exact w7)))))))
                  have I2712 : jI16 σ2691 := ⟨(by omega), (by omega), (by omega), w2711⟩
                  exact hret r2692 σ2691 τ _ _ _ _ rfl ⟨rfl, (fun i hi => by rw [f2693 i (by omega), f2675 i (by omega), f2637 i (by omega), f2621 i (by omega), f2609 i (by omega), f32 i (by omega), f11 i (by omega)]), (fun k hk => by rw [f2694 k (by omega), f2676 k (by omega), f2638 k (by omega), f2622 k (by omega), f2610 k (by omega), f33 k (by omega), f12 k (by omega)]), (fun k hk => by rw [f2693 16 (by omega), f2675 16 (by omega), f2637 16 (by omega), f2621 16 (by omega), f2609 16 (by omega), f32 16 (by omega), f11 16 (by omega)]), I2695, I2712, trivial⟩ hP hS dX7_readOrder_147
            · have kc2634 := jne c2634 rfl jz_0
              refine lv_aload_n hx hb dX7_readOrder_88 rfl (lv_at hl 3 rfl) ?_
              refine va_get (D := D) hx hb hts inlX7 hown hK hP 9 (jc_9 cI cL ad σ2619 τ) rfl 1 (by decide) (hts _ kw_13_17) (fun _ h9 => h9) rfl dX7_readOrder_89 ?_
              refine lv_istore (lv' := [(5, .int (σ2619 9 1)), (4, .int 0), (3, .int 8), (2, .int x25), (0, .ref (ad 9)), (1, .ref (ad 16))]) hx hb dX7_readOrder_92 hl (by decide) rfl (fun ls hl => ?_)
              refine lv_aload_n hx hb dX7_readOrder_94 rfl (lv_at hl 4 rfl) ?_
              refine lv_iconst (v := 2) hx hb dX7_readOrder_95 (by decide) ?_
              refine jcallV (As := [.int 2]) (rest := []) ⟨hx, hb, hml, hown, hts⟩ hK hP hA hS hZ (c_X7_number_2 l D cI cL ad zz hJ σ2619 τ I2623 I2624 I2625) cw_RX7_53 (jc_9 cI cL ad σ2619 τ) rfl ⟨Nat.le_of_ble_eq_true rfl, Nat.le_of_ble_eq_true rfl⟩ rfl rfl rfl hl.1 rfl (Nat.le_of_ble_eq_true rfl) dX7_readOrder_96 ⟨Nat.zero_le _, Nat.zero_le _⟩ (fun r2714 σ2713 τ2713 H locs h2713 hP hS => ?_)
              obtain ⟨rfl, f2715, f2716, I2717, I2718, I2719, h2713⟩ := h2713
              obtain ⟨i2720, w2721, w2722⟩ : (0 ≤ (σ2713 9 0).toInt ∧ (σ2713 9 0).toInt ≤ 80) ∧ (∀ k : Nat, k < 80 → 0 ≤ (σ2713 10 k).toInt ∧ (σ2713 10 k).toInt ≤ 255) ∧ (∀ k : Nat, k < 8 → 0 ≤ (σ2713 11 k).toInt ∧ (σ2713 11 k).toInt ≤ 3) := id I2717
              obtain ⟨i2723, i2724⟩ : (0 ≤ (σ2713 9 1).toInt) ∧ ((σ2713 9 1).toInt ≤ (σ2713 9 0).toInt) := id I2718
              have i2725 : (-1) ≤ (σ2713 9 2).toInt := I2719
              have z2726 : (σ2713 9 0).toInt = (σ 9 0).toInt := by rw [(show σ2713 9 0 = (σ 9 0) from (by rw [f2716 0 (by omega)]; exact (by rw [f2622 0 (by omega)]; exact (by rw [f2610 0 (by omega)]; exact (by rw [f33 0 (by omega)]; exact (by rw [f12 0 (by omega)]))))))]
              obtain ⟨k2727, h2713⟩ := h2713
              have h2728 := h2713
              obtain ⟨q2730, k2729⟩ := h2728
              refine lv_istore_n (lv' := [(3, .int r2714), (5, .int (σ2619 9 1)), (4, .int 0), (2, .int x25), (0, .ref (ad 9)), (1, .ref (ad 16))]) hx hb dX7_readOrder_99 rfl hl (by decide) rfl (fun ls hl => ?_)
              refine lv_iload_n hx hb dX7_readOrder_100 rfl (lv_at hl 0 rfl) ?_
              refine lv_iconst (v := 1) hx hb dX7_readOrder_101 (by decide) ?_
              refine lv_icmp_lt (tgt := 111) hx hb dX7_readOrder_102 (by decide) (fun c2731 => ?_) (fun c2731 => ?_)
              · have kc2731 := jlt c2731 rfl jz_1
                refine lv_aload_n hx hb dX7_readOrder_111 rfl (lv_at hl 4 rfl) ?_
                refine lv_iload hx hb dX7_readOrder_112 (lv_at hl 1 rfl) ?_
                refine jcallVv (As := [.int (σ2619 9 1)]) (rest := []) ⟨hx, hb, hml, hown, hts⟩ hK hP hA hS hZ (c_X7_fail_9 l D cI cL ad zz hJ σ2713 τ (σ2619 9 1) ((σ2619 9 1).toInt) rfl I2719 (by omega)) cw_RX7_43 (jc_9 cI cL ad σ2713 τ) rfl ⟨Nat.le_of_ble_eq_true rfl, Nat.le_of_ble_eq_true rfl⟩ rfl rfl rfl hl.1 rfl (Nat.le_of_ble_eq_true rfl) dX7_readOrder_114 ⟨Nat.zero_le _, Nat.zero_le _⟩ (fun σ2732 τ2732 H locs h2732 hP hS => ?_)
                obtain ⟨rfl, f2734, f2735, h2732⟩ := h2732
                obtain ⟨k2736, h2732⟩ := h2732
                refine lv_aload_n hx hb dX7_readOrder_117 rfl (lv_at hl 4 rfl) ?_
                refine lv_bipush (v := 114) hx hb dX7_readOrder_118 (by decide) ?_
                have z2737 : (σ2732 9 0).toInt = (σ 9 0).toInt := by rw [(show σ2732 9 0 = (σ 9 0) from (by rw [f2735 0 (by omega)]; exact (by rw [f2716 0 (by omega)]; exact (by rw [f2622 0 (by omega)]; exact (by rw [f2610 0 (by omega)]; exact (by rw [f33 0 (by omega)]; exact (by rw [f12 0 (by omega)])))))))]
                have w2738 : ∀ k : Nat, k < 80 → 0 ≤ (σ2732 10 k).toInt ∧ (σ2732 10 k).toInt ≤ 255 := (by rw [f2734 10 (by omega)]; exact w2721)
                have w2739 : ∀ k : Nat, k < 8 → 0 ≤ (σ2732 11 k).toInt ∧ (σ2732 11 k).toInt ≤ 3 := (by rw [f2734 11 (by omega)]; exact w2722)
                have I2740 : jI9 σ2732 := ⟨(by omega), w2738, w2739⟩
                have z2741 : (σ2732 9 1).toInt = (σ2713 9 1).toInt := by rw [(show σ2732 9 1 = (σ2713 9 1) from (by rw [f2735 1 (by omega)]))]
                have I2742 : jI91 σ2732 := ⟨(by omega), (by omega)⟩
                have I2743 : jI92 σ2732 := (show (-1) ≤ (σ2732 9 2).toInt by omega)
                refine jcallV (As := [.int 114]) (rest := []) ⟨hx, hb, hml, hown, hts⟩ hK hP hA hS hZ (c_X7_skip_9 l D cI cL ad zz hJ σ2732 τ 114 (114) jz_114 I2740 I2742 I2743 (by omega)) cw_RX7_50 (jc_9 cI cL ad σ2732 τ) rfl ⟨Nat.le_of_ble_eq_true rfl, Nat.le_of_ble_eq_true rfl⟩ rfl rfl rfl hl.1 rfl (Nat.le_of_ble_eq_true rfl) dX7_readOrder_120 ⟨Nat.zero_le _, Nat.zero_le _⟩ (fun r2745 σ2744 τ2744 H locs h2744 hP hS => ?_)
                obtain ⟨rfl, f2746, f2747, I2748, I2749, I2750, h2744⟩ := h2744
                obtain ⟨i2751, w2752, w2753⟩ : (0 ≤ (σ2744 9 0).toInt ∧ (σ2744 9 0).toInt ≤ 80) ∧ (∀ k : Nat, k < 80 → 0 ≤ (σ2744 10 k).toInt ∧ (σ2744 10 k).toInt ≤ 255) ∧ (∀ k : Nat, k < 8 → 0 ≤ (σ2744 11 k).toInt ∧ (σ2744 11 k).toInt ≤ 3) := id I2748
                obtain ⟨i2754, i2755⟩ : (0 ≤ (σ2744 9 1).toInt) ∧ ((σ2744 9 1).toInt ≤ (σ2744 9 0).toInt) := id I2749
                have i2756 : (-1) ≤ (σ2744 9 2).toInt := I2750
                have z2757 : (σ2744 9 0).toInt = (σ 9 0).toInt := by rw [(show σ2744 9 0 = (σ 9 0) from (by rw [f2747 0 (by omega)]; exact (by rw [f2735 0 (by omega)]; exact (by rw [f2716 0 (by omega)]; exact (by rw [f2622 0 (by omega)]; exact (by rw [f2610 0 (by omega)]; exact (by rw [f33 0 (by omega)]; exact (by rw [f12 0 (by omega)]))))))))]
                have z2758 : (σ2744 9 2).toInt = (σ2732 9 2).toInt := by rw [(show σ2744 9 2 = (σ2732 9 2) from (by rw [f2747 2 (by omega)]))]
                refine lv_if_eq (tgt := 133) hx hb dX7_readOrder_123 (by decide) (fun c2759 => ?_) (fun c2759 => ?_)
                · have kc2759 := jeq c2759 rfl jz_0
                  refine lv_aload_n hx hb dX7_readOrder_133 rfl (lv_at hl 4 rfl) ?_
                  refine jcallV (As := []) (rest := []) ⟨hx, hb, hml, hown, hts⟩ hK hP hA hS hZ (c_X7_end_9 l D cI cL ad zz hJ σ2744 τ I2748 I2749 I2750) cw_RX7_57 (jc_9 cI cL ad σ2744 τ) rfl ⟨Nat.le_of_ble_eq_true rfl, Nat.le_of_ble_eq_true rfl⟩ rfl rfl rfl hl.1 rfl (Nat.le_of_ble_eq_true rfl) dX7_readOrder_134 ⟨Nat.zero_le _, Nat.zero_le _⟩ (fun r2761 σ2760 τ2760 H locs h2760 hP hS => ?_)
                  obtain ⟨rfl, f2762, f2763, I2764, I2765, h2760⟩ := h2760
                  obtain ⟨i2766, w2767, w2768⟩ : (0 ≤ (σ2760 9 0).toInt ∧ (σ2760 9 0).toInt ≤ 80) ∧ (∀ k : Nat, k < 80 → 0 ≤ (σ2760 10 k).toInt ∧ (σ2760 10 k).toInt ≤ 255) ∧ (∀ k : Nat, k < 8 → 0 ≤ (σ2760 11 k).toInt ∧ (σ2760 11 k).toInt ≤ 3) := id I2764
                  have i2769 : (-1) ≤ (σ2760 9 2).toInt := I2765
                  rcases h2760 with h2770 | h2771
                  · obtain ⟨q2773, k2772⟩ := h2770
                    exact absurd (by omega : False) id
                  · obtain ⟨q2775, k2774⟩ := h2771
                    refine lv_istore (lv' := [(5, .int r2761), (3, .int r2714), (4, .int 0), (2, .int x25), (0, .ref (ad 9)), (1, .ref (ad 16))]) hx hb dX7_readOrder_137 hl (by decide) rfl (fun ls hl => ?_)
                    refine lv_iload hx hb dX7_readOrder_139 (lv_at hl 0 rfl) ?_
                    refine lv_iconst (v := (-1)) hx hb dX7_readOrder_141 (by decide) ?_
                    refine lv_icmp_eq (tgt := 148) hx hb dX7_readOrder_142 (by decide) (fun c => absurd (jeq c rfl jz_m1) (by omega)) (fun c2776 => ?_)
                    have kc2776 := jne c2776 rfl jz_m1
                    refine lv_iload hx hb dX7_readOrder_145 (lv_at hl 0 rfl) ?_
                    have z2777 : (σ2760 16 0).toInt = (σ 16 0).toInt := by rw [(show σ2760 16 0 = (σ 16 0) from (by rw [f2762 16 (by omega)]; exact (by rw [f2746 16 (by omega)]; exact (by rw [f2734 16 (by omega)]; exact (by rw [f2715 16 (by omega)]; exact (by rw [f2621 16 (by omega)]; exact (by rw [f2609 16 (by omega)]; exact (by rw [f32 16 (by omega)]; exact (by rw [f11 16 (by omega)])))))))))]
                    have z2778 : (σ2760 16 1).toInt = (σ 16 1).toInt := by rw [(show σ2760 16 1 = (σ 16 1) from (by rw [f2762 16 (by omega)]; exact (by rw [f2746 16 (by omega)]; exact (by rw [f2734 16 (by omega)]; exact (by rw [f2715 16 (by omega)]; exact (by rw [f2621 16 (by omega)]; exact (by rw [f2609 16 (by omega)]; exact (by rw [f32 16 (by omega)]; exact (by rw [f11 16 (by omega)])))))))))]
                    have z2779 : (σ2760 16 2).toInt = (σ 16 2).toInt := by rw [(show σ2760 16 2 = (σ 16 2) from (by rw [f2762 16 (by omega)]; exact (by rw [f2746 16 (by omega)]; exact (by rw [f2734 16 (by omega)]; exact (by rw [f2715 16 (by omega)]; exact (by rw [f2621 16 (by omega)]; exact (by rw [f2609 16 (by omega)]; exact (by rw [f32 16 (by omega)]; exact (by rw [f11 16 (by omega)])))))))))]
                    have w2780 : ∀ k : Nat, k < 8 → 0 ≤ (σ2760 17 k).toInt ∧ (σ2760 17 k).toInt ≤ 3 := (by rw [f2762 17 (by omega)]; exact (by rw [f2746 17 (by omega)]; exact (by rw [f2734 17 (by omega)]; exact (by rw [f2715 17 (by omega)]; exact (by rw [f2621 17 (by omega)]; exact (by rw [f2609 17 (by omega)]; exact (by rw [f32 17 (by omega)]; exact (by rw [f11 17 (by omega)]; exact w7))))))))
                    have I2781 : jI16 σ2760 := ⟨(by omega), (by omega), (by omega), w2780⟩
                    exact hret r2761 σ2760 τ _ _ _ _ rfl ⟨rfl, (fun i hi => by rw [f2762 i (by omega), f2746 i (by omega), f2734 i (by omega), f2715 i (by omega), f2621 i (by omega), f2609 i (by omega), f32 i (by omega), f11 i (by omega)]), (fun k hk => by rw [f2763 k (by omega), f2747 k (by omega), f2735 k (by omega), f2716 k (by omega), f2622 k (by omega), f2610 k (by omega), f33 k (by omega), f12 k (by omega)]), (fun k hk => by rw [f2762 16 (by omega), f2746 16 (by omega), f2734 16 (by omega), f2715 16 (by omega), f2621 16 (by omega), f2609 16 (by omega), f32 16 (by omega), f11 16 (by omega)]), I2764, I2781, trivial⟩ hP hS dX7_readOrder_147
                · have kc2759 := jne c2759 rfl jz_0
                  refine lv_aload_n hx hb dX7_readOrder_126 rfl (lv_at hl 4 rfl) ?_
                  refine lv_iconst (v := 3) hx hb dX7_readOrder_127 (by decide) ?_
                  refine jcallV (As := [.int 3]) (rest := []) ⟨hx, hb, hml, hown, hts⟩ hK hP hA hS hZ (c_X7_number_3 l D cI cL ad zz hJ σ2744 τ I2748 I2749 I2750) cw_RX7_53 (jc_9 cI cL ad σ2744 τ) rfl ⟨Nat.le_of_ble_eq_true rfl, Nat.le_of_ble_eq_true rfl⟩ rfl rfl rfl hl.1 rfl (Nat.le_of_ble_eq_true rfl) dX7_readOrder_128 ⟨Nat.zero_le _, Nat.zero_le _⟩ (fun r2783 σ2782 τ2782 H locs h2782 hP hS => ?_)
                  obtain ⟨rfl, f2784, f2785, I2786, I2787, I2788, h2782⟩ := h2782
                  obtain ⟨i2789, w2790, w2791⟩ : (0 ≤ (σ2782 9 0).toInt ∧ (σ2782 9 0).toInt ≤ 80) ∧ (∀ k : Nat, k < 80 → 0 ≤ (σ2782 10 k).toInt ∧ (σ2782 10 k).toInt ≤ 255) ∧ (∀ k : Nat, k < 8 → 0 ≤ (σ2782 11 k).toInt ∧ (σ2782 11 k).toInt ≤ 3) := id I2786
                  obtain ⟨i2792, i2793⟩ : (0 ≤ (σ2782 9 1).toInt) ∧ ((σ2782 9 1).toInt ≤ (σ2782 9 0).toInt) := id I2787
                  have i2794 : (-1) ≤ (σ2782 9 2).toInt := I2788
                  have z2795 : (σ2782 9 0).toInt = (σ 9 0).toInt := by rw [(show σ2782 9 0 = (σ 9 0) from (by rw [f2785 0 (by omega)]; exact (by rw [f2747 0 (by omega)]; exact (by rw [f2735 0 (by omega)]; exact (by rw [f2716 0 (by omega)]; exact (by rw [f2622 0 (by omega)]; exact (by rw [f2610 0 (by omega)]; exact (by rw [f33 0 (by omega)]; exact (by rw [f12 0 (by omega)])))))))))]
                  obtain ⟨k2796, h2782⟩ := h2782
                  have h2797 := h2782
                  obtain ⟨q2799, k2798⟩ := h2797
                  refine lv_istore (lv' := [(4, .int r2783), (3, .int r2714), (5, .int (σ2619 9 1)), (2, .int x25), (0, .ref (ad 9)), (1, .ref (ad 16))]) hx hb dX7_readOrder_131 hl (by decide) rfl (fun ls hl => ?_)
                  refine lv_aload_n hx hb dX7_readOrder_133 rfl (lv_at hl 4 rfl) ?_
                  refine jcallV (As := []) (rest := []) ⟨hx, hb, hml, hown, hts⟩ hK hP hA hS hZ (c_X7_end_9 l D cI cL ad zz hJ σ2782 τ I2786 I2787 I2788) cw_RX7_57 (jc_9 cI cL ad σ2782 τ) rfl ⟨Nat.le_of_ble_eq_true rfl, Nat.le_of_ble_eq_true rfl⟩ rfl rfl rfl hl.1 rfl (Nat.le_of_ble_eq_true rfl) dX7_readOrder_134 ⟨Nat.zero_le _, Nat.zero_le _⟩ (fun r2801 σ2800 τ2800 H locs h2800 hP hS => ?_)
                  obtain ⟨rfl, f2802, f2803, I2804, I2805, h2800⟩ := h2800
                  obtain ⟨i2806, w2807, w2808⟩ : (0 ≤ (σ2800 9 0).toInt ∧ (σ2800 9 0).toInt ≤ 80) ∧ (∀ k : Nat, k < 80 → 0 ≤ (σ2800 10 k).toInt ∧ (σ2800 10 k).toInt ≤ 255) ∧ (∀ k : Nat, k < 8 → 0 ≤ (σ2800 11 k).toInt ∧ (σ2800 11 k).toInt ≤ 3) := id I2804
                  have i2809 : (-1) ≤ (σ2800 9 2).toInt := I2805
                  rcases h2800 with h2810 | h2811
                  · obtain ⟨q2813, k2812⟩ := h2810
                    exact absurd (by omega : False) id
                  · obtain ⟨q2815, k2814⟩ := h2811
                    refine lv_istore (lv' := [(5, .int r2801), (4, .int r2783), (3, .int r2714), (2, .int x25), (0, .ref (ad 9)), (1, .ref (ad 16))]) hx hb dX7_readOrder_137 hl (by decide) rfl (fun ls hl => ?_)
                    refine lv_iload hx hb dX7_readOrder_139 (lv_at hl 0 rfl) ?_
                    refine lv_iconst (v := (-1)) hx hb dX7_readOrder_141 (by decide) ?_
                    refine lv_icmp_eq (tgt := 148) hx hb dX7_readOrder_142 (by decide) (fun c => absurd (jeq c rfl jz_m1) (by omega)) (fun c2816 => ?_)
                    have kc2816 := jne c2816 rfl jz_m1
                    refine lv_iload hx hb dX7_readOrder_145 (lv_at hl 0 rfl) ?_
                    have z2817 : (σ2800 16 0).toInt = (σ 16 0).toInt := by rw [(show σ2800 16 0 = (σ 16 0) from (by rw [f2802 16 (by omega)]; exact (by rw [f2784 16 (by omega)]; exact (by rw [f2746 16 (by omega)]; exact (by rw [f2734 16 (by omega)]; exact (by rw [f2715 16 (by omega)]; exact (by rw [f2621 16 (by omega)]; exact (by rw [f2609 16 (by omega)]; exact (by rw [f32 16 (by omega)]; exact (by rw [f11 16 (by omega)]))))))))))]
                    have z2818 : (σ2800 16 1).toInt = (σ 16 1).toInt := by rw [(show σ2800 16 1 = (σ 16 1) from (by rw [f2802 16 (by omega)]; exact (by rw [f2784 16 (by omega)]; exact (by rw [f2746 16 (by omega)]; exact (by rw [f2734 16 (by omega)]; exact (by rw [f2715 16 (by omega)]; exact (by rw [f2621 16 (by omega)]; exact (by rw [f2609 16 (by omega)]; exact (by rw [f32 16 (by omega)]; exact (by rw [f11 16 (by omega)]))))))))))]
                    have z2819 : (σ2800 16 2).toInt = (σ 16 2).toInt := by rw [(show σ2800 16 2 = (σ 16 2) from (by rw [f2802 16 (by omega)]; exact (by rw [f2784 16 (by omega)]; exact (by rw [f2746 16 (by omega)]; exact (by rw [f2734 16 (by omega)]; exact (by rw [f2715 16 (by omega)]; exact (by rw [f2621 16 (by omega)]; exact (by rw [f2609 16 (by omega)]; exact (by rw [f32 16 (by omega)]; exact (by rw [f11 16 (by omega)]))))))))))]
                    have w2820 : ∀ k : Nat, k < 8 → 0 ≤ (σ2800 17 k).toInt ∧ (σ2800 17 k).toInt ≤ 3 := (by rw [f2802 17 (by omega)]; exact (by rw [f2784 17 (by omega)]; exact (by rw [f2746 17 (by omega)]; exact (by rw [f2734 17 (by omega)]; exact (by rw [f2715 17 (by omega)]; exact (by rw [f2621 17 (by omega)]; exact (by rw [f2609 17 (by omega)]; exact (by rw [f32 17 (by omega)]; exact (by rw [f11 17 (by omega)]; exact w7)))))))))
                    have I2821 : jI16 σ2800 := ⟨(by omega), (by omega), (by omega), w2820⟩
                    exact hret r2801 σ2800 τ _ _ _ _ rfl ⟨rfl, (fun i hi => by rw [f2802 i (by omega), f2784 i (by omega), f2746 i (by omega), f2734 i (by omega), f2715 i (by omega), f2621 i (by omega), f2609 i (by omega), f32 i (by omega), f11 i (by omega)]), (fun k hk => by rw [f2803 k (by omega), f2785 k (by omega), f2747 k (by omega), f2735 k (by omega), f2716 k (by omega), f2622 k (by omega), f2610 k (by omega), f33 k (by omega), f12 k (by omega)]), (fun k hk => by rw [f2802 16 (by omega), f2784 16 (by omega), f2746 16 (by omega), f2734 16 (by omega), f2715 16 (by omega), f2621 16 (by omega), f2609 16 (by omega), f32 16 (by omega), f11 16 (by omega)]), I2804, I2821, trivial⟩ hP hS dX7_readOrder_147
              · have kc2731 := jnlt c2731 rfl jz_1
                refine lv_iload_n hx hb dX7_readOrder_105 rfl (lv_at hl 0 rfl) ?_
                refine lv_bipush (v := 12) hx hb dX7_readOrder_106 (by decide) ?_
                refine lv_icmp_le (tgt := 117) hx hb dX7_readOrder_108 (by decide) (fun c2822 => ?_) (fun c2822 => ?_)
                · have kc2822 := jle c2822 rfl jz_12
                  refine lv_aload_n hx hb dX7_readOrder_117 rfl (lv_at hl 4 rfl) ?_
                  refine lv_bipush (v := 114) hx hb dX7_readOrder_118 (by decide) ?_
                  refine jcallV (As := [.int 114]) (rest := []) ⟨hx, hb, hml, hown, hts⟩ hK hP hA hS hZ (c_X7_skip_9 l D cI cL ad zz hJ σ2713 τ 114 (114) jz_114 I2717 I2718 I2719 (by omega)) cw_RX7_50 (jc_9 cI cL ad σ2713 τ) rfl ⟨Nat.le_of_ble_eq_true rfl, Nat.le_of_ble_eq_true rfl⟩ rfl rfl rfl hl.1 rfl (Nat.le_of_ble_eq_true rfl) dX7_readOrder_120 ⟨Nat.zero_le _, Nat.zero_le _⟩ (fun r2824 σ2823 τ2823 H locs h2823 hP hS => ?_)
                  obtain ⟨rfl, f2825, f2826, I2827, I2828, I2829, h2823⟩ := h2823
                  obtain ⟨i2830, w2831, w2832⟩ : (0 ≤ (σ2823 9 0).toInt ∧ (σ2823 9 0).toInt ≤ 80) ∧ (∀ k : Nat, k < 80 → 0 ≤ (σ2823 10 k).toInt ∧ (σ2823 10 k).toInt ≤ 255) ∧ (∀ k : Nat, k < 8 → 0 ≤ (σ2823 11 k).toInt ∧ (σ2823 11 k).toInt ≤ 3) := id I2827
                  obtain ⟨i2833, i2834⟩ : (0 ≤ (σ2823 9 1).toInt) ∧ ((σ2823 9 1).toInt ≤ (σ2823 9 0).toInt) := id I2828
                  have i2835 : (-1) ≤ (σ2823 9 2).toInt := I2829
                  have z2836 : (σ2823 9 0).toInt = (σ 9 0).toInt := by rw [(show σ2823 9 0 = (σ 9 0) from (by rw [f2826 0 (by omega)]; exact (by rw [f2716 0 (by omega)]; exact (by rw [f2622 0 (by omega)]; exact (by rw [f2610 0 (by omega)]; exact (by rw [f33 0 (by omega)]; exact (by rw [f12 0 (by omega)])))))))]
                  have z2837 : (σ2823 9 2).toInt = (σ2713 9 2).toInt := by rw [(show σ2823 9 2 = (σ2713 9 2) from (by rw [f2826 2 (by omega)]))]
                  refine lv_if_eq (tgt := 133) hx hb dX7_readOrder_123 (by decide) (fun c2838 => ?_) (fun c2838 => ?_)
                  · have kc2838 := jeq c2838 rfl jz_0
                    refine lv_aload_n hx hb dX7_readOrder_133 rfl (lv_at hl 4 rfl) ?_
                    refine jcallV (As := []) (rest := []) ⟨hx, hb, hml, hown, hts⟩ hK hP hA hS hZ (c_X7_end_9 l D cI cL ad zz hJ σ2823 τ I2827 I2828 I2829) cw_RX7_57 (jc_9 cI cL ad σ2823 τ) rfl ⟨Nat.le_of_ble_eq_true rfl, Nat.le_of_ble_eq_true rfl⟩ rfl rfl rfl hl.1 rfl (Nat.le_of_ble_eq_true rfl) dX7_readOrder_134 ⟨Nat.zero_le _, Nat.zero_le _⟩ (fun r2840 σ2839 τ2839 H locs h2839 hP hS => ?_)
                    obtain ⟨rfl, f2841, f2842, I2843, I2844, h2839⟩ := h2839
                    obtain ⟨i2845, w2846, w2847⟩ : (0 ≤ (σ2839 9 0).toInt ∧ (σ2839 9 0).toInt ≤ 80) ∧ (∀ k : Nat, k < 80 → 0 ≤ (σ2839 10 k).toInt ∧ (σ2839 10 k).toInt ≤ 255) ∧ (∀ k : Nat, k < 8 → 0 ≤ (σ2839 11 k).toInt ∧ (σ2839 11 k).toInt ≤ 3) := id I2843
                    have i2848 : (-1) ≤ (σ2839 9 2).toInt := I2844
                    rcases h2839 with h2849 | h2850
                    · obtain ⟨q2852, k2851⟩ := h2849
                      exact absurd (by omega : False) id
                    · obtain ⟨q2854, k2853⟩ := h2850
                      refine lv_istore (lv' := [(5, .int r2840), (3, .int r2714), (4, .int 0), (2, .int x25), (0, .ref (ad 9)), (1, .ref (ad 16))]) hx hb dX7_readOrder_137 hl (by decide) rfl (fun ls hl => ?_)
                      refine lv_iload hx hb dX7_readOrder_139 (lv_at hl 0 rfl) ?_
                      refine lv_iconst (v := (-1)) hx hb dX7_readOrder_141 (by decide) ?_
                      refine lv_icmp_eq (tgt := 148) hx hb dX7_readOrder_142 (by decide) (fun c => absurd (jeq c rfl jz_m1) (by omega)) (fun c2855 => ?_)
                      have kc2855 := jne c2855 rfl jz_m1
                      refine lv_iload hx hb dX7_readOrder_145 (lv_at hl 0 rfl) ?_
                      have z2856 : (σ2839 16 0).toInt = (σ 16 0).toInt := by rw [(show σ2839 16 0 = (σ 16 0) from (by rw [f2841 16 (by omega)]; exact (by rw [f2825 16 (by omega)]; exact (by rw [f2715 16 (by omega)]; exact (by rw [f2621 16 (by omega)]; exact (by rw [f2609 16 (by omega)]; exact (by rw [f32 16 (by omega)]; exact (by rw [f11 16 (by omega)]))))))))]
                      have z2857 : (σ2839 16 1).toInt = (σ 16 1).toInt := by rw [(show σ2839 16 1 = (σ 16 1) from (by rw [f2841 16 (by omega)]; exact (by rw [f2825 16 (by omega)]; exact (by rw [f2715 16 (by omega)]; exact (by rw [f2621 16 (by omega)]; exact (by rw [f2609 16 (by omega)]; exact (by rw [f32 16 (by omega)]; exact (by rw [f11 16 (by omega)]))))))))]
                      have z2858 : (σ2839 16 2).toInt = (σ 16 2).toInt := by rw [(show σ2839 16 2 = (σ 16 2) from (by rw [f2841 16 (by omega)]; exact (by rw [f2825 16 (by omega)]; exact (by rw [f2715 16 (by omega)]; exact (by rw [f2621 16 (by omega)]; exact (by rw [f2609 16 (by omega)]; exact (by rw [f32 16 (by omega)]; exact (by rw [f11 16 (by omega)]))))))))]
                      have w2859 : ∀ k : Nat, k < 8 → 0 ≤ (σ2839 17 k).toInt ∧ (σ2839 17 k).toInt ≤ 3 := (by rw [f2841 17 (by omega)]; exact (by rw [f2825 17 (by omega)]; exact (by rw [f2715 17 (by omega)]; exact (by rw [f2621 17 (by omega)]; exact (by rw [f2609 17 (by omega)]; exact (by rw [f32 17 (by omega)]; exact (by rw [f11 17 (by omega)]; exact w7)))))))
                      have I2860 : jI16 σ2839 := ⟨(by omega), (by omega), (by omega), w2859⟩
                      exact hret r2840 σ2839 τ _ _ _ _ rfl ⟨rfl, (fun i hi => by rw [f2841 i (by omega), f2825 i (by omega), f2715 i (by omega), f2621 i (by omega), f2609 i (by omega), f32 i (by omega), f11 i (by omega)]), (fun k hk => by rw [f2842 k (by omega), f2826 k (by omega), f2716 k (by omega), f2622 k (by omega), f2610 k (by omega), f33 k (by omega), f12 k (by omega)]), (fun k hk => by rw [f2841 16 (by omega), f2825 16 (by omega), f2715 16 (by omega), f2621 16 (by omega), f2609 16 (by omega), f32 16 (by omega), f11 16 (by omega)]), I2843, I2860, trivial⟩ hP hS dX7_readOrder_147
                  · have kc2838 := jne c2838 rfl jz_0
                    refine lv_aload_n hx hb dX7_readOrder_126 rfl (lv_at hl 4 rfl) ?_
                    refine lv_iconst (v := 3) hx hb dX7_readOrder_127 (by decide) ?_
                    refine jcallV (As := [.int 3]) (rest := []) ⟨hx, hb, hml, hown, hts⟩ hK hP hA hS hZ (c_X7_number_3 l D cI cL ad zz hJ σ2823 τ I2827 I2828 I2829) cw_RX7_53 (jc_9 cI cL ad σ2823 τ) rfl ⟨Nat.le_of_ble_eq_true rfl, Nat.le_of_ble_eq_true rfl⟩ rfl rfl rfl hl.1 rfl (Nat.le_of_ble_eq_true rfl) dX7_readOrder_128 ⟨Nat.zero_le _, Nat.zero_le _⟩ (fun r2862 σ2861 τ2861 H locs h2861 hP hS => ?_)
                    obtain ⟨rfl, f2863, f2864, I2865, I2866, I2867, h2861⟩ := h2861
                    obtain ⟨i2868, w2869, w2870⟩ : (0 ≤ (σ2861 9 0).toInt ∧ (σ2861 9 0).toInt ≤ 80) ∧ (∀ k : Nat, k < 80 → 0 ≤ (σ2861 10 k).toInt ∧ (σ2861 10 k).toInt ≤ 255) ∧ (∀ k : Nat, k < 8 → 0 ≤ (σ2861 11 k).toInt ∧ (σ2861 11 k).toInt ≤ 3) := id I2865
                    obtain ⟨i2871, i2872⟩ : (0 ≤ (σ2861 9 1).toInt) ∧ ((σ2861 9 1).toInt ≤ (σ2861 9 0).toInt) := id I2866
                    have i2873 : (-1) ≤ (σ2861 9 2).toInt := I2867
                    have z2874 : (σ2861 9 0).toInt = (σ 9 0).toInt := by rw [(show σ2861 9 0 = (σ 9 0) from (by rw [f2864 0 (by omega)]; exact (by rw [f2826 0 (by omega)]; exact (by rw [f2716 0 (by omega)]; exact (by rw [f2622 0 (by omega)]; exact (by rw [f2610 0 (by omega)]; exact (by rw [f33 0 (by omega)]; exact (by rw [f12 0 (by omega)]))))))))]
                    obtain ⟨k2875, h2861⟩ := h2861
                    have h2876 := h2861
                    obtain ⟨q2878, k2877⟩ := h2876
                    refine lv_istore (lv' := [(4, .int r2862), (3, .int r2714), (5, .int (σ2619 9 1)), (2, .int x25), (0, .ref (ad 9)), (1, .ref (ad 16))]) hx hb dX7_readOrder_131 hl (by decide) rfl (fun ls hl => ?_)
                    refine lv_aload_n hx hb dX7_readOrder_133 rfl (lv_at hl 4 rfl) ?_
                    refine jcallV (As := []) (rest := []) ⟨hx, hb, hml, hown, hts⟩ hK hP hA hS hZ (c_X7_end_9 l D cI cL ad zz hJ σ2861 τ I2865 I2866 I2867) cw_RX7_57 (jc_9 cI cL ad σ2861 τ) rfl ⟨Nat.le_of_ble_eq_true rfl, Nat.le_of_ble_eq_true rfl⟩ rfl rfl rfl hl.1 rfl (Nat.le_of_ble_eq_true rfl) dX7_readOrder_134 ⟨Nat.zero_le _, Nat.zero_le _⟩ (fun r2880 σ2879 τ2879 H locs h2879 hP hS => ?_)
                    obtain ⟨rfl, f2881, f2882, I2883, I2884, h2879⟩ := h2879
                    obtain ⟨i2885, w2886, w2887⟩ : (0 ≤ (σ2879 9 0).toInt ∧ (σ2879 9 0).toInt ≤ 80) ∧ (∀ k : Nat, k < 80 → 0 ≤ (σ2879 10 k).toInt ∧ (σ2879 10 k).toInt ≤ 255) ∧ (∀ k : Nat, k < 8 → 0 ≤ (σ2879 11 k).toInt ∧ (σ2879 11 k).toInt ≤ 3) := id I2883
                    have i2888 : (-1) ≤ (σ2879 9 2).toInt := I2884
                    rcases h2879 with h2889 | h2890
                    · obtain ⟨q2892, k2891⟩ := h2889
                      exact absurd (by omega : False) id
                    · obtain ⟨q2894, k2893⟩ := h2890
                      refine lv_istore (lv' := [(5, .int r2880), (4, .int r2862), (3, .int r2714), (2, .int x25), (0, .ref (ad 9)), (1, .ref (ad 16))]) hx hb dX7_readOrder_137 hl (by decide) rfl (fun ls hl => ?_)
                      refine lv_iload hx hb dX7_readOrder_139 (lv_at hl 0 rfl) ?_
                      refine lv_iconst (v := (-1)) hx hb dX7_readOrder_141 (by decide) ?_
                      refine lv_icmp_eq (tgt := 148) hx hb dX7_readOrder_142 (by decide) (fun c => absurd (jeq c rfl jz_m1) (by omega)) (fun c2895 => ?_)
                      have kc2895 := jne c2895 rfl jz_m1
                      refine lv_iload hx hb dX7_readOrder_145 (lv_at hl 0 rfl) ?_
                      have z2896 : (σ2879 16 0).toInt = (σ 16 0).toInt := by rw [(show σ2879 16 0 = (σ 16 0) from (by rw [f2881 16 (by omega)]; exact (by rw [f2863 16 (by omega)]; exact (by rw [f2825 16 (by omega)]; exact (by rw [f2715 16 (by omega)]; exact (by rw [f2621 16 (by omega)]; exact (by rw [f2609 16 (by omega)]; exact (by rw [f32 16 (by omega)]; exact (by rw [f11 16 (by omega)])))))))))]
                      have z2897 : (σ2879 16 1).toInt = (σ 16 1).toInt := by rw [(show σ2879 16 1 = (σ 16 1) from (by rw [f2881 16 (by omega)]; exact (by rw [f2863 16 (by omega)]; exact (by rw [f2825 16 (by omega)]; exact (by rw [f2715 16 (by omega)]; exact (by rw [f2621 16 (by omega)]; exact (by rw [f2609 16 (by omega)]; exact (by rw [f32 16 (by omega)]; exact (by rw [f11 16 (by omega)])))))))))]
                      have z2898 : (σ2879 16 2).toInt = (σ 16 2).toInt := by rw [(show σ2879 16 2 = (σ 16 2) from (by rw [f2881 16 (by omega)]; exact (by rw [f2863 16 (by omega)]; exact (by rw [f2825 16 (by omega)]; exact (by rw [f2715 16 (by omega)]; exact (by rw [f2621 16 (by omega)]; exact (by rw [f2609 16 (by omega)]; exact (by rw [f32 16 (by omega)]; exact (by rw [f11 16 (by omega)])))))))))]
                      have w2899 : ∀ k : Nat, k < 8 → 0 ≤ (σ2879 17 k).toInt ∧ (σ2879 17 k).toInt ≤ 3 := (by rw [f2881 17 (by omega)]; exact (by rw [f2863 17 (by omega)]; exact (by rw [f2825 17 (by omega)]; exact (by rw [f2715 17 (by omega)]; exact (by rw [f2621 17 (by omega)]; exact (by rw [f2609 17 (by omega)]; exact (by rw [f32 17 (by omega)]; exact (by rw [f11 17 (by omega)]; exact w7))))))))
                      have I2900 : jI16 σ2879 := ⟨(by omega), (by omega), (by omega), w2899⟩
                      exact hret r2880 σ2879 τ _ _ _ _ rfl ⟨rfl, (fun i hi => by rw [f2881 i (by omega), f2863 i (by omega), f2825 i (by omega), f2715 i (by omega), f2621 i (by omega), f2609 i (by omega), f32 i (by omega), f11 i (by omega)]), (fun k hk => by rw [f2882 k (by omega), f2864 k (by omega), f2826 k (by omega), f2716 k (by omega), f2622 k (by omega), f2610 k (by omega), f33 k (by omega), f12 k (by omega)]), (fun k hk => by rw [f2881 16 (by omega), f2863 16 (by omega), f2825 16 (by omega), f2715 16 (by omega), f2621 16 (by omega), f2609 16 (by omega), f32 16 (by omega), f11 16 (by omega)]), I2883, I2900, trivial⟩ hP hS dX7_readOrder_147
                · have kc2822 := jnle c2822 rfl jz_12
                  refine lv_aload_n hx hb dX7_readOrder_111 rfl (lv_at hl 4 rfl) ?_
                  refine lv_iload hx hb dX7_readOrder_112 (lv_at hl 1 rfl) ?_
                  refine jcallVv (As := [.int (σ2619 9 1)]) (rest := []) ⟨hx, hb, hml, hown, hts⟩ hK hP hA hS hZ (c_X7_fail_9 l D cI cL ad zz hJ σ2713 τ (σ2619 9 1) ((σ2619 9 1).toInt) rfl I2719 (by omega)) cw_RX7_43 (jc_9 cI cL ad σ2713 τ) rfl ⟨Nat.le_of_ble_eq_true rfl, Nat.le_of_ble_eq_true rfl⟩ rfl rfl rfl hl.1 rfl (Nat.le_of_ble_eq_true rfl) dX7_readOrder_114 ⟨Nat.zero_le _, Nat.zero_le _⟩ (fun σ2901 τ2901 H locs h2901 hP hS => ?_)
                  obtain ⟨rfl, f2903, f2904, h2901⟩ := h2901
                  obtain ⟨k2905, h2901⟩ := h2901
                  refine lv_aload_n hx hb dX7_readOrder_117 rfl (lv_at hl 4 rfl) ?_
                  refine lv_bipush (v := 114) hx hb dX7_readOrder_118 (by decide) ?_
                  have z2906 : (σ2901 9 0).toInt = (σ 9 0).toInt := by rw [(show σ2901 9 0 = (σ 9 0) from (by rw [f2904 0 (by omega)]; exact (by rw [f2716 0 (by omega)]; exact (by rw [f2622 0 (by omega)]; exact (by rw [f2610 0 (by omega)]; exact (by rw [f33 0 (by omega)]; exact (by rw [f12 0 (by omega)])))))))]
                  have w2907 : ∀ k : Nat, k < 80 → 0 ≤ (σ2901 10 k).toInt ∧ (σ2901 10 k).toInt ≤ 255 := (by rw [f2903 10 (by omega)]; exact w2721)
                  have w2908 : ∀ k : Nat, k < 8 → 0 ≤ (σ2901 11 k).toInt ∧ (σ2901 11 k).toInt ≤ 3 := (by rw [f2903 11 (by omega)]; exact w2722)
                  have I2909 : jI9 σ2901 := ⟨(by omega), w2907, w2908⟩
                  have z2910 : (σ2901 9 1).toInt = (σ2713 9 1).toInt := by rw [(show σ2901 9 1 = (σ2713 9 1) from (by rw [f2904 1 (by omega)]))]
                  have I2911 : jI91 σ2901 := ⟨(by omega), (by omega)⟩
                  have I2912 : jI92 σ2901 := (show (-1) ≤ (σ2901 9 2).toInt by omega)
                  refine jcallV (As := [.int 114]) (rest := []) ⟨hx, hb, hml, hown, hts⟩ hK hP hA hS hZ (c_X7_skip_9 l D cI cL ad zz hJ σ2901 τ 114 (114) jz_114 I2909 I2911 I2912 (by omega)) cw_RX7_50 (jc_9 cI cL ad σ2901 τ) rfl ⟨Nat.le_of_ble_eq_true rfl, Nat.le_of_ble_eq_true rfl⟩ rfl rfl rfl hl.1 rfl (Nat.le_of_ble_eq_true rfl) dX7_readOrder_120 ⟨Nat.zero_le _, Nat.zero_le _⟩ (fun r2914 σ2913 τ2913 H locs h2913 hP hS => ?_)
                  obtain ⟨rfl, f2915, f2916, I2917, I2918, I2919, h2913⟩ := h2913
                  obtain ⟨i2920, w2921, w2922⟩ : (0 ≤ (σ2913 9 0).toInt ∧ (σ2913 9 0).toInt ≤ 80) ∧ (∀ k : Nat, k < 80 → 0 ≤ (σ2913 10 k).toInt ∧ (σ2913 10 k).toInt ≤ 255) ∧ (∀ k : Nat, k < 8 → 0 ≤ (σ2913 11 k).toInt ∧ (σ2913 11 k).toInt ≤ 3) := id I2917
                  obtain ⟨i2923, i2924⟩ : (0 ≤ (σ2913 9 1).toInt) ∧ ((σ2913 9 1).toInt ≤ (σ2913 9 0).toInt) := id I2918
                  have i2925 : (-1) ≤ (σ2913 9 2).toInt := I2919
                  have z2926 : (σ2913 9 0).toInt = (σ 9 0).toInt := by rw [(show σ2913 9 0 = (σ 9 0) from (by rw [f2916 0 (by omega)]; exact (by rw [f2904 0 (by omega)]; exact (by rw [f2716 0 (by omega)]; exact (by rw [f2622 0 (by omega)]; exact (by rw [f2610 0 (by omega)]; exact (by rw [f33 0 (by omega)]; exact (by rw [f12 0 (by omega)]))))))))]
                  have z2927 : (σ2913 9 2).toInt = (σ2901 9 2).toInt := by rw [(show σ2913 9 2 = (σ2901 9 2) from (by rw [f2916 2 (by omega)]))]
                  refine lv_if_eq (tgt := 133) hx hb dX7_readOrder_123 (by decide) (fun c2928 => ?_) (fun c2928 => ?_)
                  · have kc2928 := jeq c2928 rfl jz_0
                    refine lv_aload_n hx hb dX7_readOrder_133 rfl (lv_at hl 4 rfl) ?_
                    refine jcallV (As := []) (rest := []) ⟨hx, hb, hml, hown, hts⟩ hK hP hA hS hZ (c_X7_end_9 l D cI cL ad zz hJ σ2913 τ I2917 I2918 I2919) cw_RX7_57 (jc_9 cI cL ad σ2913 τ) rfl ⟨Nat.le_of_ble_eq_true rfl, Nat.le_of_ble_eq_true rfl⟩ rfl rfl rfl hl.1 rfl (Nat.le_of_ble_eq_true rfl) dX7_readOrder_134 ⟨Nat.zero_le _, Nat.zero_le _⟩ (fun r2930 σ2929 τ2929 H locs h2929 hP hS => ?_)
                    obtain ⟨rfl, f2931, f2932, I2933, I2934, h2929⟩ := h2929
                    obtain ⟨i2935, w2936, w2937⟩ : (0 ≤ (σ2929 9 0).toInt ∧ (σ2929 9 0).toInt ≤ 80) ∧ (∀ k : Nat, k < 80 → 0 ≤ (σ2929 10 k).toInt ∧ (σ2929 10 k).toInt ≤ 255) ∧ (∀ k : Nat, k < 8 → 0 ≤ (σ2929 11 k).toInt ∧ (σ2929 11 k).toInt ≤ 3) := id I2933
                    have i2938 : (-1) ≤ (σ2929 9 2).toInt := I2934
                    rcases h2929 with h2939 | h2940
                    · obtain ⟨q2942, k2941⟩ := h2939
                      exact absurd (by omega : False) id
                    · obtain ⟨q2944, k2943⟩ := h2940
                      refine lv_istore (lv' := [(5, .int r2930), (3, .int r2714), (4, .int 0), (2, .int x25), (0, .ref (ad 9)), (1, .ref (ad 16))]) hx hb dX7_readOrder_137 hl (by decide) rfl (fun ls hl => ?_)
                      refine lv_iload hx hb dX7_readOrder_139 (lv_at hl 0 rfl) ?_
                      refine lv_iconst (v := (-1)) hx hb dX7_readOrder_141 (by decide) ?_
                      refine lv_icmp_eq (tgt := 148) hx hb dX7_readOrder_142 (by decide) (fun c => absurd (jeq c rfl jz_m1) (by omega)) (fun c2945 => ?_)
                      have kc2945 := jne c2945 rfl jz_m1
                      refine lv_iload hx hb dX7_readOrder_145 (lv_at hl 0 rfl) ?_
                      have z2946 : (σ2929 16 0).toInt = (σ 16 0).toInt := by rw [(show σ2929 16 0 = (σ 16 0) from (by rw [f2931 16 (by omega)]; exact (by rw [f2915 16 (by omega)]; exact (by rw [f2903 16 (by omega)]; exact (by rw [f2715 16 (by omega)]; exact (by rw [f2621 16 (by omega)]; exact (by rw [f2609 16 (by omega)]; exact (by rw [f32 16 (by omega)]; exact (by rw [f11 16 (by omega)])))))))))]
                      have z2947 : (σ2929 16 1).toInt = (σ 16 1).toInt := by rw [(show σ2929 16 1 = (σ 16 1) from (by rw [f2931 16 (by omega)]; exact (by rw [f2915 16 (by omega)]; exact (by rw [f2903 16 (by omega)]; exact (by rw [f2715 16 (by omega)]; exact (by rw [f2621 16 (by omega)]; exact (by rw [f2609 16 (by omega)]; exact (by rw [f32 16 (by omega)]; exact (by rw [f11 16 (by omega)])))))))))]
                      have z2948 : (σ2929 16 2).toInt = (σ 16 2).toInt := by rw [(show σ2929 16 2 = (σ 16 2) from (by rw [f2931 16 (by omega)]; exact (by rw [f2915 16 (by omega)]; exact (by rw [f2903 16 (by omega)]; exact (by rw [f2715 16 (by omega)]; exact (by rw [f2621 16 (by omega)]; exact (by rw [f2609 16 (by omega)]; exact (by rw [f32 16 (by omega)]; exact (by rw [f11 16 (by omega)])))))))))]
                      have w2949 : ∀ k : Nat, k < 8 → 0 ≤ (σ2929 17 k).toInt ∧ (σ2929 17 k).toInt ≤ 3 := (by rw [f2931 17 (by omega)]; exact (by rw [f2915 17 (by omega)]; exact (by rw [f2903 17 (by omega)]; exact (by rw [f2715 17 (by omega)]; exact (by rw [f2621 17 (by omega)]; exact (by rw [f2609 17 (by omega)]; exact (by rw [f32 17 (by omega)]; exact (by rw [f11 17 (by omega)]; exact w7))))))))
                      have I2950 : jI16 σ2929 := ⟨(by omega), (by omega), (by omega), w2949⟩
                      exact hret r2930 σ2929 τ _ _ _ _ rfl ⟨rfl, (fun i hi => by rw [f2931 i (by omega), f2915 i (by omega), f2903 i (by omega), f2715 i (by omega), f2621 i (by omega), f2609 i (by omega), f32 i (by omega), f11 i (by omega)]), (fun k hk => by rw [f2932 k (by omega), f2916 k (by omega), f2904 k (by omega), f2716 k (by omega), f2622 k (by omega), f2610 k (by omega), f33 k (by omega), f12 k (by omega)]), (fun k hk => by rw [f2931 16 (by omega), f2915 16 (by omega), f2903 16 (by omega), f2715 16 (by omega), f2621 16 (by omega), f2609 16 (by omega), f32 16 (by omega), f11 16 (by omega)]), I2933, I2950, trivial⟩ hP hS dX7_readOrder_147
                  · have kc2928 := jne c2928 rfl jz_0
                    refine lv_aload_n hx hb dX7_readOrder_126 rfl (lv_at hl 4 rfl) ?_
                    refine lv_iconst (v := 3) hx hb dX7_readOrder_127 (by decide) ?_
                    refine jcallV (As := [.int 3]) (rest := []) ⟨hx, hb, hml, hown, hts⟩ hK hP hA hS hZ (c_X7_number_3 l D cI cL ad zz hJ σ2913 τ I2917 I2918 I2919) cw_RX7_53 (jc_9 cI cL ad σ2913 τ) rfl ⟨Nat.le_of_ble_eq_true rfl, Nat.le_of_ble_eq_true rfl⟩ rfl rfl rfl hl.1 rfl (Nat.le_of_ble_eq_true rfl) dX7_readOrder_128 ⟨Nat.zero_le _, Nat.zero_le _⟩ (fun r2952 σ2951 τ2951 H locs h2951 hP hS => ?_)
                    obtain ⟨rfl, f2953, f2954, I2955, I2956, I2957, h2951⟩ := h2951
                    obtain ⟨i2958, w2959, w2960⟩ : (0 ≤ (σ2951 9 0).toInt ∧ (σ2951 9 0).toInt ≤ 80) ∧ (∀ k : Nat, k < 80 → 0 ≤ (σ2951 10 k).toInt ∧ (σ2951 10 k).toInt ≤ 255) ∧ (∀ k : Nat, k < 8 → 0 ≤ (σ2951 11 k).toInt ∧ (σ2951 11 k).toInt ≤ 3) := id I2955
                    obtain ⟨i2961, i2962⟩ : (0 ≤ (σ2951 9 1).toInt) ∧ ((σ2951 9 1).toInt ≤ (σ2951 9 0).toInt) := id I2956
                    have i2963 : (-1) ≤ (σ2951 9 2).toInt := I2957
                    have z2964 : (σ2951 9 0).toInt = (σ 9 0).toInt := by rw [(show σ2951 9 0 = (σ 9 0) from (by rw [f2954 0 (by omega)]; exact (by rw [f2916 0 (by omega)]; exact (by rw [f2904 0 (by omega)]; exact (by rw [f2716 0 (by omega)]; exact (by rw [f2622 0 (by omega)]; exact (by rw [f2610 0 (by omega)]; exact (by rw [f33 0 (by omega)]; exact (by rw [f12 0 (by omega)])))))))))]
                    obtain ⟨k2965, h2951⟩ := h2951
                    have h2966 := h2951
                    obtain ⟨q2968, k2967⟩ := h2966
                    refine lv_istore (lv' := [(4, .int r2952), (3, .int r2714), (5, .int (σ2619 9 1)), (2, .int x25), (0, .ref (ad 9)), (1, .ref (ad 16))]) hx hb dX7_readOrder_131 hl (by decide) rfl (fun ls hl => ?_)
                    refine lv_aload_n hx hb dX7_readOrder_133 rfl (lv_at hl 4 rfl) ?_
                    refine jcallV (As := []) (rest := []) ⟨hx, hb, hml, hown, hts⟩ hK hP hA hS hZ (c_X7_end_9 l D cI cL ad zz hJ σ2951 τ I2955 I2956 I2957) cw_RX7_57 (jc_9 cI cL ad σ2951 τ) rfl ⟨Nat.le_of_ble_eq_true rfl, Nat.le_of_ble_eq_true rfl⟩ rfl rfl rfl hl.1 rfl (Nat.le_of_ble_eq_true rfl) dX7_readOrder_134 ⟨Nat.zero_le _, Nat.zero_le _⟩ (fun r2970 σ2969 τ2969 H locs h2969 hP hS => ?_)
                    obtain ⟨rfl, f2971, f2972, I2973, I2974, h2969⟩ := h2969
                    obtain ⟨i2975, w2976, w2977⟩ : (0 ≤ (σ2969 9 0).toInt ∧ (σ2969 9 0).toInt ≤ 80) ∧ (∀ k : Nat, k < 80 → 0 ≤ (σ2969 10 k).toInt ∧ (σ2969 10 k).toInt ≤ 255) ∧ (∀ k : Nat, k < 8 → 0 ≤ (σ2969 11 k).toInt ∧ (σ2969 11 k).toInt ≤ 3) := id I2973
                    have i2978 : (-1) ≤ (σ2969 9 2).toInt := I2974
                    rcases h2969 with h2979 | h2980
                    · obtain ⟨q2982, k2981⟩ := h2979
                      exact absurd (by omega : False) id
                    · obtain ⟨q2984, k2983⟩ := h2980
                      refine lv_istore (lv' := [(5, .int r2970), (4, .int r2952), (3, .int r2714), (2, .int x25), (0, .ref (ad 9)), (1, .ref (ad 16))]) hx hb dX7_readOrder_137 hl (by decide) rfl (fun ls hl => ?_)
                      refine lv_iload hx hb dX7_readOrder_139 (lv_at hl 0 rfl) ?_
                      refine lv_iconst (v := (-1)) hx hb dX7_readOrder_141 (by decide) ?_
                      refine lv_icmp_eq (tgt := 148) hx hb dX7_readOrder_142 (by decide) (fun c => absurd (jeq c rfl jz_m1) (by omega)) (fun c2985 => ?_)
                      have kc2985 := jne c2985 rfl jz_m1
                      refine lv_iload hx hb dX7_readOrder_145 (lv_at hl 0 rfl) ?_
                      have z2986 : (σ2969 16 0).toInt = (σ 16 0).toInt := by rw [(show σ2969 16 0 = (σ 16 0) from (by rw [f2971 16 (by omega)]; exact (by rw [f2953 16 (by omega)]; exact (by rw [f2915 16 (by omega)]; exact (by rw [f2903 16 (by omega)]; exact (by rw [f2715 16 (by omega)]; exact (by rw [f2621 16 (by omega)]; exact (by rw [f2609 16 (by omega)]; exact (by rw [f32 16 (by omega)]; exact (by rw [f11 16 (by omega)]))))))))))]
                      have z2987 : (σ2969 16 1).toInt = (σ 16 1).toInt := by rw [(show σ2969 16 1 = (σ 16 1) from (by rw [f2971 16 (by omega)]; exact (by rw [f2953 16 (by omega)]; exact (by rw [f2915 16 (by omega)]; exact (by rw [f2903 16 (by omega)]; exact (by rw [f2715 16 (by omega)]; exact (by rw [f2621 16 (by omega)]; exact (by rw [f2609 16 (by omega)]; exact (by rw [f32 16 (by omega)]; exact (by rw [f11 16 (by omega)]))))))))))]
                      have z2988 : (σ2969 16 2).toInt = (σ 16 2).toInt := by rw [(show σ2969 16 2 = (σ 16 2) from (by rw [f2971 16 (by omega)]; exact (by rw [f2953 16 (by omega)]; exact (by rw [f2915 16 (by omega)]; exact (by rw [f2903 16 (by omega)]; exact (by rw [f2715 16 (by omega)]; exact (by rw [f2621 16 (by omega)]; exact (by rw [f2609 16 (by omega)]; exact (by rw [f32 16 (by omega)]; exact (by rw [f11 16 (by omega)]))))))))))]
                      have w2989 : ∀ k : Nat, k < 8 → 0 ≤ (σ2969 17 k).toInt ∧ (σ2969 17 k).toInt ≤ 3 := (by rw [f2971 17 (by omega)]; exact (by rw [f2953 17 (by omega)]; exact (by rw [f2915 17 (by omega)]; exact (by rw [f2903 17 (by omega)]; exact (by rw [f2715 17 (by omega)]; exact (by rw [f2621 17 (by omega)]; exact (by rw [f2609 17 (by omega)]; exact (by rw [f32 17 (by omega)]; exact (by rw [f11 17 (by omega)]; exact w7)))))))))
                      have I2990 : jI16 σ2969 := ⟨(by omega), (by omega), (by omega), w2989⟩
                      exact hret r2970 σ2969 τ _ _ _ _ rfl ⟨rfl, (fun i hi => by rw [f2971 i (by omega), f2953 i (by omega), f2915 i (by omega), f2903 i (by omega), f2715 i (by omega), f2621 i (by omega), f2609 i (by omega), f32 i (by omega), f11 i (by omega)]), (fun k hk => by rw [f2972 k (by omega), f2954 k (by omega), f2916 k (by omega), f2904 k (by omega), f2716 k (by omega), f2622 k (by omega), f2610 k (by omega), f33 k (by omega), f12 k (by omega)]), (fun k hk => by rw [f2971 16 (by omega), f2953 16 (by omega), f2915 16 (by omega), f2903 16 (by omega), f2715 16 (by omega), f2621 16 (by omega), f2609 16 (by omega), f32 16 (by omega), f11 16 (by omega)]), I2973, I2990, trivial⟩ hP hS dX7_readOrder_147
  exact lp23 1000000 0 σ9 _ _ ls (by have h90 := jz_0; omega) (by have h90 := jz_0; omega) (by have h90 := jz_0; omega) (by have h90 := jz_0; omega) (by have h90 := jz_0; omega) (fun _ _ => rfl) (fun _ _ => rfl)  w18 hP hS hl
