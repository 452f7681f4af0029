set_option maxHeartbeats 4000000 in
set_option maxRecDepth 100000 in
theorem c_X12_trace (l : Launch) (D : va_G) (cI cL : ClassId) (ad zz : Nat → Nat) (hJ : jD ad) (σ : Nat → Nat → Int32) (τ : Nat → Nat → Int64) (a1 : Int32) (A1 : Int) (t1 : a1.toInt = A1) : jM l yX12_trace cX12_trace 2 (some .int) ({ frames := 0, cells := 0, slots := 0, locals := 0 }) D cI cL ad zz [.ref (ad 55), .int a1] σ τ (fun r σ' τ' => (σ = σ' ∧ τ = τ') ∧ ((r = (σ 85 a1.toNatClampNeg) ∧ (0 ≤ A1) ∧ (A1 ≤ 23) ∧ (A1 < (σ 55 55).toInt)) ∨ (r = (-1) ∧ ((A1 < 0) ∨ (23 < A1) ∨ ((σ 55 55).toInt ≤ A1))))) := by
  refine jM.of hJ (by decide +kernel) (nt := .int) rfl (Nat.le_of_ble_eq_true rfl) ?_
  intro p e s m args below meth c Q ls hC hret hl hP
  obtain ⟨hx, hb, hr, hml, hown, hts, hK, -, hlocks, hZ⟩ := hC
  have hown : s.vm.findClass RX12 = some m.cls := hown
  have hS : va_S (jA ad) s.heap s.heap [] := va_S.rf
  have hA : ∀ q, jA ad q → jA ad q := fun _ h => h
  have hl : lv_has ls 2 [(0, .ref (ad 55)), (1, .int a1)] := hl
  have g1 := jrg t1
  refine lv_iload_n hx hb dX12_trace_0 rfl (lv_at hl 1 rfl) ?_
  refine lv_if_lt (tgt := 27) hx hb dX12_trace_1 (of_decide_eq_true rfl) (fun c1 => ?_) (fun c1 => ?_)
  · have kc1 := jlt c1 t1 jz_0
    refine lv_iconst (v := (-1)) hx hb dX12_trace_27 (of_decide_eq_true rfl) ?_
    exact hret (-1) σ τ _ _ _ _ rfl ⟨⟨rfl, rfl⟩, Or.inr (⟨rfl, (by have h9 := jz_m1; omega)⟩)⟩ hP hS dX12_trace_28
  · have kc1 := jnlt c1 t1 jz_0
    refine lv_iload_n hx hb dX12_trace_4 rfl (lv_at hl 1 rfl) ?_
    refine lv_aload_n hx hb dX12_trace_5 rfl (lv_at hl 0 rfl) ?_
    refine va_get (D := D) hx hb hts inlX12 hown hK hP 55 (jc_55 cI cL ad σ τ) rfl 55 (of_decide_eq_true rfl) (hts _ kw_49_7) (fun _ h9 => h9) rfl dX12_trace_6 ?_
    refine lv_icmp_ge (tgt := 27) hx hb dX12_trace_9 (of_decide_eq_true rfl) (fun c2 => ?_) (fun c2 => ?_)
    · have kc2 := jle c2 rfl t1
      refine lv_iconst (v := (-1)) hx hb dX12_trace_27 (of_decide_eq_true rfl) ?_
      exact hret (-1) σ τ _ _ _ _ rfl ⟨⟨rfl, rfl⟩, Or.inr (⟨rfl, (by have h9 := jz_m1; omega)⟩)⟩ hP hS dX12_trace_28
    · have kc2 := jnle c2 rfl t1
      refine lv_iload_n hx hb dX12_trace_12 rfl (lv_at hl 1 rfl) ?_
      refine lv_bipush (v := 24) hx hb dX12_trace_13 (of_decide_eq_true rfl) ?_
      refine lv_icmp_ge (tgt := 27) hx hb dX12_trace_15 (of_decide_eq_true rfl) (fun c3 => ?_) (fun c3 => ?_)
      · have kc3 := jle c3 jz_24 t1
        refine lv_iconst (v := (-1)) hx hb dX12_trace_27 (of_decide_eq_true rfl) ?_
        exact hret (-1) σ τ _ _ _ _ rfl ⟨⟨rfl, rfl⟩, Or.inr (⟨rfl, (by have h9 := jz_m1; omega)⟩)⟩ hP hS dX12_trace_28
      · have kc3 := jnle c3 jz_24 t1
        refine lv_aload_n hx hb dX12_trace_18 rfl (lv_at hl 0 rfl) ?_
        refine va_get (D := D) hx hb hts inlX12 hown hK hP 55 (jc_55 cI cL ad σ τ) rfl 54 (of_decide_eq_true rfl) (hts _ kw_8_10) (fun _ h9 => h9) rfl dX12_trace_19 ?_
        refine lv_iload_n hx hb dX12_trace_22 rfl (lv_at hl 1 rfl) ?_
        exact by
         refine jald hx hb hK hP (jc_85 cI cL ad σ τ) (jin t1 (by omega) (by omega)) dX12_trace_23 ?_
         refine jtopr (y := (σ 85 a1.toNatClampNeg)) rfl ?_
         refine lv_goto (tgt := 28) hx hb dX12_trace_24 (of_decide_eq_true rfl) ?_
         exact by exact hret (σ 85 a1.toNatClampNeg) σ τ _ _ _ _ rfl ⟨⟨rfl, rfl⟩, Or.inl ⟨rfl, (by omega), (by omega), (by omega)⟩⟩ hP hS dX12_trace_28
set_option maxHeartbeats 4000000 in
set_option maxRecDepth 100000 in
theorem c_X12_keep (l : Launch) (D : va_G) (cI cL : ClassId) (ad zz : Nat → Nat) (hJ : jD ad) (σ : Nat → Nat → Int32) (τ : Nat → Nat → Int64) (a1 : Int32) (A1 : Int) (t1 : a1.toInt = A1) (a2 : Int32) (A2 : Int) (t2 : a2.toInt = A2) (hI106 : jI106 σ) (hI110 : jI110 σ) : jM l yX12_keep cX12_keep 3 (some .int) ({ frames := 2, cells := 0, slots := 0, locals := 46 }) D cI cL ad zz [.ref (ad 55), .int a1, .int a2] σ τ (fun r σ' τ' => τ = τ' ∧ (∀ i : Nat, (i < 86 ∨ 87 < i) → σ' i = σ i) ∧ (jI110 σ') ∧ ((r = 1 ∧ (0 ≤ A1 ∧ A1 ≤ 5) ∧ (A2 = (-1)) ∧ (σ' 86 = jupd (σ 86) (A1).toNat a2 ∧ σ' 87 = jupd (σ 87) (A1).toNat 0)) ∨ (r = 1 ∧ (0 ≤ A1 ∧ A1 ≤ 5) ∧ (0 ≤ A2 ∧ A2 < (σ 55 32).toInt) ∧ (σ' 86 = jupd (σ 86) (A1).toNat a2 ∧ σ' 87 = jupd (σ 87) (A1).toNat 0)) ∨ (r = (-1) ∧ ((A1 < 0) ∨ (5 < A1) ∨ (A2 < (-1)) ∨ (0 ≤ A2 ∧ (σ 55 32).toInt ≤ A2)) ∧ (σ' 86 = σ 86 ∧ σ' 87 = σ 87)))) := by
  refine jM.of hJ (by decide +kernel) (nt := .int) rfl (Nat.le_of_ble_eq_true rfl) ?_
  intro p e s m args below meth c Q ls hC hret hl hP
  obtain ⟨hx, hb, hr, hml, hown, hts, hK, -, hlocks, hZ⟩ := hC
  have hown : s.vm.findClass RX12 = some m.cls := hown
  have hS : va_S (jA ad) s.heap s.heap [] := va_S.rf
  have hA : ∀ q, jA ad q → jA ad q := fun _ h => h
  have hl : lv_has ls 3 [(0, .ref (ad 55)), (1, .int a1), (2, .int a2)] := hl
  have g1 := jrg t1
  have g2 := jrg t2
  obtain ⟨i1, w2, w3, w4⟩ : (0 ≤ (σ 55 32).toInt ∧ (σ 55 32).toInt ≤ 20) ∧ (∀ k : Nat, k < 20 → 0 ≤ (σ 70 k).toInt ∧ (σ 70 k).toInt ≤ 6) ∧ (∀ k : Nat, k < 20 → 0 ≤ (σ 71 k).toInt ∧ (σ 71 k).toInt ≤ 8) ∧ (∀ k : Nat, k < 160 → 0 ≤ (σ 72 k).toInt ∧ (σ 72 k).toInt ≤ 3) := id hI106
  obtain ⟨w5, w6⟩ : (∀ k : Nat, k < 6 → (-1) ≤ (σ 86 k).toInt ∧ (σ 86 k).toInt ≤ 24) ∧ (∀ k : Nat, k < 6 → 0 ≤ (σ 87 k).toInt ∧ (σ 87 k).toInt ≤ 60) := id hI110
  refine lv_iload_n hx hb dX12_keep_0 rfl (lv_at hl 1 rfl) ?_
  refine jcallS (As := [.int a1]) (rest := []) ⟨hx, hb, hml, hown, hts⟩ hK hP hA hS hZ (c_X12_isShelf l D cI cL ad zz hJ σ τ a1 (A1) t1) cw_RX12_361 ⟨Nat.le_of_ble_eq_true rfl, Nat.le_of_ble_eq_true rfl⟩ rfl rfl rfl hl.1 rfl (Nat.le_of_ble_eq_true rfl) dX12_keep_1 ⟨Nat.zero_le _, Nat.zero_le _⟩ (fun r8 σ7 τ7 H locs h7 hP hS => ?_)
  obtain ⟨⟨rfl, rfl⟩, h7⟩ := h7
  rcases h7 with h9 | h10
  · obtain ⟨q12, k11⟩ := h9
    have q12 := q12.symm
    subst q12
    refine lv_if_eq (tgt := 20) hx hb dX12_keep_4 (of_decide_eq_true rfl) (fun c => absurd c (of_decide_eq_true rfl)) (fun _ => ?_)
    refine lv_iload_n hx hb dX12_keep_7 rfl (lv_at hl 2 rfl) ?_
    refine lv_iconst (v := (-1)) hx hb dX12_keep_8 (of_decide_eq_true rfl) ?_
    refine lv_icmp_eq (tgt := 22) hx hb dX12_keep_9 (of_decide_eq_true rfl) (fun c13 => ?_) (fun c13 => ?_)
    · have kc13 := jeq c13 t2 jz_m1
      refine lv_aload_n hx hb dX12_keep_22 rfl (lv_at hl 0 rfl) ?_
      refine va_get (D := D) hx hb hts inlX12 hown hK hP 55 (jc_55 cI cL ad σ τ) rfl 58 (of_decide_eq_true rfl) (hts _ kw_8_11) (fun _ h9 => h9) rfl dX12_keep_23 ?_
      refine lv_iload_n hx hb dX12_keep_26 rfl (lv_at hl 1 rfl) ?_
      refine lv_iload_n hx hb dX12_keep_27 rfl (lv_at hl 2 rfl) ?_
      exact by
       refine jast hx hb hK hP hJ hA hS (jc_86 cI cL ad σ τ) (ja_86 cI cL ad σ τ _ _) (jin t1 (by omega) (by omega)) dX12_keep_28 (fun σ14 H locs eσ14 hP hS => ?_)
       refine lv_aload_n hx hb dX12_keep_29 rfl (lv_at hl 0 rfl) ?_
       refine va_get (D := D) hx hb hts inlX12 hown hK hP 55 (jc_55 cI cL ad σ14 τ) rfl 59 (of_decide_eq_true rfl) (hts _ kw_8_12) (fun _ h9 => h9) rfl dX12_keep_30 ?_
       refine lv_iload_n hx hb dX12_keep_33 rfl (lv_at hl 1 rfl) ?_
       refine lv_iconst (v := 0) hx hb dX12_keep_34 (of_decide_eq_true rfl) ?_
       refine jast hx hb hK hP hJ hA hS (jc_87 cI cL ad σ14 τ) (ja_87 cI cL ad σ14 τ _ _) (jin t1 (by omega) (by omega)) dX12_keep_35 (fun σ15 H locs eσ15 hP hS => ?_)
       refine lv_iconst (v := 1) hx hb dX12_keep_36 (of_decide_eq_true rfl) ?_
       have w16 : ∀ k : Nat, k < 6 → (-1) ≤ (σ15 86 k).toInt ∧ (σ15 86 k).toInt ≤ 24 := (jrr_fr (jnp 86 eσ15 (of_decide_eq_true rfl)) (by rw [eσ14]; exact jrr_up w5 (by have h9 := t2; omega) (by have h9 := t2; omega)))
       have w17 : ∀ k : Nat, k < 6 → 0 ≤ (σ15 87 k).toInt ∧ (σ15 87 k).toInt ≤ 60 := (by rw [eσ15]; exact jrr_up (jrr_fr (jnp 87 eσ14 (of_decide_eq_true rfl)) w6) (by have h9 := jz_0; omega) (by have h9 := jz_0; omega))
       exact by
        have I18 : jI110 σ15 := ⟨w16, w17⟩
        exact by exact hret 1 σ15 τ _ _ _ _ rfl ⟨rfl, (fun i hi => ((jnp i eσ15 (imp_298 i hi)).trans (jnp i eσ14 (imp_299 i hi)))), I18, Or.inl ⟨rfl, (by have h9 := jz_1; omega), (by have h9 := jz_1; omega), ⟨(by rw [eσ15, jup_n (of_decide_eq_true rfl), eσ14, jup_row, jnc t1]), (by rw [eσ15, jup_row, eσ14, jup_n (of_decide_eq_true rfl), jnc t1])⟩⟩⟩ hP hS dX12_keep_37
    · have kc13 := jne c13 t2 jz_m1
      refine lv_aload_n hx hb dX12_keep_12 rfl (lv_at hl 0 rfl) ?_
      refine lv_iload_n hx hb dX12_keep_13 rfl (lv_at hl 2 rfl) ?_
      refine jcallV (As := [.int a2]) (rest := []) ⟨hx, hb, hml, hown, hts⟩ hK hP hA hS hZ (c_X12_isRule l D cI cL ad zz hJ σ τ a2 (A2) t2 hI106) cw_RX12_331 (jc_55 cI cL ad σ τ) rfl ⟨Nat.le_of_ble_eq_true rfl, Nat.le_of_ble_eq_true rfl⟩ rfl rfl rfl hl.1 rfl (Nat.le_of_ble_eq_true rfl) dX12_keep_14 ⟨Nat.zero_le _, Nat.zero_le _⟩ (fun r20 σ19 τ19 H locs h19 hP hS => ?_)
      obtain ⟨⟨rfl, rfl⟩, h19⟩ := h19
      rcases h19 with h21 | h22
      · obtain ⟨q24, k23⟩ := h21
        have q24 := q24.symm
        subst q24
        refine lv_if_ne (tgt := 22) hx hb dX12_keep_17 (of_decide_eq_true rfl) (fun _ => ?_) (fun c => absurd c (of_decide_eq_true rfl))
        refine lv_aload_n hx hb dX12_keep_22 rfl (lv_at hl 0 rfl) ?_
        refine va_get (D := D) hx hb hts inlX12 hown hK hP 55 (jc_55 cI cL ad σ τ) rfl 58 (of_decide_eq_true rfl) (hts _ kw_8_11) (fun _ h9 => h9) rfl dX12_keep_23 ?_
        refine lv_iload_n hx hb dX12_keep_26 rfl (lv_at hl 1 rfl) ?_
        refine lv_iload_n hx hb dX12_keep_27 rfl (lv_at hl 2 rfl) ?_
        exact by
         refine jast hx hb hK hP hJ hA hS (jc_86 cI cL ad σ τ) (ja_86 cI cL ad σ τ _ _) (jin t1 (by omega) (by omega)) dX12_keep_28 (fun σ25 H locs eσ25 hP hS => ?_)
         refine lv_aload_n hx hb dX12_keep_29 rfl (lv_at hl 0 rfl) ?_
         refine va_get (D := D) hx hb hts inlX12 hown hK hP 55 (jc_55 cI cL ad σ25 τ) rfl 59 (of_decide_eq_true rfl) (hts _ kw_8_12) (fun _ h9 => h9) rfl dX12_keep_30 ?_
         refine lv_iload_n hx hb dX12_keep_33 rfl (lv_at hl 1 rfl) ?_
         refine lv_iconst (v := 0) hx hb dX12_keep_34 (of_decide_eq_true rfl) ?_
         refine jast hx hb hK hP hJ hA hS (jc_87 cI cL ad σ25 τ) (ja_87 cI cL ad σ25 τ _ _) (jin t1 (by omega) (by omega)) dX12_keep_35 (fun σ26 H locs eσ26 hP hS => ?_)
         refine lv_iconst (v := 1) hx hb dX12_keep_36 (of_decide_eq_true rfl) ?_
         have w27 : ∀ k : Nat, k < 6 → (-1) ≤ (σ26 86 k).toInt ∧ (σ26 86 k).toInt ≤ 24 := (jrr_fr (jnp 86 eσ26 (of_decide_eq_true rfl)) (by rw [eσ25]; exact jrr_up w5 (by have h9 := t2; omega) (by have h9 := t2; omega)))
         have w28 : ∀ k : Nat, k < 6 → 0 ≤ (σ26 87 k).toInt ∧ (σ26 87 k).toInt ≤ 60 := (by rw [eσ26]; exact jrr_up (jrr_fr (jnp 87 eσ25 (of_decide_eq_true rfl)) w6) (by have h9 := jz_0; omega) (by have h9 := jz_0; omega))
         exact by
          have I29 : jI110 σ26 := ⟨w27, w28⟩
          exact by exact hret 1 σ26 τ _ _ _ _ rfl ⟨rfl, (fun i hi => ((jnp i eσ26 (imp_298 i hi)).trans (jnp i eσ25 (imp_299 i hi)))), I29, Or.inr (Or.inl ⟨rfl, (by have h9 := jz_1; omega), (by have h9 := jz_1; omega), ⟨(by rw [eσ26, jup_n (of_decide_eq_true rfl), eσ25, jup_row, jnc t1]), (by rw [eσ26, jup_row, eσ25, jup_n (of_decide_eq_true rfl), jnc t1])⟩⟩)⟩ hP hS dX12_keep_37
      · obtain ⟨q31, k30⟩ := h22
        have q31 := q31.symm
        subst q31
        refine lv_if_ne (tgt := 22) hx hb dX12_keep_17 (of_decide_eq_true rfl) (fun c => absurd (of_decide_eq_true rfl) c) (fun _ => ?_)
        refine lv_iconst (v := (-1)) hx hb dX12_keep_20 (of_decide_eq_true rfl) ?_
        exact hret (-1) σ τ _ _ _ _ rfl ⟨rfl, (fun _ _ => rfl), hI110, Or.inr (Or.inr (⟨rfl, (by have h9 := jz_m1; omega), ⟨rfl, rfl⟩⟩))⟩ hP hS dX12_keep_21
  · obtain ⟨q33, k32⟩ := h10
    have q33 := q33.symm
    subst q33
    refine lv_if_eq (tgt := 20) hx hb dX12_keep_4 (of_decide_eq_true rfl) (fun _ => ?_) (fun c => absurd (of_decide_eq_true rfl) c)
    refine lv_iconst (v := (-1)) hx hb dX12_keep_20 (of_decide_eq_true rfl) ?_
    exact hret (-1) σ τ _ _ _ _ rfl ⟨rfl, (fun _ _ => rfl), hI110, Or.inr (Or.inr (⟨rfl, (by have h9 := jz_m1; omega), ⟨rfl, rfl⟩⟩))⟩ hP hS dX12_keep_21
set_option maxHeartbeats 4000000 in
set_option maxRecDepth 100000 in
theorem c_X12_row (l : Launch) (D : va_G) (cI cL : ClassId) (ad zz : Nat → Nat) (hJ : jD ad) (σ : Nat → Nat → Int32) (τ : Nat → Nat → Int64) (a1 : Int32) (A1 : Int) (t1 : a1.toInt = A1) (a2 : Int32) (A2 : Int) (t2 : a2.toInt = A2) (a3 : Int32) (A3 : Int) (t3 : a3.toInt = A3) (hI110 : jI110 σ) : jM l yX12_row cX12_row 5 (some .int) ({ frames := 2, cells := 0, slots := 0, locals := 45 }) D cI cL ad zz [.ref (ad 55), .int a1, .int a2, .int a3] σ τ (fun r σ' τ' => (∀ i : Nat, (i < 88 ∨ 88 < i) → τ' i = τ i) ∧ (∀ i : Nat, (i < 86 ∨ 87 < i) → σ' i = σ i) ∧ (jI110 σ') ∧ ((r = (-1) ∧ ((A1 < 0) ∨ (5 < A1) ∨ (A2 < 0) ∨ (4 < A2) ∨ (60 < A3)) ∧ (σ' 86 = σ 86 ∧ σ' 87 = σ 87) ∧ (τ' 88 = τ 88)) ∨ (r = (-14) ∧ (0 ≤ A1 ∧ A1 ≤ 5) ∧ (0 ≤ A2 ∧ A2 ≤ 4) ∧ (A3 < 0) ∧ (σ' 86 = σ 86 ∧ σ' 87 = σ 87) ∧ (τ' 88 = τ 88)) ∨ (r = 1 ∧ (0 ≤ A1 ∧ A1 ≤ 5) ∧ (0 ≤ A2 ∧ A2 ≤ 4) ∧ (0 ≤ A3 ∧ A3 ≤ 60) ∧ ((∃ z : Int32, z.toInt = 20 + (A2) ∧ σ' 86 = jupd (σ 86) (A1).toNat z) ∧ σ' 87 = jupd (σ 87) (A1).toNat a3) ∧ (jFl (τ 88) (τ' 88) (60 * (A1)).toNat (60))))) := by
  refine jM.of hJ (by decide +kernel) (nt := .int) rfl (Nat.le_of_ble_eq_true rfl) ?_
  intro p e s m args below meth c Q ls hC hret hl hP
  obtain ⟨hx, hb, hr, hml, hown, hts, hK, -, hlocks, hZ⟩ := hC
  have hown : s.vm.findClass RX12 = some m.cls := hown
  have hS : va_S (jA ad) s.heap s.heap [] := va_S.rf
  have hA : ∀ q, jA ad q → jA ad q := fun _ h => h
  have hl : lv_has ls 5 [(0, .ref (ad 55)), (1, .int a1), (2, .int a2), (3, .int a3)] := hl
  have g1 := jrg t1
  have g2 := jrg t2
  have g3 := jrg t3
  obtain ⟨w1, w2⟩ : (∀ k : Nat, k < 6 → (-1) ≤ (σ 86 k).toInt ∧ (σ 86 k).toInt ≤ 24) ∧ (∀ k : Nat, k < 6 → 0 ≤ (σ 87 k).toInt ∧ (σ 87 k).toInt ≤ 60) := id hI110
  refine lv_iload_n hx hb dX12_row_0 rfl (lv_at hl 1 rfl) ?_
  refine jcallS (As := [.int a1]) (rest := []) ⟨hx, hb, hml, hown, hts⟩ hK hP hA hS hZ (c_X12_isShelf l D cI cL ad zz hJ σ τ a1 (A1) t1) cw_RX12_361 ⟨Nat.le_of_ble_eq_true rfl, Nat.le_of_ble_eq_true rfl⟩ rfl rfl rfl hl.1 rfl (Nat.le_of_ble_eq_true rfl) dX12_row_1 ⟨Nat.zero_le _, Nat.zero_le _⟩ (fun r4 σ3 τ3 H locs h3 hP hS => ?_)
  obtain ⟨⟨rfl, rfl⟩, h3⟩ := h3
  rcases h3 with h5 | h6
  · obtain ⟨q8, k7⟩ := h5
    have q8 := q8.symm
    subst q8
    refine lv_if_eq (tgt := 25) hx hb dX12_row_4 (of_decide_eq_true rfl) (fun c => absurd c (of_decide_eq_true rfl)) (fun _ => ?_)
    refine lv_iload_n hx hb dX12_row_7 rfl (lv_at hl 2 rfl) ?_
    refine lv_i2l (v := a2.toInt64) hx hb dX12_row_8 rfl ?_
    refine lv_lconst (v := 0) hx hb dX12_row_9 (of_decide_eq_true rfl) ?_
    refine lv_ldc2 (v := 4) hx hb hown (hts _ kw_13_5) dX12_row_10 ?_
    refine jcallS (As := [.long a2.toInt64, .long 0, .long 4]) (rest := []) ⟨hx, hb, hml, hown, hts⟩ hK hP hA hS hZ (c_X12_within l D cI cL ad zz hJ σ τ a2.toInt64 (A2) (jtoL t2) 0 (0) jzl_0 4 (4) jzl_4) cw_RX12_136 ⟨Nat.le_of_ble_eq_true rfl, Nat.le_of_ble_eq_true rfl⟩ rfl rfl rfl hl.1 rfl (Nat.le_of_ble_eq_true rfl) dX12_row_13 ⟨Nat.zero_le _, Nat.zero_le _⟩ (fun r10 σ9 τ9 H locs h9 hP hS => ?_)
    obtain ⟨⟨rfl, rfl⟩, h9⟩ := h9
    rcases h9 with h11 | h12
    · obtain ⟨q14, k13⟩ := h11
      have q14 := q14.symm
      subst q14
      refine lv_if_eq (tgt := 25) hx hb dX12_row_16 (of_decide_eq_true rfl) (fun c => absurd c (of_decide_eq_true rfl)) (fun _ => ?_)
      refine lv_iload_n hx hb dX12_row_19 rfl (lv_at hl 3 rfl) ?_
      refine lv_bipush (v := 60) hx hb dX12_row_20 (of_decide_eq_true rfl) ?_
      refine lv_icmp_le (tgt := 27) hx hb dX12_row_22 (of_decide_eq_true rfl) (fun c15 => ?_) (fun c15 => ?_)
      · have kc15 := jle c15 t3 jz_60
        refine lv_iload_n hx hb dX12_row_27 rfl (lv_at hl 3 rfl) ?_
        refine lv_if_ge (tgt := 34) hx hb dX12_row_28 (of_decide_eq_true rfl) (fun c16 => ?_) (fun c16 => ?_)
        · have kc16 := jle c16 jz_0 t3
          refine lv_aload_n hx hb dX12_row_34 rfl (lv_at hl 0 rfl) ?_
          refine va_get (D := D) hx hb hts inlX12 hown hK hP 55 (jc_55 cI cL ad σ τ) rfl 58 (of_decide_eq_true rfl) (hts _ kw_8_11) (fun _ h9 => h9) rfl dX12_row_35 ?_
          refine lv_iload_n hx hb dX12_row_38 rfl (lv_at hl 1 rfl) ?_
          refine lv_bipush (v := 20) hx hb dX12_row_39 (of_decide_eq_true rfl) ?_
          refine lv_iload_n hx hb dX12_row_41 rfl (lv_at hl 2 rfl) ?_
          refine lv_iadd hx hb dX12_row_42 ?_
          refine lv_topi (fun x17 ex17 => ?_)
          exact by
           have tx17 : x17.toInt = A2 + 20 := (jadd ex17 jz_20 t2 (by omega) (by omega)).trans (by omega)
           refine jast hx hb hK hP hJ hA hS (jc_86 cI cL ad σ τ) (ja_86 cI cL ad σ τ _ _) (jin t1 (by omega) (by omega)) dX12_row_43 (fun σ18 H locs eσ18 hP hS => ?_)
           refine lv_aload_n hx hb dX12_row_44 rfl (lv_at hl 0 rfl) ?_
           refine va_get (D := D) hx hb hts inlX12 hown hK hP 55 (jc_55 cI cL ad σ18 τ) rfl 59 (of_decide_eq_true rfl) (hts _ kw_8_12) (fun _ h9 => h9) rfl dX12_row_45 ?_
           refine lv_iload_n hx hb dX12_row_48 rfl (lv_at hl 1 rfl) ?_
           refine lv_iload_n hx hb dX12_row_49 rfl (lv_at hl 3 rfl) ?_
           refine jast hx hb hK hP hJ hA hS (jc_87 cI cL ad σ18 τ) (ja_87 cI cL ad σ18 τ _ _) (jin t1 (by omega) (by omega)) dX12_row_50 (fun σ19 H locs eσ19 hP hS => ?_)
           refine lv_bipush (v := 60) hx hb dX12_row_51 (of_decide_eq_true rfl) ?_
           refine lv_iload_n hx hb dX12_row_53 rfl (lv_at hl 1 rfl) ?_
           exact by
            refine lv_imul hx hb dX12_row_54 ?_
            refine lv_topi (fun x20 ex20 => ?_)
            have tx20 : x20.toInt = 60 * A1 := (jmul ex20 jz_60 t1 (by omega) (by omega)).trans (by omega)
            refine lv_istore (lv' := [(4, .int x20), (0, .ref (ad 55)), (1, .int a1), (2, .int a2), (3, .int a3)]) hx hb dX12_row_55 hl (of_decide_eq_true rfl) rfl (fun ls hl => ?_)
            have lp21 : ∀ (n22 : Nat) (x23 : Int32) (σ24 : Nat → Nat → Int32) (τ24 : Nat → Nat → Int64) (H : Heap) (locs : List Loc) (ls : Array Slot), (60 * A1 - x23.toInt + 60 : Int) < n22 → 0 ≤ x23.toInt → x23.toInt ≤ 360 → 60 * A1 ≤ x23.toInt → x23.toInt ≤ 60 * A1 + 60 → (∀ i : Nat, (0 = 0) → σ24 i = σ19 i) → (∀ i : Nat, (i < 88 ∨ 88 < i) → τ24 i = τ i) → (jFl (τ 88) (τ24 88) (60 * (A1)).toNat ((x23.toInt - 60 * (A1)))) → jH D cI cL ad σ24 τ24 H → va_S (jA ad) s.heap H locs → lv_has ls 5 [(4, .int x23), (0, .ref (ad 55)), (1, .int a1), (2, .int a2), (3, .int a3)] → W p l e ({ frames := 2, cells := 0, slots := 0, locals := 45 }) s m args below meth c H locs 0 0 Q (F0 m 57 ls []) := by
              intro n22
              induction n22 with
              | zero => intro x23 σ24 τ24 H locs ls h26 h27 h28 h29 h30; exact absurd h26 (by omega)
              | succ n22 ihlp21 =>
                intro x23 σ24 τ24 H locs ls h26 h27 h28 h29 h30 f31 f25 q32 hP hS hl
                exact by
                 refine lv_iload hx hb dX12_row_57 (lv_at hl 0 rfl) ?_
                 refine lv_bipush (v := 60) hx hb dX12_row_59 (of_decide_eq_true rfl) ?_
                 refine lv_iload_n hx hb dX12_row_61 rfl (lv_at hl 2 rfl) ?_
                 refine lv_imul hx hb dX12_row_62 ?_
                 refine lv_topi (fun x33 ex33 => ?_)
                 have tx33 : x33.toInt = 60 * A1 := (jmul ex33 jz_60 t1 (by omega) (by omega)).trans (by omega)
                 refine lv_bipush (v := 60) hx hb dX12_row_63 (of_decide_eq_true rfl) ?_
                 refine lv_iadd hx hb dX12_row_65 ?_
                 refine lv_topi (fun x34 ex34 => ?_)
                 exact by
                  have tx34 : x34.toInt = 60 * A1 + 60 := (jadd ex34 tx33 jz_60 (by omega) (by omega)).trans (by omega)
                  refine lv_icmp_ge (tgt := 83) hx hb dX12_row_66 (of_decide_eq_true rfl) (fun c35 => ?_) (fun c35 => ?_)
                  · have kc35 := jle c35 tx34 rfl
                    refine lv_iconst (v := 1) hx hb dX12_row_83 (of_decide_eq_true rfl) ?_
                    have w36 : ∀ k : Nat, k < 6 → (-1) ≤ (σ24 86 k).toInt ∧ (σ24 86 k).toInt ≤ 24 := (jrr_fr (f31 86 (of_decide_eq_true rfl)) (jrr_fr (jnp 86 eσ19 (of_decide_eq_true rfl)) (by rw [eσ18]; exact jrr_up w1 (by have h9 := tx17; omega) (by have h9 := tx17; omega))))
                    have w37 : ∀ k : Nat, k < 6 → 0 ≤ (σ24 87 k).toInt ∧ (σ24 87 k).toInt ≤ 60 := (jrr_fr (f31 87 (of_decide_eq_true rfl)) (by rw [eσ19]; exact jrr_up (jrr_fr (jnp 87 eσ18 (of_decide_eq_true rfl)) w2) (by have h9 := t3; omega) (by have h9 := t3; omega)))
                    have I38 : jI110 σ24 := ⟨w36, w37⟩
                    exact by exact hret 1 σ24 τ24 _ _ _ _ rfl ⟨(fun i hi => (f25 i hi)), (fun i hi => ((f31 i (imp_300 i hi)).trans ((jnp i eσ19 (imp_298 i hi)).trans (jnp i eσ18 (imp_299 i hi))))), I38, Or.inr (Or.inr (⟨rfl, (by have h9 := jz_1; omega), (by have h9 := jz_1; omega), (by have h9 := jz_1; omega), ⟨⟨x17, (by have h9 := tx17; omega), (by rw [f31 86 (of_decide_eq_true rfl), eσ19, jup_n (of_decide_eq_true rfl), eσ18, jup_row, jnc t1])⟩, (by rw [f31 87 (of_decide_eq_true rfl), eσ19, jup_row, eσ18, jup_n (of_decide_eq_true rfl), jnc t1])⟩, (jFl.n q32 (show (x23.toInt - 60 * (A1)) = 60 by omega))⟩))⟩ hP hS dX12_row_84
                  · have kc35 := jnle c35 tx34 rfl
                    exact by
                     refine lv_aload_n hx hb dX12_row_69 rfl (lv_at hl 1 rfl) ?_
                     refine va_get (D := D) hx hb hts inlX12 hown hK hP 55 (jc_55 cI cL ad σ24 τ24) rfl 60 (of_decide_eq_true rfl) (hts _ kw_8_13) (fun _ h9 => h9) rfl dX12_row_70 ?_
                     refine lv_iload hx hb dX12_row_73 (lv_at hl 0 rfl) ?_
                     refine lv_lconst (v := 0) hx hb dX12_row_75 (of_decide_eq_true rfl) ?_
                     refine jastL hx hb hK hP hJ hA hS (jc_88 cI cL ad σ24 τ24) (ja_88 cI cL ad σ24 τ24 _ _) (jin rfl (by omega) (by omega)) dX12_row_76 (fun τ39 H locs eτ39 hP hS => ?_)
                     obtain ⟨x40, ex40⟩ : ∃ y : Int32, y = x23 + 1 := ⟨_, rfl⟩
                     have tx40 : x40.toInt = x23.toInt + 1 := (jadd ex40 rfl jz_1 (by omega) (by omega)).trans (by omega)
                     refine lv_iinc (v := x40) (lv' := [(4, .int x40), (0, .ref (ad 55)), (1, .int a1), (2, .int a2), (3, .int a3)]) hx hb dX12_row_77 hl (k := 0) rfl (by rw [ex40]; rfl) (of_decide_eq_true rfl) rfl (fun ls hl => ?_)
                     refine lv_goto (tgt := 57) hx hb dX12_row_80 (of_decide_eq_true rfl) ?_
                     exact by exact ihlp21 x40 σ24 τ39 _ _ ls (by have h90 := tx40; omega) (by have h90 := tx40; omega) (by have h90 := tx40; omega) (by have h90 := tx40; omega) (by have h90 := tx40; omega) (fun i hi => (f31 i hi)) (fun i hi => ((jnpL i eτ39 (imp_301 i hi)).trans (f25 i hi)))   (jFl.step q32 (by omega) (by rw [eτ39, jupL_row, jnc (rfl : x23.toInt = x23.toInt)]) (by omega) (by have h9 := tx40; omega)) hP hS (lv_sub hl [0, 1, 2, 3, 4] rfl)
            exact by exact lp21 1000000 x20 σ19 τ _ _ ls (by have h90 := tx20; omega) (by have h90 := tx20; omega) (by have h90 := tx20; omega) (by have h90 := tx20; omega) (by have h90 := tx20; omega) (fun _ _ => rfl) (fun _ _ => rfl)  (jFl.first (by have h9 := tx20; omega)) hP hS hl
        · exact by
           have kc16 := jnle c16 jz_0 t3
           refine lv_bipush (v := (-14)) hx hb dX12_row_31 (of_decide_eq_true rfl) ?_
           exact by exact hret (-14) σ τ _ _ _ _ rfl ⟨(fun _ _ => rfl), (fun _ _ => rfl), hI110, Or.inr (Or.inl ⟨rfl, (by have h9 := jz_m14; omega), (by have h9 := jz_m14; omega), (by have h9 := jz_m14; omega), ⟨rfl, rfl⟩, rfl⟩)⟩ hP hS dX12_row_33
      · have kc15 := jnle c15 t3 jz_60
        refine lv_iconst (v := (-1)) hx hb dX12_row_25 (of_decide_eq_true rfl) ?_
        exact hret (-1) σ τ _ _ _ _ rfl ⟨(fun _ _ => rfl), (fun _ _ => rfl), hI110, Or.inl ⟨rfl, (by have h9 := jz_m1; omega), ⟨rfl, rfl⟩, rfl⟩⟩ hP hS dX12_row_26
    · obtain ⟨q42, k41⟩ := h12
      have q42 := q42.symm
      subst q42
      refine lv_if_eq (tgt := 25) hx hb dX12_row_16 (of_decide_eq_true rfl) (fun _ => ?_) (fun c => absurd (of_decide_eq_true rfl) c)
      refine lv_iconst (v := (-1)) hx hb dX12_row_25 (of_decide_eq_true rfl) ?_
      exact hret (-1) σ τ _ _ _ _ rfl ⟨(fun _ _ => rfl), (fun _ _ => rfl), hI110, Or.inl ⟨rfl, (by have h9 := jz_m1; omega), ⟨rfl, rfl⟩, rfl⟩⟩ hP hS dX12_row_26
  · obtain ⟨q44, k43⟩ := h6
    have q44 := q44.symm
    subst q44
    refine lv_if_eq (tgt := 25) hx hb dX12_row_4 (of_decide_eq_true rfl) (fun _ => ?_) (fun c => absurd (of_decide_eq_true rfl) c)
    refine lv_iconst (v := (-1)) hx hb dX12_row_25 (of_decide_eq_true rfl) ?_
    exact hret (-1) σ τ _ _ _ _ rfl ⟨(fun _ _ => rfl), (fun _ _ => rfl), hI110, Or.inl ⟨rfl, (by have h9 := jz_m1; omega), ⟨rfl, rfl⟩, rfl⟩⟩ hP hS dX12_row_26
set_option maxHeartbeats 4000000 in
set_option maxRecDepth 100000 in
theorem c_X12_refusal (l : Launch) (D : va_G) (cI cL : ClassId) (ad zz : Nat → Nat) (hJ : jD ad) (σ : Nat → Nat → Int32) (τ : Nat → Nat → Int64) (a1 : Int32) (A1 : Int) (t1 : a1.toInt = A1) (a2 : Int32) (A2 : Int) (t2 : a2.toInt = A2) (hI110 : jI110 σ) : jM l yX12_refusal cX12_refusal 3 (some .int) ({ frames := 2, cells := 0, slots := 0, locals := 45 }) D cI cL ad zz [.ref (ad 55), .int a1, .int a2] σ τ (fun r σ' τ' => (σ = σ' ∧ τ = τ') ∧ ((r = 0 ∧ (0 ≤ A1 ∧ A1 ≤ 5) ∧ (0 ≤ A2 ∧ A2 ≤ 59) ∧ (20 ≤ (σ 86 a1.toNatClampNeg).toInt) ∧ (A2 < (σ 87 a1.toNatClampNeg).toInt)) ∨ (r = (-1) ∧ ((A1 < 0) ∨ (5 < A1))) ∨ (r = (-11) ∧ (0 ≤ A1 ∧ A1 ≤ 5) ∧ ((σ 86 a1.toNatClampNeg).toInt < 0)) ∨ (r = (-12) ∧ (0 ≤ A1 ∧ A1 ≤ 5) ∧ (0 ≤ (σ 86 a1.toNatClampNeg).toInt ∧ (σ 86 a1.toNatClampNeg).toInt ≤ 19)) ∨ (r = (-13) ∧ (0 ≤ A1 ∧ A1 ≤ 5) ∧ (20 ≤ (σ 86 a1.toNatClampNeg).toInt) ∧ ((A2 < 0) ∨ ((σ 87 a1.toNatClampNeg).toInt ≤ A2))))) := by
  refine jM.of hJ (by decide +kernel) (nt := .int) rfl (Nat.le_of_ble_eq_true rfl) ?_
  intro p e s m args below meth c Q ls hC hret hl hP
  obtain ⟨hx, hb, hr, hml, hown, hts, hK, -, hlocks, hZ⟩ := hC
  have hown : s.vm.findClass RX12 = some m.cls := hown
  have hS : va_S (jA ad) s.heap s.heap [] := va_S.rf
  have hA : ∀ q, jA ad q → jA ad q := fun _ h => h
  have hl : lv_has ls 3 [(0, .ref (ad 55)), (1, .int a1), (2, .int a2)] := hl
  have g1 := jrg t1
  have g2 := jrg t2
  obtain ⟨w1, w2⟩ : (∀ k : Nat, k < 6 → (-1) ≤ (σ 86 k).toInt ∧ (σ 86 k).toInt ≤ 24) ∧ (∀ k : Nat, k < 6 → 0 ≤ (σ 87 k).toInt ∧ (σ 87 k).toInt ≤ 60) := id hI110
  refine lv_iload_n hx hb dX12_refusal_0 rfl (lv_at hl 1 rfl) ?_
  refine jcallS (As := [.int a1]) (rest := []) ⟨hx, hb, hml, hown, hts⟩ hK hP hA hS hZ (c_X12_isShelf l D cI cL ad zz hJ σ τ a1 (A1) t1) cw_RX12_361 ⟨Nat.le_of_ble_eq_true rfl, Nat.le_of_ble_eq_true rfl⟩ rfl rfl rfl hl.1 rfl (Nat.le_of_ble_eq_true rfl) dX12_refusal_1 ⟨Nat.zero_le _, Nat.zero_le _⟩ (fun r4 σ3 τ3 H locs h3 hP hS => ?_)
  obtain ⟨⟨rfl, rfl⟩, h3⟩ := h3
  rcases h3 with h5 | h6
  · obtain ⟨q8, k7⟩ := h5
    have q8 := q8.symm
    subst q8
    refine lv_if_ne (tgt := 9) hx hb dX12_refusal_4 (of_decide_eq_true rfl) (fun _ => ?_) (fun c => absurd c (of_decide_eq_true rfl))
    refine lv_aload_n hx hb dX12_refusal_9 rfl (lv_at hl 0 rfl) ?_
    refine va_get (D := D) hx hb hts inlX12 hown hK hP 55 (jc_55 cI cL ad σ τ) rfl 58 (of_decide_eq_true rfl) (hts _ kw_8_11) (fun _ h9 => h9) rfl dX12_refusal_10 ?_
    refine lv_iload_n hx hb dX12_refusal_13 rfl (lv_at hl 1 rfl) ?_
    exact by
     refine jald hx hb hK hP (jc_86 cI cL ad σ τ) (jin t1 (by omega) (by omega)) dX12_refusal_14 ?_
     have g9 := w1 _ (jnat (x := a1) t1 (n := 6) (by omega) (of_decide_eq_true rfl))
     refine jtopr (y := (σ 86 a1.toNatClampNeg)) rfl ?_
     refine lv_if_ge (tgt := 21) hx hb dX12_refusal_15 (of_decide_eq_true rfl) (fun c10 => ?_) (fun c10 => ?_)
     · have kc10 := jle c10 jz_0 rfl
       refine lv_aload_n hx hb dX12_refusal_21 rfl (lv_at hl 0 rfl) ?_
       refine va_get (D := D) hx hb hts inlX12 hown hK hP 55 (jc_55 cI cL ad σ τ) rfl 58 (of_decide_eq_true rfl) (hts _ kw_8_11) (fun _ h9 => h9) rfl dX12_refusal_22 ?_
       refine lv_iload_n hx hb dX12_refusal_25 rfl (lv_at hl 1 rfl) ?_
       refine jald hx hb hK hP (jc_86 cI cL ad σ τ) (jin t1 (by omega) (by omega)) dX12_refusal_26 ?_
       exact by
        have g11 := w1 _ (jnat (x := a1) t1 (n := 6) (by omega) (of_decide_eq_true rfl))
        refine jtopr (y := (σ 86 a1.toNatClampNeg)) rfl ?_
        refine lv_bipush (v := 20) hx hb dX12_refusal_27 (of_decide_eq_true rfl) ?_
        refine lv_icmp_ge (tgt := 35) hx hb dX12_refusal_29 (of_decide_eq_true rfl) (fun c12 => ?_) (fun c12 => ?_)
        · have kc12 := jle c12 jz_20 rfl
          refine lv_iload_n hx hb dX12_refusal_35 rfl (lv_at hl 2 rfl) ?_
          refine lv_if_lt (tgt := 53) hx hb dX12_refusal_36 (of_decide_eq_true rfl) (fun c13 => ?_) (fun c13 => ?_)
          · have kc13 := jlt c13 t2 jz_0
            refine lv_bipush (v := (-13)) hx hb dX12_refusal_53 (of_decide_eq_true rfl) ?_
            exact by exact hret (-13) σ τ _ _ _ _ rfl ⟨⟨rfl, rfl⟩, Or.inr (Or.inr (Or.inr (Or.inr (⟨rfl, (by have h9 := jz_m13; omega), (by have h9 := jz_m13; omega), (by have h9 := jz_m13; omega)⟩))))⟩ hP hS dX12_refusal_55
          · have kc13 := jnlt c13 t2 jz_0
            refine lv_iload_n hx hb dX12_refusal_39 rfl (lv_at hl 2 rfl) ?_
            refine lv_aload_n hx hb dX12_refusal_40 rfl (lv_at hl 0 rfl) ?_
            refine va_get (D := D) hx hb hts inlX12 hown hK hP 55 (jc_55 cI cL ad σ τ) rfl 59 (of_decide_eq_true rfl) (hts _ kw_8_12) (fun _ h9 => h9) rfl dX12_refusal_41 ?_
            refine lv_iload_n hx hb dX12_refusal_44 rfl (lv_at hl 1 rfl) ?_
            exact by
             refine jald hx hb hK hP (jc_87 cI cL ad σ τ) (jin t1 (by omega) (by omega)) dX12_refusal_45 ?_
             have g14 := w2 _ (jnat (x := a1) t1 (n := 6) (by omega) (of_decide_eq_true rfl))
             refine jtopr (y := (σ 87 a1.toNatClampNeg)) rfl ?_
             refine lv_icmp_ge (tgt := 53) hx hb dX12_refusal_46 (of_decide_eq_true rfl) (fun c15 => ?_) (fun c15 => ?_)
             · have kc15 := jle c15 rfl t2
               refine lv_bipush (v := (-13)) hx hb dX12_refusal_53 (of_decide_eq_true rfl) ?_
               exact by exact hret (-13) σ τ _ _ _ _ rfl ⟨⟨rfl, rfl⟩, Or.inr (Or.inr (Or.inr (Or.inr (⟨rfl, (by have h9 := jz_m13; omega), (by have h9 := jz_m13; omega), (by have h9 := jz_m13; omega)⟩))))⟩ hP hS dX12_refusal_55
             · have kc15 := jnle c15 rfl t2
               refine lv_iconst (v := 0) hx hb dX12_refusal_49 (of_decide_eq_true rfl) ?_
               exact by
                refine lv_goto (tgt := 55) hx hb dX12_refusal_50 (of_decide_eq_true rfl) ?_
                exact by exact hret 0 σ τ _ _ _ _ rfl ⟨⟨rfl, rfl⟩, Or.inl ⟨rfl, (by have h9 := jz_0; omega), (by have h9 := jz_0; omega), (by have h9 := jz_0; omega), (by have h9 := jz_0; omega)⟩⟩ hP hS dX12_refusal_55
        · have kc12 := jnle c12 jz_20 rfl
          refine lv_bipush (v := (-12)) hx hb dX12_refusal_32 (of_decide_eq_true rfl) ?_
          exact by exact hret (-12) σ τ _ _ _ _ rfl ⟨⟨rfl, rfl⟩, Or.inr (Or.inr (Or.inr (Or.inl ⟨rfl, (by have h9 := jz_m12; omega), (by have h9 := jz_m12; omega)⟩)))⟩ hP hS dX12_refusal_34
     · have kc10 := jnle c10 jz_0 rfl
       refine lv_bipush (v := (-11)) hx hb dX12_refusal_18 (of_decide_eq_true rfl) ?_
       exact by exact hret (-11) σ τ _ _ _ _ rfl ⟨⟨rfl, rfl⟩, Or.inr (Or.inr (Or.inl ⟨rfl, (by have h9 := jz_m11; omega), (by have h9 := jz_m11; omega)⟩))⟩ hP hS dX12_refusal_20
  · obtain ⟨q17, k16⟩ := h6
    have q17 := q17.symm
    subst q17
    refine lv_if_ne (tgt := 9) hx hb dX12_refusal_4 (of_decide_eq_true rfl) (fun c => absurd (of_decide_eq_true rfl) c) (fun _ => ?_)
    refine lv_iconst (v := (-1)) hx hb dX12_refusal_7 (of_decide_eq_true rfl) ?_
    exact hret (-1) σ τ _ _ _ _ rfl ⟨⟨rfl, rfl⟩, Or.inr (Or.inl ⟨rfl, (by have h9 := jz_m1; omega)⟩)⟩ hP hS dX12_refusal_8
set_option maxHeartbeats 4000000 in
set_option maxRecDepth 100000 in
theorem c_X12_asSort (l : Launch) (D : va_G) (cI cL : ClassId) (ad zz : Nat → Nat) (hJ : jD ad) (σ : Nat → Nat → Int32) (τ : Nat → Nat → Int64) (a1 : Int32) (A1 : Int) (t1 : a1.toInt = A1) (a2 : Int64) (AL2 : Int) (t2 : a2.toInt = AL2) (hp0 : 0 ≤ A1 ∧ A1 ≤ 4) : jMl l yX12_asSort cX12_asSort 3 (some .long) ({ frames := 0, cells := 0, slots := 0, locals := 0 }) D cI cL ad zz [.int a1, .long a2] σ τ (fun r σ' τ' => (σ = σ' ∧ τ = τ') ∧ (r = jCut (A1) a2) ∧ True) := by
  refine jMl.of hJ (by decide +kernel) rfl (Nat.le_of_ble_eq_true rfl) ?_
  intro p e s m args below meth c Q ls hC hret hl hP
  obtain ⟨hx, hb, hr, hml, hown, hts, hK, -, hlocks, hZ⟩ := hC
  have hown : s.vm.findClass RX12 = some m.cls := hown
  have hS : va_S (jA ad) s.heap s.heap [] := va_S.rf
  have hA : ∀ q, jA ad q → jA ad q := fun _ h => h
  have hl : lv_has ls 3 [(0, .int a1), (1, .long a2)] := hl
  have g1 := jrg t1
  have g2 := jrgL t2
  refine lv_iload_n hx hb dX12_asSort_0 rfl (lv_at hl 0 rfl) ?_
  refine lv_if_ne (tgt := 11) hx hb dX12_asSort_1 (of_decide_eq_true rfl) (fun c1 => ?_) (fun c1 => ?_)
  · have kc1 := jne c1 t1 jz_0
    refine lv_iload_n hx hb dX12_asSort_11 rfl (lv_at hl 0 rfl) ?_
    refine lv_iconst (v := 1) hx hb dX12_asSort_12 (of_decide_eq_true rfl) ?_
    refine lv_icmp_ne (tgt := 23) hx hb dX12_asSort_13 (of_decide_eq_true rfl) (fun c2 => ?_) (fun c2 => ?_)
    · have kc2 := jne c2 t1 jz_1
      refine lv_iload_n hx hb dX12_asSort_23 rfl (lv_at hl 0 rfl) ?_
      refine lv_iconst (v := 2) hx hb dX12_asSort_24 (of_decide_eq_true rfl) ?_
      refine lv_icmp_ne (tgt := 34) hx hb dX12_asSort_25 (of_decide_eq_true rfl) (fun c3 => ?_) (fun c3 => ?_)
      · have kc3 := jne c3 t1 jz_2
        refine lv_iload_n hx hb dX12_asSort_34 rfl (lv_at hl 0 rfl) ?_
        refine lv_iconst (v := 4) hx hb dX12_asSort_35 (of_decide_eq_true rfl) ?_
        refine lv_icmp_ne (tgt := 53) hx hb dX12_asSort_36 (of_decide_eq_true rfl) (fun c4 => ?_) (fun c4 => ?_)
        · have kc4 := jne c4 t1 jz_4
          refine lv_lload_n hx hb dX12_asSort_53 rfl (lv_at hl 1 rfl) ?_
          exact hret a2 σ τ _ _ _ _ ⟨⟨rfl, rfl⟩, (by unfold jCut; first | ((repeat (first | rw [if_pos (by omega)] | rw [if_neg (by omega)])) <;> first | rfl | omega) | ((repeat' split) <;> first | rfl | omega)), trivial⟩ hP hS dX12_asSort_54
        · have kc4 := jeq c4 t1 jz_4
          refine lv_lload_n hx hb dX12_asSort_39 rfl (lv_at hl 1 rfl) ?_
          refine lv_lconst (v := 0) hx hb dX12_asSort_40 (of_decide_eq_true rfl) ?_
          refine W.lcmp hx hb dX12_asSort_41 ?_
          refine lv_if_eq (tgt := 49) hx hb dX12_asSort_42 (of_decide_eq_true rfl) (fun c5 => ?_) (fun c5 => ?_)
          · have kc5 := jceq c5 t2 jzl_0
            refine lv_lconst (v := 0) hx hb dX12_asSort_49 (of_decide_eq_true rfl) ?_
            refine lv_goto (tgt := 54) hx hb dX12_asSort_50 (of_decide_eq_true rfl) ?_
            exact hret 0 σ τ _ _ _ _ ⟨⟨rfl, rfl⟩, (by unfold jCut; first | ((repeat (first | rw [if_pos (by omega)] | rw [if_neg (by omega)])) <;> first | rfl | omega) | ((repeat' split) <;> first | rfl | omega)), trivial⟩ hP hS dX12_asSort_54
          · have kc5 := jcne c5 t2 jzl_0
            refine lv_lconst (v := 1) hx hb dX12_asSort_45 (of_decide_eq_true rfl) ?_
            refine lv_goto (tgt := 54) hx hb dX12_asSort_46 (of_decide_eq_true rfl) ?_
            exact hret 1 σ τ _ _ _ _ ⟨⟨rfl, rfl⟩, (by unfold jCut; first | ((repeat (first | rw [if_pos (by omega)] | rw [if_neg (by omega)])) <;> first | rfl | omega) | ((repeat' split) <;> first | rfl | omega)), trivial⟩ hP hS dX12_asSort_54
      · have kc3 := jeq c3 t1 jz_2
        refine lv_lload_n hx hb dX12_asSort_28 rfl (lv_at hl 1 rfl) ?_
        refine lv_l2i hx hb dX12_asSort_29 rfl ?_
        refine lv_topi (fun x6 ex6 => ?_)
        have gx6 := jrg (rfl : x6.toInt = x6.toInt)
        refine lv_i2l (v := x6.toInt64) hx hb dX12_asSort_30 rfl ?_
        refine lv_goto (tgt := 54) hx hb dX12_asSort_31 (of_decide_eq_true rfl) ?_
        exact hret x6.toInt64 σ τ _ _ _ _ ⟨⟨rfl, rfl⟩, (by rw [ex6]; unfold jCut; first | ((repeat (first | rw [if_pos (by omega)] | rw [if_neg (by omega)])) <;> first | rfl | omega) | ((repeat' split) <;> first | rfl | omega)), trivial⟩ hP hS dX12_asSort_54
    · have kc2 := jeq c2 t1 jz_1
      refine lv_lload_n hx hb dX12_asSort_16 rfl (lv_at hl 1 rfl) ?_
      refine lv_l2i hx hb dX12_asSort_17 rfl ?_
      refine lv_topi (fun x7 ex7 => ?_)
      have gx7 := jrg (rfl : x7.toInt = x7.toInt)
      refine lv_i2s hx hb dX12_asSort_18 rfl ?_
      refine lv_topi (fun x8 ex8 => ?_)
      have gx8 := jrg (rfl : x8.toInt = x8.toInt)
      refine lv_i2l (v := x8.toInt64) hx hb dX12_asSort_19 rfl ?_
      refine lv_goto (tgt := 54) hx hb dX12_asSort_20 (of_decide_eq_true rfl) ?_
      exact hret x8.toInt64 σ τ _ _ _ _ ⟨⟨rfl, rfl⟩, (by rw [ex8, ex7]; unfold jCut; first | ((repeat (first | rw [if_pos (by omega)] | rw [if_neg (by omega)])) <;> first | rfl | omega) | ((repeat' split) <;> first | rfl | omega)), trivial⟩ hP hS dX12_asSort_54
  · have kc1 := jeq c1 t1 jz_0
    refine lv_lload_n hx hb dX12_asSort_4 rfl (lv_at hl 1 rfl) ?_
    refine lv_l2i hx hb dX12_asSort_5 rfl ?_
    refine lv_topi (fun x9 ex9 => ?_)
    have gx9 := jrg (rfl : x9.toInt = x9.toInt)
    refine lv_i2b hx hb dX12_asSort_6 rfl ?_
    refine lv_topi (fun x10 ex10 => ?_)
    have gx10 := jrg (rfl : x10.toInt = x10.toInt)
    refine lv_i2l (v := x10.toInt64) hx hb dX12_asSort_7 rfl ?_
    refine lv_goto (tgt := 54) hx hb dX12_asSort_8 (of_decide_eq_true rfl) ?_
    exact hret x10.toInt64 σ τ _ _ _ _ ⟨⟨rfl, rfl⟩, (by rw [ex10, ex9]; unfold jCut; first | ((repeat (first | rw [if_pos (by omega)] | rw [if_neg (by omega)])) <;> first | rfl | omega) | ((repeat' split) <;> first | rfl | omega)), trivial⟩ hP hS dX12_asSort_54
set_option maxHeartbeats 4000000 in
set_option maxRecDepth 100000 in
theorem c_X12_put (l : Launch) (D : va_G) (cI cL : ClassId) (ad zz : Nat → Nat) (hJ : jD ad) (σ : Nat → Nat → Int32) (τ : Nat → Nat → Int64) (a1 : Int32) (A1 : Int) (t1 : a1.toInt = A1) (a2 : Int32) (A2 : Int) (t2 : a2.toInt = A2) (a3 : Int64) (AL3 : Int) (t3 : a3.toInt = AL3) (hI110 : jI110 σ) : jM l yX12_put cX12_put 6 (some .int) ({ frames := 3, cells := 0, slots := 0, locals := 67 }) D cI cL ad zz [.ref (ad 55), .int a1, .int a2, .long a3] σ τ (fun r σ' τ' => (∀ i : Nat, (i < 88 ∨ 88 < i) → τ' i = τ i) ∧ (∀ i : Nat, (0 = 0) → σ' i = σ i) ∧ (r.toInt = jRg (A1) (A2) ((σ 86 a1.toNatClampNeg).toInt) ((σ 87 a1.toNatClampNeg).toInt)) ∧ (jPt (r.toInt) (60 * (A1) + (A2)).toNat (jCut ((σ 86 a1.toNatClampNeg).toInt - 20) a3) (τ 88) (τ' 88)) ∧ True) := by
  refine jM.of hJ (by decide +kernel) (nt := .int) rfl (Nat.le_of_ble_eq_true rfl) ?_
  intro p e s m args below meth c Q ls hC hret hl hP
  obtain ⟨hx, hb, hr, hml, hown, hts, hK, -, hlocks, hZ⟩ := hC
  have hown : s.vm.findClass RX12 = some m.cls := hown
  have hS : va_S (jA ad) s.heap s.heap [] := va_S.rf
  have hA : ∀ q, jA ad q → jA ad q := fun _ h => h
  have hl : lv_has ls 6 [(0, .ref (ad 55)), (1, .int a1), (2, .int a2), (3, .long a3)] := hl
  have g1 := jrg t1
  have g2 := jrg t2
  have g3 := jrgL t3
  obtain ⟨w1, w2⟩ : (∀ k : Nat, k < 6 → (-1) ≤ (σ 86 k).toInt ∧ (σ 86 k).toInt ≤ 24) ∧ (∀ k : Nat, k < 6 → 0 ≤ (σ 87 k).toInt ∧ (σ 87 k).toInt ≤ 60) := id hI110
  refine lv_aload_n hx hb dX12_put_0 rfl (lv_at hl 0 rfl) ?_
  refine lv_iload_n hx hb dX12_put_1 rfl (lv_at hl 1 rfl) ?_
  refine lv_iload_n hx hb dX12_put_2 rfl (lv_at hl 2 rfl) ?_
  refine jcallV (As := [.int a1, .int a2]) (rest := []) ⟨hx, hb, hml, hown, hts⟩ hK hP hA hS hZ (c_X12_refusal l D cI cL ad zz hJ σ τ a1 (A1) t1 a2 (A2) t2 hI110) cw_RX12_402 (jc_55 cI cL ad σ τ) rfl ⟨Nat.le_of_ble_eq_true rfl, Nat.le_of_ble_eq_true rfl⟩ rfl rfl rfl hl.1 rfl (Nat.le_of_ble_eq_true rfl) dX12_put_3 ⟨Nat.zero_le _, Nat.zero_le _⟩ (fun r4 σ3 τ3 H locs h3 hP hS => ?_)
  obtain ⟨⟨rfl, rfl⟩, h3⟩ := h3
  rcases h3 with h5 | h6 | h7 | h8 | h9
  · obtain ⟨q14, k10, k11, k12, k13⟩ := h5
    have q14 := q14.symm
    subst q14
    refine lv_istore (lv' := [(5, .int 0), (0, .ref (ad 55)), (1, .int a1), (2, .int a2), (3, .long a3)]) hx hb dX12_put_6 hl (of_decide_eq_true rfl) rfl (fun ls hl => ?_)
    refine lv_iload hx hb dX12_put_8 (lv_at hl 0 rfl) ?_
    refine lv_if_ne (tgt := 37) hx hb dX12_put_10 (of_decide_eq_true rfl) (fun c => absurd (of_decide_eq_true rfl) c) (fun _ => ?_)
    refine lv_aload_n hx hb dX12_put_13 rfl (lv_at hl 1 rfl) ?_
    refine va_get (D := D) hx hb hts inlX12 hown hK hP 55 (jc_55 cI cL ad σ τ) rfl 60 (of_decide_eq_true rfl) (hts _ kw_8_13) (fun _ h9 => h9) rfl dX12_put_14 ?_
    refine lv_bipush (v := 60) hx hb dX12_put_17 (of_decide_eq_true rfl) ?_
    refine lv_iload_n hx hb dX12_put_19 rfl (lv_at hl 2 rfl) ?_
    refine lv_imul hx hb dX12_put_20 ?_
    refine lv_topi (fun x15 ex15 => ?_)
    exact by
     have tx15 : x15.toInt = 60 * A1 := (jmul ex15 jz_60 t1 (by omega) (by omega)).trans (by omega)
     refine lv_iload_n hx hb dX12_put_21 rfl (lv_at hl 3 rfl) ?_
     refine lv_iadd hx hb dX12_put_22 ?_
     refine lv_topi (fun x16 ex16 => ?_)
     have tx16 : x16.toInt = 60 * A1 + A2 := (jadd ex16 tx15 t2 (by omega) (by omega)).trans (by omega)
     refine lv_aload_n hx hb dX12_put_23 rfl (lv_at hl 1 rfl) ?_
     refine va_get (D := D) hx hb hts inlX12 hown hK hP 55 (jc_55 cI cL ad σ τ) rfl 58 (of_decide_eq_true rfl) (hts _ kw_8_11) (fun _ h9 => h9) rfl dX12_put_24 ?_
     refine lv_iload_n hx hb dX12_put_27 rfl (lv_at hl 2 rfl) ?_
     refine jald hx hb hK hP (jc_86 cI cL ad σ τ) (jin t1 (by omega) (by omega)) dX12_put_28 ?_
     exact by
      have g17 := w1 _ (jnat (x := a1) t1 (n := 6) (by omega) (of_decide_eq_true rfl))
      refine jtopr (y := (σ 86 a1.toNatClampNeg)) rfl ?_
      refine lv_bipush (v := 20) hx hb dX12_put_29 (of_decide_eq_true rfl) ?_
      have g18 := jrg (rfl : (σ 86 a1.toNatClampNeg).toInt = (σ 86 a1.toNatClampNeg).toInt)
      refine lv_isub hx hb dX12_put_31 ?_
      refine lv_topi (fun x19 ex19 => ?_)
      have tx19 : x19.toInt = (σ 86 a1.toNatClampNeg).toInt - 20 := (jsub ex19 rfl jz_20 (by omega) (by omega)).trans (by omega)
      refine lv_lload_n hx hb dX12_put_32 rfl (lv_at hl 4 rfl) ?_
      refine jcallSl (As := [.int x19, .long a3]) (rest := [.int x16, .ref (ad 88)]) ⟨hx, hb, hml, hown, hts⟩ hK hP hA hS hZ (c_X12_asSort l D cI cL ad zz hJ σ τ x19 ((σ 86 a1.toNatClampNeg).toInt - 20) tx19 a3 (AL3) t3 (by omega)) cw_RX12_405 ⟨Nat.le_of_ble_eq_true rfl, Nat.le_of_ble_eq_true rfl⟩ rfl rfl rfl hl.1 rfl (Nat.le_of_ble_eq_true rfl) dX12_put_33 ⟨Nat.zero_le _, Nat.zero_le _⟩ (fun lxr21 σ20 τ20 H locs h20 hP hS => ?_)
      exact by
       obtain ⟨⟨rfl, rfl⟩, w22, h20⟩ := h20
       refine jastL hx hb hK hP hJ hA hS (jc_88 cI cL ad σ τ) (ja_88 cI cL ad σ τ _ _) (jin tx16 (by omega) (by omega)) dX12_put_36 (fun τ23 H locs eτ23 hP hS => ?_)
       refine lv_iload hx hb dX12_put_37 (lv_at hl 0 rfl) ?_
       refine lv_if_ne (tgt := 46) hx hb dX12_put_39 (of_decide_eq_true rfl) (fun c => absurd (of_decide_eq_true rfl) c) (fun _ => ?_)
       refine lv_iconst (v := 1) hx hb dX12_put_42 (of_decide_eq_true rfl) ?_
       refine lv_goto (tgt := 48) hx hb dX12_put_43 (of_decide_eq_true rfl) ?_
       exact by exact hret 1 σ τ23 _ _ _ _ rfl ⟨(fun i hi => (jnpL i eτ23 (imp_301 i hi))), (fun _ _ => rfl), (by have h9 := jz_1; unfold jRg; first | ((repeat (first | rw [if_pos (by omega)] | rw [if_neg (by omega)])) <;> omega) | ((repeat' split) <;> omega)), (Or.inl ⟨(by have h9 := jz_1; omega), (by rw [eτ23, jupL_row, jnc (show x16.toInt = 60 * (A1) + (A2) by have h9 := tx16; omega), w22])⟩), trivial⟩ hP hS dX12_put_48
  · obtain ⟨q25, k24⟩ := h6
    have q25 := q25.symm
    exact by
     subst q25
     refine lv_istore (lv' := [(5, .int (-1)), (0, .ref (ad 55)), (1, .int a1), (2, .int a2), (3, .long a3)]) hx hb dX12_put_6 hl (of_decide_eq_true rfl) rfl (fun ls hl => ?_)
     refine lv_iload hx hb dX12_put_8 (lv_at hl 0 rfl) ?_
     refine lv_if_ne (tgt := 37) hx hb dX12_put_10 (of_decide_eq_true rfl) (fun _ => ?_) (fun c => absurd c (of_decide_eq_true rfl))
     refine lv_iload hx hb dX12_put_37 (lv_at hl 0 rfl) ?_
     refine lv_if_ne (tgt := 46) hx hb dX12_put_39 (of_decide_eq_true rfl) (fun _ => ?_) (fun c => absurd c (of_decide_eq_true rfl))
     refine lv_iload hx hb dX12_put_46 (lv_at hl 0 rfl) ?_
     exact by exact hret (-1) σ τ _ _ _ _ rfl ⟨(fun _ _ => rfl), (fun _ _ => rfl), (by have h9 := jz_m1; unfold jRg; first | ((repeat (first | rw [if_pos (by omega)] | rw [if_neg (by omega)])) <;> omega) | ((repeat' split) <;> omega)), (Or.inr ⟨(by have h9 := jz_m1; omega), rfl⟩), trivial⟩ hP hS dX12_put_48
  · obtain ⟨q28, k26, k27⟩ := h7
    have q28 := q28.symm
    subst q28
    refine lv_istore (lv' := [(5, .int (-11)), (0, .ref (ad 55)), (1, .int a1), (2, .int a2), (3, .long a3)]) hx hb dX12_put_6 hl (of_decide_eq_true rfl) rfl (fun ls hl => ?_)
    refine lv_iload hx hb dX12_put_8 (lv_at hl 0 rfl) ?_
    refine lv_if_ne (tgt := 37) hx hb dX12_put_10 (of_decide_eq_true rfl) (fun _ => ?_) (fun c => absurd c (of_decide_eq_true rfl))
    refine lv_iload hx hb dX12_put_37 (lv_at hl 0 rfl) ?_
    refine lv_if_ne (tgt := 46) hx hb dX12_put_39 (of_decide_eq_true rfl) (fun _ => ?_) (fun c => absurd c (of_decide_eq_true rfl))
    refine lv_iload hx hb dX12_put_46 (lv_at hl 0 rfl) ?_
    exact by exact hret (-11) σ τ _ _ _ _ rfl ⟨(fun _ _ => rfl), (fun _ _ => rfl), (by have h9 := jz_m11; unfold jRg; first | ((repeat (first | rw [if_pos (by omega)] | rw [if_neg (by omega)])) <;> omega) | ((repeat' split) <;> omega)), (Or.inr ⟨(by have h9 := jz_m11; omega), rfl⟩), trivial⟩ hP hS dX12_put_48
  · obtain ⟨q31, k29, k30⟩ := h8
    have q31 := q31.symm
    subst q31
    refine lv_istore (lv' := [(5, .int (-12)), (0, .ref (ad 55)), (1, .int a1), (2, .int a2), (3, .long a3)]) hx hb dX12_put_6 hl (of_decide_eq_true rfl) rfl (fun ls hl => ?_)
    refine lv_iload hx hb dX12_put_8 (lv_at hl 0 rfl) ?_
    refine lv_if_ne (tgt := 37) hx hb dX12_put_10 (of_decide_eq_true rfl) (fun _ => ?_) (fun c => absurd c (of_decide_eq_true rfl))
    refine lv_iload hx hb dX12_put_37 (lv_at hl 0 rfl) ?_
    refine lv_if_ne (tgt := 46) hx hb dX12_put_39 (of_decide_eq_true rfl) (fun _ => ?_) (fun c => absurd c (of_decide_eq_true rfl))
    refine lv_iload hx hb dX12_put_46 (lv_at hl 0 rfl) ?_
    exact by exact hret (-12) σ τ _ _ _ _ rfl ⟨(fun _ _ => rfl), (fun _ _ => rfl), (by have h9 := jz_m12; unfold jRg; first | ((repeat (first | rw [if_pos (by omega)] | rw [if_neg (by omega)])) <;> omega) | ((repeat' split) <;> omega)), (Or.inr ⟨(by have h9 := jz_m12; omega), rfl⟩), trivial⟩ hP hS dX12_put_48
  · obtain ⟨q35, k32, k33, k34⟩ := h9
    have q35 := q35.symm
    subst q35
    refine lv_istore (lv' := [(5, .int (-13)), (0, .ref (ad 55)), (1, .int a1), (2, .int a2), (3, .long a3)]) hx hb dX12_put_6 hl (of_decide_eq_true rfl) rfl (fun ls hl => ?_)
    refine lv_iload hx hb dX12_put_8 (lv_at hl 0 rfl) ?_
    refine lv_if_ne (tgt := 37) hx hb dX12_put_10 (of_decide_eq_true rfl) (fun _ => ?_) (fun c => absurd c (of_decide_eq_true rfl))
    refine lv_iload hx hb dX12_put_37 (lv_at hl 0 rfl) ?_
    refine lv_if_ne (tgt := 46) hx hb dX12_put_39 (of_decide_eq_true rfl) (fun _ => ?_) (fun c => absurd c (of_decide_eq_true rfl))
    refine lv_iload hx hb dX12_put_46 (lv_at hl 0 rfl) ?_
    exact by exact hret (-13) σ τ _ _ _ _ rfl ⟨(fun _ _ => rfl), (fun _ _ => rfl), (by have h9 := jz_m13; unfold jRg; first | ((repeat (first | rw [if_pos (by omega)] | rw [if_neg (by omega)])) <;> omega) | ((repeat' split) <;> omega)), (Or.inr ⟨(by have h9 := jz_m13; omega), rfl⟩), trivial⟩ hP hS dX12_put_48
set_option maxHeartbeats 4000000 in
set_option maxRecDepth 100000 in
theorem c_X12_element (l : Launch) (D : va_G) (cI cL : ClassId) (ad zz : Nat → Nat) (hJ : jD ad) (σ : Nat → Nat → Int32) (τ : Nat → Nat → Int64) (a1 : Int32) (A1 : Int) (t1 : a1.toInt = A1) (a2 : Int32) (A2 : Int) (t2 : a2.toInt = A2) (hI110 : jI110 σ) : jMl l yX12_element cX12_element 3 (some .long) ({ frames := 3, cells := 0, slots := 0, locals := 67 }) D cI cL ad zz [.ref (ad 55), .int a1, .int a2] σ τ (fun r σ' τ' => (σ = σ' ∧ τ = τ') ∧ (jGt (jRg (A1) (A2) ((σ 86 a1.toNatClampNeg).toInt) ((σ 87 a1.toNatClampNeg).toInt)) (60 * (A1) + (A2)).toNat (τ 88) r) ∧ True) := by
  refine jMl.of hJ (by decide +kernel) rfl (Nat.le_of_ble_eq_true rfl) ?_
  intro p e s m args below meth c Q ls hC hret hl hP
  obtain ⟨hx, hb, hr, hml, hown, hts, hK, -, hlocks, hZ⟩ := hC
  have hown : s.vm.findClass RX12 = some m.cls := hown
  have hS : va_S (jA ad) s.heap s.heap [] := va_S.rf
  have hA : ∀ q, jA ad q → jA ad q := fun _ h => h
  have hl : lv_has ls 3 [(0, .ref (ad 55)), (1, .int a1), (2, .int a2)] := hl
  have g1 := jrg t1
  have g2 := jrg t2
  refine lv_aload_n hx hb dX12_element_0 rfl (lv_at hl 0 rfl) ?_
  refine lv_iload_n hx hb dX12_element_1 rfl (lv_at hl 1 rfl) ?_
  refine lv_iload_n hx hb dX12_element_2 rfl (lv_at hl 2 rfl) ?_
  refine jcallV (As := [.int a1, .int a2]) (rest := []) ⟨hx, hb, hml, hown, hts⟩ hK hP hA hS hZ (c_X12_refusal l D cI cL ad zz hJ σ τ a1 (A1) t1 a2 (A2) t2 hI110) cw_RX12_402 (jc_55 cI cL ad σ τ) rfl ⟨Nat.le_of_ble_eq_true rfl, Nat.le_of_ble_eq_true rfl⟩ rfl rfl rfl hl.1 rfl (Nat.le_of_ble_eq_true rfl) dX12_element_3 ⟨Nat.zero_le _, Nat.zero_le _⟩ (fun r2 σ1 τ1 H locs h1 hP hS => ?_)
  obtain ⟨⟨rfl, rfl⟩, h1⟩ := h1
  rcases h1 with h3 | h4 | h5 | h6 | h7
  · obtain ⟨q12, k8, k9, k10, k11⟩ := h3
    have q12 := q12.symm
    subst q12
    refine lv_if_eq (tgt := 15) hx hb dX12_element_6 (of_decide_eq_true rfl) (fun _ => ?_) (fun c => absurd (of_decide_eq_true rfl) c)
    refine lv_aload_n hx hb dX12_element_15 rfl (lv_at hl 0 rfl) ?_
    refine va_get (D := D) hx hb hts inlX12 hown hK hP 55 (jc_55 cI cL ad σ τ) rfl 60 (of_decide_eq_true rfl) (hts _ kw_8_13) (fun _ h9 => h9) rfl dX12_element_16 ?_
    refine lv_bipush (v := 60) hx hb dX12_element_19 (of_decide_eq_true rfl) ?_
    refine lv_iload_n hx hb dX12_element_21 rfl (lv_at hl 1 rfl) ?_
    refine lv_imul hx hb dX12_element_22 ?_
    refine lv_topi (fun x13 ex13 => ?_)
    exact by
     have tx13 : x13.toInt = 60 * A1 := (jmul ex13 jz_60 t1 (by omega) (by omega)).trans (by omega)
     refine lv_iload_n hx hb dX12_element_23 rfl (lv_at hl 2 rfl) ?_
     refine lv_iadd hx hb dX12_element_24 ?_
     refine lv_topi (fun x14 ex14 => ?_)
     have tx14 : x14.toInt = 60 * A1 + A2 := (jadd ex14 tx13 t2 (by omega) (by omega)).trans (by omega)
     refine jaldL hx hb hK hP (jc_88 cI cL ad σ τ) (jin tx14 (by omega) (by omega)) dX12_element_25 ?_
     refine lv_topl (fun lx15 elx15 => ?_)
     exact by exact hret lx15 σ τ _ _ _ _ ⟨⟨rfl, rfl⟩, (Or.inl ⟨(by unfold jRg; first | ((repeat (first | rw [if_pos (by omega)] | rw [if_neg (by omega)])) <;> omega) | ((repeat' split) <;> omega)), (by rw [elx15, jnc (show x14.toInt = 60 * (A1) + (A2) by have h9 := tx14; omega)])⟩), trivial⟩ hP hS dX12_element_26
  · obtain ⟨q17, k16⟩ := h4
    exact by
     have q17 := q17.symm
     subst q17
     refine lv_if_eq (tgt := 15) hx hb dX12_element_6 (of_decide_eq_true rfl) (fun c => absurd c (of_decide_eq_true rfl)) (fun _ => ?_)
     refine lv_ldc2 (v := (-9223372036854775808)) hx hb hown (hts _ kw_53_3) dX12_element_9 ?_
     refine lv_goto (tgt := 26) hx hb dX12_element_12 (of_decide_eq_true rfl) ?_
     exact hret (-9223372036854775808) σ τ _ _ _ _ ⟨⟨rfl, rfl⟩, (Or.inr ⟨(by unfold jRg; first | ((repeat (first | rw [if_pos (by omega)] | rw [if_neg (by omega)])) <;> omega) | ((repeat' split) <;> omega)), rfl⟩), trivial⟩ hP hS dX12_element_26
  · obtain ⟨q20, k18, k19⟩ := h5
    have q20 := q20.symm
    subst q20
    refine lv_if_eq (tgt := 15) hx hb dX12_element_6 (of_decide_eq_true rfl) (fun c => absurd c (of_decide_eq_true rfl)) (fun _ => ?_)
    refine lv_ldc2 (v := (-9223372036854775808)) hx hb hown (hts _ kw_53_3) dX12_element_9 ?_
    refine lv_goto (tgt := 26) hx hb dX12_element_12 (of_decide_eq_true rfl) ?_
    exact hret (-9223372036854775808) σ τ _ _ _ _ ⟨⟨rfl, rfl⟩, (Or.inr ⟨(by unfold jRg; first | ((repeat (first | rw [if_pos (by omega)] | rw [if_neg (by omega)])) <;> omega) | ((repeat' split) <;> omega)), rfl⟩), trivial⟩ hP hS dX12_element_26
  · obtain ⟨q23, k21, k22⟩ := h6
    have q23 := q23.symm
    subst q23
    refine lv_if_eq (tgt := 15) hx hb dX12_element_6 (of_decide_eq_true rfl) (fun c => absurd c (of_decide_eq_true rfl)) (fun _ => ?_)
    refine lv_ldc2 (v := (-9223372036854775808)) hx hb hown (hts _ kw_53_3) dX12_element_9 ?_
    refine lv_goto (tgt := 26) hx hb dX12_element_12 (of_decide_eq_true rfl) ?_
    exact hret (-9223372036854775808) σ τ _ _ _ _ ⟨⟨rfl, rfl⟩, (Or.inr ⟨(by unfold jRg; first | ((repeat (first | rw [if_pos (by omega)] | rw [if_neg (by omega)])) <;> omega) | ((repeat' split) <;> omega)), rfl⟩), trivial⟩ hP hS dX12_element_26
  · obtain ⟨q27, k24, k25, k26⟩ := h7
    have q27 := q27.symm
    subst q27
    refine lv_if_eq (tgt := 15) hx hb dX12_element_6 (of_decide_eq_true rfl) (fun c => absurd c (of_decide_eq_true rfl)) (fun _ => ?_)
    refine lv_ldc2 (v := (-9223372036854775808)) hx hb hown (hts _ kw_53_3) dX12_element_9 ?_
    refine lv_goto (tgt := 26) hx hb dX12_element_12 (of_decide_eq_true rfl) ?_
    exact hret (-9223372036854775808) σ τ _ _ _ _ ⟨⟨rfl, rfl⟩, (Or.inr ⟨(by unfold jRg; first | ((repeat (first | rw [if_pos (by omega)] | rw [if_neg (by omega)])) <;> omega) | ((repeat' split) <;> omega)), rfl⟩), trivial⟩ hP hS dX12_element_26
set_option maxHeartbeats 4000000 in
set_option maxRecDepth 100000 in
theorem c_X12_shift (l : Launch) (D : va_G) (cI cL : ClassId) (ad zz : Nat → Nat) (hJ : jD ad) (σ : Nat → Nat → Int32) (τ : Nat → Nat → Int64) (a1 : Int32) (A1 : Int) (t1 : a1.toInt = A1) (a2 : Int32) (A2 : Int) (t2 : a2.toInt = A2) (a3 : Int32) (A3 : Int) (t3 : a3.toInt = A3) (a4 : Int32) (A4 : Int) (t4 : a4.toInt = A4) (a5 : Int32) (A5 : Int) (t5 : a5.toInt = A5) (hI110 : jI110 σ) : jM l yX12_shift cX12_shift 7 (some .int) ({ frames := 2, cells := 0, slots := 0, locals := 45 }) D cI cL ad zz [.ref (ad 55), .int a1, .int a2, .int a3, .int a4, .int a5] σ τ (fun r σ' τ' => (∀ i : Nat, (i < 88 ∨ 89 < i) → τ' i = τ i) ∧ (∀ i : Nat, (0 = 0) → σ' i = σ i) ∧ (r.toInt = jSg (A1) (A2) (A3) (A4) (A5) ((σ 86 a1.toNatClampNeg).toInt) ((σ 86 a3.toNatClampNeg).toInt) ((σ 87 a1.toNatClampNeg).toInt) ((σ 87 a3.toNatClampNeg).toInt)) ∧ (jMvL (r.toInt) (60 * (A1) + (A2)).toNat (60 * (A3) + (A4)).toNat (A5) (τ 88) (τ' 88)) ∧ True) := by
  refine jM.of hJ (by decide +kernel) (nt := .int) rfl (Nat.le_of_ble_eq_true rfl) ?_
  intro p e s m args below meth c Q ls hC hret hl hP
  obtain ⟨hx, hb, hr, hml, hown, hts, hK, -, hlocks, hZ⟩ := hC
  have hown : s.vm.findClass RX12 = some m.cls := hown
  have hS : va_S (jA ad) s.heap s.heap [] := va_S.rf
  have hA : ∀ q, jA ad q → jA ad q := fun _ h => h
  have hl : lv_has ls 7 [(0, .ref (ad 55)), (1, .int a1), (2, .int a2), (3, .int a3), (4, .int a4), (5, .int a5)] := hl
  have g1 := jrg t1
  have g2 := jrg t2
  have g3 := jrg t3
  have g4 := jrg t4
  have g5 := jrg t5
  obtain ⟨w1, w2⟩ : (∀ k : Nat, k < 6 → (-1) ≤ (σ 86 k).toInt ∧ (σ 86 k).toInt ≤ 24) ∧ (∀ k : Nat, k < 6 → 0 ≤ (σ 87 k).toInt ∧ (σ 87 k).toInt ≤ 60) := id hI110
  refine lv_iload_n hx hb dX12_shift_0 rfl (lv_at hl 1 rfl) ?_
  refine jcallS (As := [.int a1]) (rest := []) ⟨hx, hb, hml, hown, hts⟩ hK hP hA hS hZ (c_X12_isShelf l D cI cL ad zz hJ σ τ a1 (A1) t1) cw_RX12_361 ⟨Nat.le_of_ble_eq_true rfl, Nat.le_of_ble_eq_true rfl⟩ rfl rfl rfl hl.1 rfl (Nat.le_of_ble_eq_true rfl) dX12_shift_1 ⟨Nat.zero_le _, Nat.zero_le _⟩ (fun r4 σ3 τ3 H locs h3 hP hS => ?_)
  obtain ⟨⟨rfl, rfl⟩, h3⟩ := h3
  rcases h3 with h5 | h6
  · obtain ⟨q8, k7⟩ := h5
    have q8 := q8.symm
    subst q8
    refine lv_if_eq (tgt := 14) hx hb dX12_shift_4 (of_decide_eq_true rfl) (fun c => absurd c (of_decide_eq_true rfl)) (fun _ => ?_)
    refine lv_iload_n hx hb dX12_shift_7 rfl (lv_at hl 3 rfl) ?_
    refine jcallS (As := [.int a3]) (rest := []) ⟨hx, hb, hml, hown, hts⟩ hK hP hA hS hZ (c_X12_isShelf l D cI cL ad zz hJ σ τ a3 (A3) t3) cw_RX12_361 ⟨Nat.le_of_ble_eq_true rfl, Nat.le_of_ble_eq_true rfl⟩ rfl rfl rfl hl.1 rfl (Nat.le_of_ble_eq_true rfl) dX12_shift_8 ⟨Nat.zero_le _, Nat.zero_le _⟩ (fun r10 σ9 τ9 H locs h9 hP hS => ?_)
    obtain ⟨⟨rfl, rfl⟩, h9⟩ := h9
    rcases h9 with h11 | h12
    · obtain ⟨q14, k13⟩ := h11
      have q14 := q14.symm
      subst q14
      refine lv_if_ne (tgt := 16) hx hb dX12_shift_11 (of_decide_eq_true rfl) (fun _ => ?_) (fun c => absurd c (of_decide_eq_true rfl))
      refine lv_aload_n hx hb dX12_shift_16 rfl (lv_at hl 0 rfl) ?_
      refine va_get (D := D) hx hb hts inlX12 hown hK hP 55 (jc_55 cI cL ad σ τ) rfl 58 (of_decide_eq_true rfl) (hts _ kw_8_11) (fun _ h9 => h9) rfl dX12_shift_17 ?_
      refine lv_iload_n hx hb dX12_shift_20 rfl (lv_at hl 1 rfl) ?_
      exact by
       refine jald hx hb hK hP (jc_86 cI cL ad σ τ) (jin t1 (by omega) (by omega)) dX12_shift_21 ?_
       have g15 := w1 _ (jnat (x := a1) t1 (n := 6) (by omega) (of_decide_eq_true rfl))
       refine jtopr (y := (σ 86 a1.toNatClampNeg)) rfl ?_
       refine lv_if_lt (tgt := 34) hx hb dX12_shift_22 (of_decide_eq_true rfl) (fun c16 => ?_) (fun c16 => ?_)
       · have kc16 := jlt c16 rfl jz_0
         refine lv_bipush (v := (-11)) hx hb dX12_shift_34 (of_decide_eq_true rfl) ?_
         exact by exact hret (-11) σ τ _ _ _ _ rfl ⟨(fun _ _ => rfl), (fun _ _ => rfl), (by have h9 := jz_m11; unfold jSg; first | ((repeat (first | rw [if_pos (by omega)] | rw [if_neg (by omega)])) <;> omega) | ((repeat' split) <;> omega)), (Or.inr ⟨(by have h9 := jz_m11; omega), rfl⟩), trivial⟩ hP hS dX12_shift_36
       · have kc16 := jnlt c16 rfl jz_0
         refine lv_aload_n hx hb dX12_shift_25 rfl (lv_at hl 0 rfl) ?_
         exact by
          refine va_get (D := D) hx hb hts inlX12 hown hK hP 55 (jc_55 cI cL ad σ τ) rfl 58 (of_decide_eq_true rfl) (hts _ kw_8_11) (fun _ h9 => h9) rfl dX12_shift_26 ?_
          refine lv_iload_n hx hb dX12_shift_29 rfl (lv_at hl 3 rfl) ?_
          refine jald hx hb hK hP (jc_86 cI cL ad σ τ) (jin t3 (by omega) (by omega)) dX12_shift_30 ?_
          have g17 := w1 _ (jnat (x := a3) t3 (n := 6) (by omega) (of_decide_eq_true rfl))
          refine jtopr (y := (σ 86 a3.toNatClampNeg)) rfl ?_
          refine lv_if_ge (tgt := 37) hx hb dX12_shift_31 (of_decide_eq_true rfl) (fun c18 => ?_) (fun c18 => ?_)
          · have kc18 := jle c18 jz_0 rfl
            refine lv_aload_n hx hb dX12_shift_37 rfl (lv_at hl 0 rfl) ?_
            refine va_get (D := D) hx hb hts inlX12 hown hK hP 55 (jc_55 cI cL ad σ τ) rfl 58 (of_decide_eq_true rfl) (hts _ kw_8_11) (fun _ h9 => h9) rfl dX12_shift_38 ?_
            exact by
             refine lv_iload_n hx hb dX12_shift_41 rfl (lv_at hl 1 rfl) ?_
             refine jald hx hb hK hP (jc_86 cI cL ad σ τ) (jin t1 (by omega) (by omega)) dX12_shift_42 ?_
             have g19 := w1 _ (jnat (x := a1) t1 (n := 6) (by omega) (of_decide_eq_true rfl))
             refine jtopr (y := (σ 86 a1.toNatClampNeg)) rfl ?_
             refine lv_bipush (v := 20) hx hb dX12_shift_43 (of_decide_eq_true rfl) ?_
             refine lv_icmp_lt (tgt := 63) hx hb dX12_shift_45 (of_decide_eq_true rfl) (fun c20 => ?_) (fun c20 => ?_)
             · have kc20 := jlt c20 rfl jz_20
               refine lv_bipush (v := (-12)) hx hb dX12_shift_63 (of_decide_eq_true rfl) ?_
               exact by exact hret (-12) σ τ _ _ _ _ rfl ⟨(fun _ _ => rfl), (fun _ _ => rfl), (by have h9 := jz_m12; unfold jSg; first | ((repeat (first | rw [if_pos (by omega)] | rw [if_neg (by omega)])) <;> omega) | ((repeat' split) <;> omega)), (Or.inr ⟨(by have h9 := jz_m12; omega), rfl⟩), trivial⟩ hP hS dX12_shift_65
             · exact by
                have kc20 := jnlt c20 rfl jz_20
                refine lv_aload_n hx hb dX12_shift_48 rfl (lv_at hl 0 rfl) ?_
                refine va_get (D := D) hx hb hts inlX12 hown hK hP 55 (jc_55 cI cL ad σ τ) rfl 58 (of_decide_eq_true rfl) (hts _ kw_8_11) (fun _ h9 => h9) rfl dX12_shift_49 ?_
                refine lv_iload_n hx hb dX12_shift_52 rfl (lv_at hl 1 rfl) ?_
                refine jald hx hb hK hP (jc_86 cI cL ad σ τ) (jin t1 (by omega) (by omega)) dX12_shift_53 ?_
                refine jtopr (y := (σ 86 a1.toNatClampNeg)) rfl ?_
                refine lv_aload_n hx hb dX12_shift_54 rfl (lv_at hl 0 rfl) ?_
                refine va_get (D := D) hx hb hts inlX12 hown hK hP 55 (jc_55 cI cL ad σ τ) rfl 58 (of_decide_eq_true rfl) (hts _ kw_8_11) (fun _ h9 => h9) rfl dX12_shift_55 ?_
                refine lv_iload_n hx hb dX12_shift_58 rfl (lv_at hl 3 rfl) ?_
                exact by
                 refine jald hx hb hK hP (jc_86 cI cL ad σ τ) (jin t3 (by omega) (by omega)) dX12_shift_59 ?_
                 have g21 := w1 _ (jnat (x := a3) t3 (n := 6) (by omega) (of_decide_eq_true rfl))
                 refine jtopr (y := (σ 86 a3.toNatClampNeg)) rfl ?_
                 refine lv_icmp_eq (tgt := 66) hx hb dX12_shift_60 (of_decide_eq_true rfl) (fun c22 => ?_) (fun c22 => ?_)
                 · have kc22 := jeq c22 rfl rfl
                   refine lv_iload hx hb dX12_shift_66 (lv_at hl 5 rfl) ?_
                   refine lv_if_lt (tgt := 107) hx hb dX12_shift_68 (of_decide_eq_true rfl) (fun c23 => ?_) (fun c23 => ?_)
                   · have kc23 := jlt c23 t5 jz_0
                     refine lv_bipush (v := (-13)) hx hb dX12_shift_107 (of_decide_eq_true rfl) ?_
                     exact by exact hret (-13) σ τ _ _ _ _ rfl ⟨(fun _ _ => rfl), (fun _ _ => rfl), (by have h9 := jz_m13; unfold jSg; first | ((repeat (first | rw [if_pos (by omega)] | rw [if_neg (by omega)])) <;> omega) | ((repeat' split) <;> omega)), (Or.inr ⟨(by have h9 := jz_m13; omega), rfl⟩), trivial⟩ hP hS dX12_shift_109
                   · exact by
                      have kc23 := jnlt c23 t5 jz_0
                      refine lv_iload_n hx hb dX12_shift_71 rfl (lv_at hl 2 rfl) ?_
                      refine lv_if_lt (tgt := 107) hx hb dX12_shift_72 (of_decide_eq_true rfl) (fun c24 => ?_) (fun c24 => ?_)
                      · have kc24 := jlt c24 t2 jz_0
                        refine lv_bipush (v := (-13)) hx hb dX12_shift_107 (of_decide_eq_true rfl) ?_
                        exact by exact hret (-13) σ τ _ _ _ _ rfl ⟨(fun _ _ => rfl), (fun _ _ => rfl), (by have h9 := jz_m13; unfold jSg; first | ((repeat (first | rw [if_pos (by omega)] | rw [if_neg (by omega)])) <;> omega) | ((repeat' split) <;> omega)), (Or.inr ⟨(by have h9 := jz_m13; omega), rfl⟩), trivial⟩ hP hS dX12_shift_109
                      · have kc24 := jnlt c24 t2 jz_0
                        refine lv_iload hx hb dX12_shift_75 (lv_at hl 4 rfl) ?_
                        refine lv_if_lt (tgt := 107) hx hb dX12_shift_77 (of_decide_eq_true rfl) (fun c25 => ?_) (fun c25 => ?_)
                        · have kc25 := jlt c25 t4 jz_0
                          refine lv_bipush (v := (-13)) hx hb dX12_shift_107 (of_decide_eq_true rfl) ?_
                          exact by exact hret (-13) σ τ _ _ _ _ rfl ⟨(fun _ _ => rfl), (fun _ _ => rfl), (by have h9 := jz_m13; unfold jSg; first | ((repeat (first | rw [if_pos (by omega)] | rw [if_neg (by omega)])) <;> omega) | ((repeat' split) <;> omega)), (Or.inr ⟨(by have h9 := jz_m13; omega), rfl⟩), trivial⟩ hP hS dX12_shift_109
                        · have kc25 := jnlt c25 t4 jz_0
                          refine lv_iload_n hx hb dX12_shift_80 rfl (lv_at hl 2 rfl) ?_
                          refine lv_aload_n hx hb dX12_shift_81 rfl (lv_at hl 0 rfl) ?_
                          refine va_get (D := D) hx hb hts inlX12 hown hK hP 55 (jc_55 cI cL ad σ τ) rfl 59 (of_decide_eq_true rfl) (hts _ kw_8_12) (fun _ h9 => h9) rfl dX12_shift_82 ?_
                          refine lv_iload_n hx hb dX12_shift_85 rfl (lv_at hl 1 rfl) ?_
                          exact by
                           refine jald hx hb hK hP (jc_87 cI cL ad σ τ) (jin t1 (by omega) (by omega)) dX12_shift_86 ?_
                           have g26 := w2 _ (jnat (x := a1) t1 (n := 6) (by omega) (of_decide_eq_true rfl))
                           refine jtopr (y := (σ 87 a1.toNatClampNeg)) rfl ?_
                           refine lv_iload hx hb dX12_shift_87 (lv_at hl 5 rfl) ?_
                           have g27 := jrg (rfl : (σ 87 a1.toNatClampNeg).toInt = (σ 87 a1.toNatClampNeg).toInt)
                           refine lv_isub hx hb dX12_shift_89 ?_
                           refine lv_topi (fun x28 ex28 => ?_)
                           have tx28 : x28.toInt = (σ 87 a1.toNatClampNeg).toInt - A5 := (jsub ex28 rfl t5 (by omega) (by omega)).trans (by omega)
                           refine lv_icmp_gt (tgt := 107) hx hb dX12_shift_90 (of_decide_eq_true rfl) (fun c29 => ?_) (fun c29 => ?_)
                           · exact by
                              have kc29 := jlt c29 tx28 t2
                              refine lv_bipush (v := (-13)) hx hb dX12_shift_107 (of_decide_eq_true rfl) ?_
                              exact by exact hret (-13) σ τ _ _ _ _ rfl ⟨(fun _ _ => rfl), (fun _ _ => rfl), (by have h9 := jz_m13; unfold jSg; first | ((repeat (first | rw [if_pos (by omega)] | rw [if_neg (by omega)])) <;> omega) | ((repeat' split) <;> omega)), (Or.inr ⟨(by have h9 := jz_m13; omega), rfl⟩), trivial⟩ hP hS dX12_shift_109
                           · have kc29 := jnlt c29 tx28 t2
                             refine lv_iload hx hb dX12_shift_93 (lv_at hl 4 rfl) ?_
                             refine lv_aload_n hx hb dX12_shift_95 rfl (lv_at hl 0 rfl) ?_
                             refine va_get (D := D) hx hb hts inlX12 hown hK hP 55 (jc_55 cI cL ad σ τ) rfl 59 (of_decide_eq_true rfl) (hts _ kw_8_12) (fun _ h9 => h9) rfl dX12_shift_96 ?_
                             refine lv_iload_n hx hb dX12_shift_99 rfl (lv_at hl 3 rfl) ?_
                             refine jald hx hb hK hP (jc_87 cI cL ad σ τ) (jin t3 (by omega) (by omega)) dX12_shift_100 ?_
                             exact by
                              have g30 := w2 _ (jnat (x := a3) t3 (n := 6) (by omega) (of_decide_eq_true rfl))
                              refine jtopr (y := (σ 87 a3.toNatClampNeg)) rfl ?_
                              refine lv_iload hx hb dX12_shift_101 (lv_at hl 5 rfl) ?_
                              have g31 := jrg (rfl : (σ 87 a3.toNatClampNeg).toInt = (σ 87 a3.toNatClampNeg).toInt)
                              refine lv_isub hx hb dX12_shift_103 ?_
                              refine lv_topi (fun x32 ex32 => ?_)
                              have tx32 : x32.toInt = (σ 87 a3.toNatClampNeg).toInt - A5 := (jsub ex32 rfl t5 (by omega) (by omega)).trans (by omega)
                              refine lv_icmp_le (tgt := 110) hx hb dX12_shift_104 (of_decide_eq_true rfl) (fun c33 => ?_) (fun c33 => ?_)
                              · have kc33 := jle c33 t4 tx32
                                exact by
                                 refine lv_iconst (v := 0) hx hb dX12_shift_110 (of_decide_eq_true rfl) ?_
                                 refine lv_istore (lv' := [(6, .int 0), (0, .ref (ad 55)), (1, .int a1), (2, .int a2), (3, .int a3), (4, .int a4), (5, .int a5)]) hx hb dX12_shift_111 hl (of_decide_eq_true rfl) rfl (fun ls hl => ?_)
                                 have lp34 : ∀ (n35 : Nat) (x36 : Int32) (σ37 : Nat → Nat → Int32) (τ37 : Nat → Nat → Int64) (H : Heap) (locs : List Loc) (ls : Array Slot), (A5 - x36.toInt : Int) < n35 → 0 ≤ x36.toInt → x36.toInt ≤ 60 → x36.toInt ≤ A5 → (∀ i : Nat, (0 = 0) → σ37 i = σ i) → (∀ i : Nat, (i < 89 ∨ 89 < i) → τ37 i = τ i) → (jCo (τ 88) (τ 89) (τ37 89) (60 * (A1) + (A2)).toNat 0 (x36.toInt)) → jH D cI cL ad σ37 τ37 H → va_S (jA ad) s.heap H locs → lv_has ls 7 [(6, .int x36), (0, .ref (ad 55)), (1, .int a1), (2, .int a2), (3, .int a3), (4, .int a4), (5, .int a5)] → W p l e ({ frames := 2, cells := 0, slots := 0, locals := 45 }) s m args below meth c H locs 0 0 Q (F0 m 113 ls []) := by
                                   intro n35
                                   induction n35 with
                                   | zero => intro x36 σ37 τ37 H locs ls h39 h40 h41 h42; exact absurd h39 (by omega)
                                   | succ n35 ihlp34 =>
                                     intro x36 σ37 τ37 H locs ls h39 h40 h41 h42 f43 f38 q44 hP hS hl
                                     refine lv_iload hx hb dX12_shift_113 (lv_at hl 0 rfl) ?_
                                     exact by
                                      refine lv_iload hx hb dX12_shift_115 (lv_at hl 6 rfl) ?_
                                      refine lv_icmp_ge (tgt := 147) hx hb dX12_shift_117 (of_decide_eq_true rfl) (fun c45 => ?_) (fun c45 => ?_)
                                      · have kc45 := jle c45 t5 rfl
                                        refine lv_iconst (v := 0) hx hb dX12_shift_147 (of_decide_eq_true rfl) ?_
                                        refine lv_istore (lv' := [(6, .int 0), (0, .ref (ad 55)), (1, .int a1), (2, .int a2), (3, .int a3), (4, .int a4), (5, .int a5)]) hx hb dX12_shift_148 hl (of_decide_eq_true rfl) rfl (fun ls hl => ?_)
                                        have lp46 : ∀ (n47 : Nat) (x48 : Int32) (σ49 : Nat → Nat → Int32) (τ49 : Nat → Nat → Int64) (H : Heap) (locs : List Loc) (ls : Array Slot), (A5 - x48.toInt : Int) < n47 → 0 ≤ x48.toInt → x48.toInt ≤ 60 → x48.toInt ≤ A5 → (∀ i : Nat, (0 = 0) → σ49 i = σ37 i) → (∀ i : Nat, (i < 88 ∨ 88 < i) → τ49 i = τ37 i) → (jCo (τ37 89) (τ37 88) (τ49 88) 0 (60 * (A3) + (A4)).toNat (x48.toInt)) → jH D cI cL ad σ49 τ49 H → va_S (jA ad) s.heap H locs → lv_has ls 7 [(6, .int x48), (0, .ref (ad 55)), (1, .int a1), (2, .int a2), (3, .int a3), (4, .int a4), (5, .int a5)] → W p l e ({ frames := 2, cells := 0, slots := 0, locals := 45 }) s m args below meth c H locs 0 0 Q (F0 m 150 ls []) := by
                                          intro n47
                                          induction n47 with
                                          | zero => intro x48 σ49 τ49 H locs ls h51 h52 h53 h54; exact absurd h51 (by omega)
                                          | succ n47 ihlp46 =>
                                            intro x48 σ49 τ49 H locs ls h51 h52 h53 h54 f55 f50 q56 hP hS hl
                                            exact by
                                             refine lv_iload hx hb dX12_shift_150 (lv_at hl 0 rfl) ?_
                                             refine lv_iload hx hb dX12_shift_152 (lv_at hl 6 rfl) ?_
                                             refine lv_icmp_ge (tgt := 185) hx hb dX12_shift_154 (of_decide_eq_true rfl) (fun c57 => ?_) (fun c57 => ?_)
                                             · have kc57 := jle c57 t5 rfl
                                               refine lv_iload hx hb dX12_shift_185 (lv_at hl 6 rfl) ?_
                                               exact by exact hret a5 σ49 τ49 _ _ _ _ rfl ⟨(fun i hi => ((f50 i (imp_302 i hi)).trans (f38 i (imp_303 i hi)))), (fun i hi => ((f55 i hi).trans (f43 i hi))), (by have h9 := t5; unfold jSg; first | ((repeat (first | rw [if_pos (by omega)] | rw [if_neg (by omega)])) <;> omega) | ((repeat' split) <;> omega)), (jCo.mvl (h := τ37 89) (g := τ 89) (by rw [show A5 = x36.toInt by omega]; exact q44) (by rw [show A5 = x48.toInt by omega, ← (show τ37 88 = τ 88 from (f38 88 (of_decide_eq_true rfl)))]; exact q56) (by have h9 := t5; omega)), trivial⟩ hP hS dX12_shift_187
                                             · have kc57 := jnle c57 t5 rfl
                                               refine lv_aload_n hx hb dX12_shift_157 rfl (lv_at hl 1 rfl) ?_
                                               refine va_get (D := D) hx hb hts inlX12 hown hK hP 55 (jc_55 cI cL ad σ49 τ49) rfl 60 (of_decide_eq_true rfl) (hts _ kw_8_13) (fun _ h9 => h9) rfl dX12_shift_158 ?_
                                               refine lv_bipush (v := 60) hx hb dX12_shift_161 (of_decide_eq_true rfl) ?_
                                               refine lv_iload_n hx hb dX12_shift_163 rfl (lv_at hl 4 rfl) ?_
                                               refine lv_imul hx hb dX12_shift_164 ?_
                                               refine lv_topi (fun x58 ex58 => ?_)
                                               exact by
                                                have tx58 : x58.toInt = 60 * A3 := (jmul ex58 jz_60 t3 (by omega) (by omega)).trans (by omega)
                                                refine lv_iload hx hb dX12_shift_165 (lv_at hl 5 rfl) ?_
                                                refine lv_iadd hx hb dX12_shift_167 ?_
                                                refine lv_topi (fun x59 ex59 => ?_)
                                                have tx59 : x59.toInt = 60 * A3 + A4 := (jadd ex59 tx58 t4 (by omega) (by omega)).trans (by omega)
                                                refine lv_iload hx hb dX12_shift_168 (lv_at hl 0 rfl) ?_
                                                have g60 := jrg (rfl : x48.toInt = x48.toInt)
                                                refine lv_iadd hx hb dX12_shift_170 ?_
                                                refine lv_topi (fun x61 ex61 => ?_)
                                                exact by
                                                 have tx61 : x61.toInt = 60 * A3 + A4 + x48.toInt := (jadd ex61 tx59 rfl (by omega) (by omega)).trans (by omega)
                                                 refine lv_aload_n hx hb dX12_shift_171 rfl (lv_at hl 1 rfl) ?_
                                                 refine va_get (D := D) hx hb hts inlX12 hown hK hP 55 (jc_55 cI cL ad σ49 τ49) rfl 61 (of_decide_eq_true rfl) (hts _ kw_8_14) (fun _ h9 => h9) rfl dX12_shift_172 ?_
                                                 refine lv_iload hx hb dX12_shift_175 (lv_at hl 0 rfl) ?_
                                                 refine jaldL hx hb hK hP (jc_89 cI cL ad σ49 τ49) (jin rfl (by omega) (by omega)) dX12_shift_177 ?_
                                                 refine lv_topl (fun lx62 elx62 => ?_)
                                                 refine jastL hx hb hK hP hJ hA hS (jc_88 cI cL ad σ49 τ49) (ja_88 cI cL ad σ49 τ49 _ _) (jin tx61 (by omega) (by omega)) dX12_shift_178 (fun τ63 H locs eτ63 hP hS => ?_)
                                                 obtain ⟨x64, ex64⟩ : ∃ y : Int32, y = x48 + 1 := ⟨_, rfl⟩
                                                 have tx64 : x64.toInt = x48.toInt + 1 := (jadd ex64 rfl jz_1 (by omega) (by omega)).trans (by omega)
                                                 exact by
                                                  refine lv_iinc (v := x64) (lv' := [(6, .int x64), (0, .ref (ad 55)), (1, .int a1), (2, .int a2), (3, .int a3), (4, .int a4), (5, .int a5)]) hx hb dX12_shift_179 hl (k := 0) rfl (by rw [ex64]; rfl) (of_decide_eq_true rfl) rfl (fun ls hl => ?_)
                                                  refine lv_goto (tgt := 150) hx hb dX12_shift_182 (of_decide_eq_true rfl) ?_
                                                  exact by exact ihlp46 x64 σ49 τ63 _ _ ls (by have h90 := tx64; omega) (by have h90 := tx64; omega) (by have h90 := tx64; omega) (by have h90 := tx64; omega) (fun i hi => (f55 i hi)) (fun i hi => ((jnpL i eτ63 (imp_301 i hi)).trans (f50 i hi)))   (jCo.step q56 (by omega) (by rw [eτ63, jupL_row, jnc (rfl : x61.toInt = x61.toInt)]) (by have h9 := tx61; omega) (by rw [elx62, show τ49 89 = τ37 89 from (f50 89 (of_decide_eq_true rfl)), jnc (rfl : x48.toInt = x48.toInt)]; congr 1; omega) (by have h9 := tx64; omega)) hP hS (lv_sub hl [0, 1, 2, 3, 4, 5, 6] rfl)
                                        exact by exact lp46 1000000 0 σ37 τ37 _ _ ls (by have h90 := jz_0; omega) (by have h90 := jz_0; omega) (by have h90 := jz_0; omega) (by have h90 := jz_0; omega) (fun _ _ => rfl) (fun _ _ => rfl)  (jCo.first (by have h9 := jz_0; omega)) hP hS hl
                                      · have kc45 := jnle c45 t5 rfl
                                        refine lv_aload_n hx hb dX12_shift_120 rfl (lv_at hl 1 rfl) ?_
                                        refine va_get (D := D) hx hb hts inlX12 hown hK hP 55 (jc_55 cI cL ad σ37 τ37) rfl 61 (of_decide_eq_true rfl) (hts _ kw_8_14) (fun _ h9 => h9) rfl dX12_shift_121 ?_
                                        refine lv_iload hx hb dX12_shift_124 (lv_at hl 0 rfl) ?_
                                        refine lv_aload_n hx hb dX12_shift_126 rfl (lv_at hl 1 rfl) ?_
                                        refine va_get (D := D) hx hb hts inlX12 hown hK hP 55 (jc_55 cI cL ad σ37 τ37) rfl 60 (of_decide_eq_true rfl) (hts _ kw_8_13) (fun _ h9 => h9) rfl dX12_shift_127 ?_
                                        refine lv_bipush (v := 60) hx hb dX12_shift_130 (of_decide_eq_true rfl) ?_
                                        refine lv_iload_n hx hb dX12_shift_132 rfl (lv_at hl 2 rfl) ?_
                                        refine lv_imul hx hb dX12_shift_133 ?_
                                        refine lv_topi (fun x65 ex65 => ?_)
                                        exact by
                                         have tx65 : x65.toInt = 60 * A1 := (jmul ex65 jz_60 t1 (by omega) (by omega)).trans (by omega)
                                         refine lv_iload_n hx hb dX12_shift_134 rfl (lv_at hl 3 rfl) ?_
                                         refine lv_iadd hx hb dX12_shift_135 ?_
                                         refine lv_topi (fun x66 ex66 => ?_)
                                         have tx66 : x66.toInt = 60 * A1 + A2 := (jadd ex66 tx65 t2 (by omega) (by omega)).trans (by omega)
                                         refine lv_iload hx hb dX12_shift_136 (lv_at hl 0 rfl) ?_
                                         have g67 := jrg (rfl : x36.toInt = x36.toInt)
                                         refine lv_iadd hx hb dX12_shift_138 ?_
                                         refine lv_topi (fun x68 ex68 => ?_)
                                         exact by
                                          have tx68 : x68.toInt = 60 * A1 + A2 + x36.toInt := (jadd ex68 tx66 rfl (by omega) (by omega)).trans (by omega)
                                          refine jaldL hx hb hK hP (jc_88 cI cL ad σ37 τ37) (jin tx68 (by omega) (by omega)) dX12_shift_139 ?_
                                          refine lv_topl (fun lx69 elx69 => ?_)
                                          refine jastL hx hb hK hP hJ hA hS (jc_89 cI cL ad σ37 τ37) (ja_89 cI cL ad σ37 τ37 _ _) (jin rfl (by omega) (by omega)) dX12_shift_140 (fun τ70 H locs eτ70 hP hS => ?_)
                                          obtain ⟨x71, ex71⟩ : ∃ y : Int32, y = x36 + 1 := ⟨_, rfl⟩
                                          have tx71 : x71.toInt = x36.toInt + 1 := (jadd ex71 rfl jz_1 (by omega) (by omega)).trans (by omega)
                                          refine lv_iinc (v := x71) (lv' := [(6, .int x71), (0, .ref (ad 55)), (1, .int a1), (2, .int a2), (3, .int a3), (4, .int a4), (5, .int a5)]) hx hb dX12_shift_141 hl (k := 0) rfl (by rw [ex71]; rfl) (of_decide_eq_true rfl) rfl (fun ls hl => ?_)
                                          refine lv_goto (tgt := 113) hx hb dX12_shift_144 (of_decide_eq_true rfl) ?_
                                          exact by exact ihlp34 x71 σ37 τ70 _ _ ls (by have h90 := tx71; omega) (by have h90 := tx71; omega) (by have h90 := tx71; omega) (by have h90 := tx71; omega) (fun i hi => (f43 i hi)) (fun i hi => ((jnpL i eτ70 (imp_304 i hi)).trans (f38 i hi)))   (jCo.step q44 (by omega) (by rw [eτ70, jupL_row, jnc (rfl : x36.toInt = x36.toInt)]) (by omega) (by rw [elx69, show τ37 88 = τ 88 from (f38 88 (of_decide_eq_true rfl)), jnc (rfl : x68.toInt = x68.toInt)]; congr 1; have h9 := tx68; omega) (by have h9 := tx71; omega)) hP hS (lv_sub hl [0, 1, 2, 3, 4, 5, 6] rfl)
                                 exact by exact lp34 1000000 0 σ τ _ _ ls (by have h90 := jz_0; omega) (by have h90 := jz_0; omega) (by have h90 := jz_0; omega) (by have h90 := jz_0; omega) (fun _ _ => rfl) (fun _ _ => rfl)  (jCo.first (by have h9 := jz_0; omega)) hP hS hl
                              · exact by
                                 have kc33 := jnle c33 t4 tx32
                                 refine lv_bipush (v := (-13)) hx hb dX12_shift_107 (of_decide_eq_true rfl) ?_
                                 exact by exact hret (-13) σ τ _ _ _ _ rfl ⟨(fun _ _ => rfl), (fun _ _ => rfl), (by have h9 := jz_m13; unfold jSg; first | ((repeat (first | rw [if_pos (by omega)] | rw [if_neg (by omega)])) <;> omega) | ((repeat' split) <;> omega)), (Or.inr ⟨(by have h9 := jz_m13; omega), rfl⟩), trivial⟩ hP hS dX12_shift_109
                 · have kc22 := jne c22 rfl rfl
                   refine lv_bipush (v := (-12)) hx hb dX12_shift_63 (of_decide_eq_true rfl) ?_
                   exact by exact hret (-12) σ τ _ _ _ _ rfl ⟨(fun _ _ => rfl), (fun _ _ => rfl), (by have h9 := jz_m12; unfold jSg; first | ((repeat (first | rw [if_pos (by omega)] | rw [if_neg (by omega)])) <;> omega) | ((repeat' split) <;> omega)), (Or.inr ⟨(by have h9 := jz_m12; omega), rfl⟩), trivial⟩ hP hS dX12_shift_65
          · have kc18 := jnle c18 jz_0 rfl
            refine lv_bipush (v := (-11)) hx hb dX12_shift_34 (of_decide_eq_true rfl) ?_
            exact by exact hret (-11) σ τ _ _ _ _ rfl ⟨(fun _ _ => rfl), (fun _ _ => rfl), (by have h9 := jz_m11; unfold jSg; first | ((repeat (first | rw [if_pos (by omega)] | rw [if_neg (by omega)])) <;> omega) | ((repeat' split) <;> omega)), (Or.inr ⟨(by have h9 := jz_m11; omega), rfl⟩), trivial⟩ hP hS dX12_shift_36
    · obtain ⟨q73, k72⟩ := h12
      have q73 := q73.symm
      subst q73
      refine lv_if_ne (tgt := 16) hx hb dX12_shift_11 (of_decide_eq_true rfl) (fun c => absurd (of_decide_eq_true rfl) c) (fun _ => ?_)
      refine lv_iconst (v := (-1)) hx hb dX12_shift_14 (of_decide_eq_true rfl) ?_
      exact by exact hret (-1) σ τ _ _ _ _ rfl ⟨(fun _ _ => rfl), (fun _ _ => rfl), (by have h9 := jz_m1; unfold jSg; first | ((repeat (first | rw [if_pos (by omega)] | rw [if_neg (by omega)])) <;> omega) | ((repeat' split) <;> omega)), (Or.inr ⟨(by have h9 := jz_m1; omega), rfl⟩), trivial⟩ hP hS dX12_shift_15
  · obtain ⟨q75, k74⟩ := h6
    have q75 := q75.symm
    subst q75
    refine lv_if_eq (tgt := 14) hx hb dX12_shift_4 (of_decide_eq_true rfl) (fun _ => ?_) (fun c => absurd (of_decide_eq_true rfl) c)
    refine lv_iconst (v := (-1)) hx hb dX12_shift_14 (of_decide_eq_true rfl) ?_
    exact by exact hret (-1) σ τ _ _ _ _ rfl ⟨(fun _ _ => rfl), (fun _ _ => rfl), (by have h9 := jz_m1; unfold jSg; first | ((repeat (first | rw [if_pos (by omega)] | rw [if_neg (by omega)])) <;> omega) | ((repeat' split) <;> omega)), (Or.inr ⟨(by have h9 := jz_m1; omega), rfl⟩), trivial⟩ hP hS dX12_shift_15
set_option maxHeartbeats 4000000 in
set_option maxRecDepth 100000 in
theorem c_X12_above (l : Launch) (D : va_G) (cI cL : ClassId) (ad zz : Nat → Nat) (hJ : jD ad) (σ : Nat → Nat → Int32) (τ : Nat → Nat → Int64) (a1 : Int32) (A1 : Int) (t1 : a1.toInt = A1) : jM l yX12_above cX12_above 1 (some .int) ({ frames := 0, cells := 0, slots := 0, locals := 0 }) D cI cL ad zz [.int a1] σ τ (fun r σ' τ' => (σ = σ' ∧ τ = τ') ∧ ((r = 3 ∧ (A1 = 5)) ∨ (r = 2 ∧ (A1 = 3)) ∨ (r = 1 ∧ (A1 = 4)) ∨ (r = 0 ∧ (A1 ≠ 5 ∧ A1 ≠ 3 ∧ A1 ≠ 4)))) := by
  refine jM.of hJ (by decide +kernel) (nt := .int) rfl (Nat.le_of_ble_eq_true rfl) ?_
  intro p e s m args below meth c Q ls hC hret hl hP
  obtain ⟨hx, hb, hr, hml, hown, hts, hK, -, hlocks, hZ⟩ := hC
  have hown : s.vm.findClass RX12 = some m.cls := hown
  have hS : va_S (jA ad) s.heap s.heap [] := va_S.rf
  have hA : ∀ q, jA ad q → jA ad q := fun _ h => h
  have hl : lv_has ls 1 [(0, .int a1)] := hl
  have g1 := jrg t1
  refine lv_iload_n hx hb dX12_above_0 rfl (lv_at hl 0 rfl) ?_
  refine lv_iconst (v := 5) hx hb dX12_above_1 (of_decide_eq_true rfl) ?_
  refine lv_icmp_ne (tgt := 9) hx hb dX12_above_2 (of_decide_eq_true rfl) (fun c1 => ?_) (fun c1 => ?_)
  · have kc1 := jne c1 t1 jz_5
    refine lv_iload_n hx hb dX12_above_9 rfl (lv_at hl 0 rfl) ?_
    refine lv_iconst (v := 3) hx hb dX12_above_10 (of_decide_eq_true rfl) ?_
    refine lv_icmp_ne (tgt := 18) hx hb dX12_above_11 (of_decide_eq_true rfl) (fun c2 => ?_) (fun c2 => ?_)
    · have kc2 := jne c2 t1 jz_3
      refine lv_iload_n hx hb dX12_above_18 rfl (lv_at hl 0 rfl) ?_
      refine lv_iconst (v := 4) hx hb dX12_above_19 (of_decide_eq_true rfl) ?_
      refine lv_icmp_ne (tgt := 27) hx hb dX12_above_20 (of_decide_eq_true rfl) (fun c3 => ?_) (fun c3 => ?_)
      · have kc3 := jne c3 t1 jz_4
        refine lv_iconst (v := 0) hx hb dX12_above_27 (of_decide_eq_true rfl) ?_
        exact hret 0 σ τ _ _ _ _ rfl ⟨⟨rfl, rfl⟩, Or.inr (Or.inr (Or.inr (⟨rfl, (by have h9 := jz_0; omega)⟩)))⟩ hP hS dX12_above_28
      · have kc3 := jeq c3 t1 jz_4
        refine lv_iconst (v := 1) hx hb dX12_above_23 (of_decide_eq_true rfl) ?_
        refine lv_goto (tgt := 28) hx hb dX12_above_24 (of_decide_eq_true rfl) ?_
        exact hret 1 σ τ _ _ _ _ rfl ⟨⟨rfl, rfl⟩, Or.inr (Or.inr (Or.inl ⟨rfl, (by have h9 := jz_1; omega)⟩))⟩ hP hS dX12_above_28
    · have kc2 := jeq c2 t1 jz_3
      refine lv_iconst (v := 2) hx hb dX12_above_14 (of_decide_eq_true rfl) ?_
      refine lv_goto (tgt := 28) hx hb dX12_above_15 (of_decide_eq_true rfl) ?_
      exact hret 2 σ τ _ _ _ _ rfl ⟨⟨rfl, rfl⟩, Or.inr (Or.inl ⟨rfl, (by have h9 := jz_2; omega)⟩)⟩ hP hS dX12_above_28
  · have kc1 := jeq c1 t1 jz_5
    refine lv_iconst (v := 3) hx hb dX12_above_5 (of_decide_eq_true rfl) ?_
    refine lv_goto (tgt := 28) hx hb dX12_above_6 (of_decide_eq_true rfl) ?_
    exact hret 3 σ τ _ _ _ _ rfl ⟨⟨rfl, rfl⟩, Or.inl ⟨rfl, (by have h9 := jz_3; omega)⟩⟩ hP hS dX12_above_28
set_option maxHeartbeats 4000000 in
set_option maxRecDepth 100000 in
theorem c_X12_kindOf (l : Launch) (D : va_G) (cI cL : ClassId) (ad zz : Nat → Nat) (hJ : jD ad) (σ : Nat → Nat → Int32) (τ : Nat → Nat → Int64) (a1 : Int32) (A1 : Int) (t1 : a1.toInt = A1) (hI106 : jI106 σ) (hp0 : 0 ≤ A1 ∧ A1 ≤ 19) : jM l yX12_kindOf cX12_kindOf 2 (some .int) ({ frames := 0, cells := 0, slots := 0, locals := 0 }) D cI cL ad zz [.ref (ad 55), .int a1] σ τ (fun r σ' τ' => (σ = σ' ∧ τ = τ') ∧ ((r = (σ 70 a1.toNatClampNeg) ∧ (0 ≤ (σ 70 a1.toNatClampNeg).toInt ∧ (σ 70 a1.toNatClampNeg).toInt ≤ 6)))) := by
  refine jM.of hJ (by decide +kernel) (nt := .int) rfl (Nat.le_of_ble_eq_true rfl) ?_
  intro p e s m args below meth c Q ls hC hret hl hP
  obtain ⟨hx, hb, hr, hml, hown, hts, hK, -, hlocks, hZ⟩ := hC
  have hown : s.vm.findClass RX12 = some m.cls := hown
  have hS : va_S (jA ad) s.heap s.heap [] := va_S.rf
  have hA : ∀ q, jA ad q → jA ad q := fun _ h => h
  have hl : lv_has ls 2 [(0, .ref (ad 55)), (1, .int a1)] := hl
  have g1 := jrg t1
  obtain ⟨i1, w2, w3, w4⟩ : (0 ≤ (σ 55 32).toInt ∧ (σ 55 32).toInt ≤ 20) ∧ (∀ k : Nat, k < 20 → 0 ≤ (σ 70 k).toInt ∧ (σ 70 k).toInt ≤ 6) ∧ (∀ k : Nat, k < 20 → 0 ≤ (σ 71 k).toInt ∧ (σ 71 k).toInt ≤ 8) ∧ (∀ k : Nat, k < 160 → 0 ≤ (σ 72 k).toInt ∧ (σ 72 k).toInt ≤ 3) := id hI106
  refine lv_aload_n hx hb dX12_kindOf_0 rfl (lv_at hl 0 rfl) ?_
  refine va_get (D := D) hx hb hts inlX12 hown hK hP 55 (jc_55 cI cL ad σ τ) rfl 33 (of_decide_eq_true rfl) (hts _ kw_7_18) (fun _ h9 => h9) rfl dX12_kindOf_1 ?_
  refine lv_iload_n hx hb dX12_kindOf_4 rfl (lv_at hl 1 rfl) ?_
  exact by
   refine jald hx hb hK hP (jc_70 cI cL ad σ τ) (jin t1 (by omega) (by omega)) dX12_kindOf_5 ?_
   have g5 := w2 _ (jnat (x := a1) t1 (n := 20) (by omega) (of_decide_eq_true rfl))
   refine jtopr (y := (σ 70 a1.toNatClampNeg)) rfl ?_
   exact hret (σ 70 a1.toNatClampNeg) σ τ _ _ _ _ rfl ⟨⟨rfl, rfl⟩, ⟨rfl, (by omega)⟩⟩ hP hS dX12_kindOf_6
set_option maxHeartbeats 4000000 in
set_option maxRecDepth 100000 in
theorem c_X12_taken (l : Launch) (D : va_G) (cI cL : ClassId) (ad zz : Nat → Nat) (hJ : jD ad) (σ : Nat → Nat → Int32) (τ : Nat → Nat → Int64) (a1 : Int32) (A1 : Int) (t1 : a1.toInt = A1) (a2 : Int32) (A2 : Int) (t2 : a2.toInt = A2) (hI106 : jI106 σ) (hI110 : jI110 σ) : jM l yX12_taken cX12_taken 4 (some .int) ({ frames := 2, cells := 0, slots := 0, locals := 45 }) D cI cL ad zz [.ref (ad 55), .int a1, .int a2] σ τ (fun r σ' τ' => (σ = σ' ∧ τ = τ') ∧ (r.toInt = jTg (A1) (A2) ((σ 86 a1.toNatClampNeg).toInt) ((σ 70 (σ 86 a1.toNatClampNeg).toNatClampNeg).toInt)) ∧ True) := by
  refine jM.of hJ (by decide +kernel) (nt := .int) rfl (Nat.le_of_ble_eq_true rfl) ?_
  intro p e s m args below meth c Q ls hC hret hl hP
  obtain ⟨hx, hb, hr, hml, hown, hts, hK, -, hlocks, hZ⟩ := hC
  have hown : s.vm.findClass RX12 = some m.cls := hown
  have hS : va_S (jA ad) s.heap s.heap [] := va_S.rf
  have hA : ∀ q, jA ad q → jA ad q := fun _ h => h
  have hl : lv_has ls 4 [(0, .ref (ad 55)), (1, .int a1), (2, .int a2)] := hl
  have g1 := jrg t1
  have g2 := jrg t2
  obtain ⟨w1, w2⟩ : (∀ k : Nat, k < 6 → (-1) ≤ (σ 86 k).toInt ∧ (σ 86 k).toInt ≤ 24) ∧ (∀ k : Nat, k < 6 → 0 ≤ (σ 87 k).toInt ∧ (σ 87 k).toInt ≤ 60) := id hI110
  refine lv_iload_n hx hb dX12_taken_0 rfl (lv_at hl 1 rfl) ?_
  refine jcallS (As := [.int a1]) (rest := []) ⟨hx, hb, hml, hown, hts⟩ hK hP hA hS hZ (c_X12_isShelf l D cI cL ad zz hJ σ τ a1 (A1) t1) cw_RX12_361 ⟨Nat.le_of_ble_eq_true rfl, Nat.le_of_ble_eq_true rfl⟩ rfl rfl rfl hl.1 rfl (Nat.le_of_ble_eq_true rfl) dX12_taken_1 ⟨Nat.zero_le _, Nat.zero_le _⟩ (fun r4 σ3 τ3 H locs h3 hP hS => ?_)
  obtain ⟨⟨rfl, rfl⟩, h3⟩ := h3
  rcases h3 with h5 | h6
  · obtain ⟨q8, k7⟩ := h5
    have q8 := q8.symm
    subst q8
    refine lv_if_eq (tgt := 19) hx hb dX12_taken_4 (of_decide_eq_true rfl) (fun c => absurd c (of_decide_eq_true rfl)) (fun _ => ?_)
    refine lv_iload_n hx hb dX12_taken_7 rfl (lv_at hl 2 rfl) ?_
    refine lv_i2l (v := a2.toInt64) hx hb dX12_taken_8 rfl ?_
    refine lv_lconst (v := 0) hx hb dX12_taken_9 (of_decide_eq_true rfl) ?_
    refine lv_ldc2 (v := 6) hx hb hown (hts _ kw_24_22) dX12_taken_10 ?_
    refine jcallS (As := [.long a2.toInt64, .long 0, .long 6]) (rest := []) ⟨hx, hb, hml, hown, hts⟩ hK hP hA hS hZ (c_X12_within l D cI cL ad zz hJ σ τ a2.toInt64 (A2) (jtoL t2) 0 (0) jzl_0 6 (6) jzl_6) cw_RX12_136 ⟨Nat.le_of_ble_eq_true rfl, Nat.le_of_ble_eq_true rfl⟩ rfl rfl rfl hl.1 rfl (Nat.le_of_ble_eq_true rfl) dX12_taken_13 ⟨Nat.zero_le _, Nat.zero_le _⟩ (fun r10 σ9 τ9 H locs h9 hP hS => ?_)
    obtain ⟨⟨rfl, rfl⟩, h9⟩ := h9
    rcases h9 with h11 | h12
    · obtain ⟨q14, k13⟩ := h11
      have q14 := q14.symm
      subst q14
      refine lv_if_ne (tgt := 21) hx hb dX12_taken_16 (of_decide_eq_true rfl) (fun _ => ?_) (fun c => absurd c (of_decide_eq_true rfl))
      refine lv_aload_n hx hb dX12_taken_21 rfl (lv_at hl 0 rfl) ?_
      refine va_get (D := D) hx hb hts inlX12 hown hK hP 55 (jc_55 cI cL ad σ τ) rfl 58 (of_decide_eq_true rfl) (hts _ kw_8_11) (fun _ h9 => h9) rfl dX12_taken_22 ?_
      refine lv_iload_n hx hb dX12_taken_25 rfl (lv_at hl 1 rfl) ?_
      exact by
       refine jald hx hb hK hP (jc_86 cI cL ad σ τ) (jin t1 (by omega) (by omega)) dX12_taken_26 ?_
       have g15 := w1 _ (jnat (x := a1) t1 (n := 6) (by omega) (of_decide_eq_true rfl))
       refine jtopr (y := (σ 86 a1.toNatClampNeg)) rfl ?_
       refine lv_if_ge (tgt := 33) hx hb dX12_taken_27 (of_decide_eq_true rfl) (fun c16 => ?_) (fun c16 => ?_)
       · have kc16 := jle c16 jz_0 rfl
         refine lv_aload_n hx hb dX12_taken_33 rfl (lv_at hl 0 rfl) ?_
         refine va_get (D := D) hx hb hts inlX12 hown hK hP 55 (jc_55 cI cL ad σ τ) rfl 58 (of_decide_eq_true rfl) (hts _ kw_8_11) (fun _ h9 => h9) rfl dX12_taken_34 ?_
         refine lv_iload_n hx hb dX12_taken_37 rfl (lv_at hl 1 rfl) ?_
         refine jald hx hb hK hP (jc_86 cI cL ad σ τ) (jin t1 (by omega) (by omega)) dX12_taken_38 ?_
         exact by
          have g17 := w1 _ (jnat (x := a1) t1 (n := 6) (by omega) (of_decide_eq_true rfl))
          refine jtopr (y := (σ 86 a1.toNatClampNeg)) rfl ?_
          refine lv_bipush (v := 20) hx hb dX12_taken_39 (of_decide_eq_true rfl) ?_
          refine lv_icmp_lt (tgt := 47) hx hb dX12_taken_41 (of_decide_eq_true rfl) (fun c18 => ?_) (fun c18 => ?_)
          · have kc18 := jlt c18 rfl jz_20
            refine lv_aload_n hx hb dX12_taken_47 rfl (lv_at hl 0 rfl) ?_
            refine lv_aload_n hx hb dX12_taken_48 rfl (lv_at hl 0 rfl) ?_
            refine va_get (D := D) hx hb hts inlX12 hown hK hP 55 (jc_55 cI cL ad σ τ) rfl 58 (of_decide_eq_true rfl) (hts _ kw_8_11) (fun _ h9 => h9) rfl dX12_taken_49 ?_
            refine lv_iload_n hx hb dX12_taken_52 rfl (lv_at hl 1 rfl) ?_
            exact by
             refine jald hx hb hK hP (jc_86 cI cL ad σ τ) (jin t1 (by omega) (by omega)) dX12_taken_53 ?_
             refine jtopr (y := (σ 86 a1.toNatClampNeg)) rfl ?_
             refine jcallV (As := [.int (σ 86 a1.toNatClampNeg)]) (rest := []) ⟨hx, hb, hml, hown, hts⟩ hK hP hA hS hZ (c_X12_kindOf l D cI cL ad zz hJ σ τ (σ 86 a1.toNatClampNeg) ((σ 86 a1.toNatClampNeg).toInt) rfl hI106 (by omega)) cw_RX12_413 (jc_55 cI cL ad σ τ) rfl ⟨Nat.le_of_ble_eq_true rfl, Nat.le_of_ble_eq_true rfl⟩ rfl rfl rfl hl.1 rfl (Nat.le_of_ble_eq_true rfl) dX12_taken_54 ⟨Nat.zero_le _, Nat.zero_le _⟩ (fun r20 σ19 τ19 H locs h19 hP hS => ?_)
             obtain ⟨⟨rfl, rfl⟩, h19⟩ := h19
             have h21 := h19
             obtain ⟨q23, k22⟩ := h21
             have q24 : r20 = (σ 70 (σ 86 a1.toNatClampNeg).toNatClampNeg) := q23.trans rfl
             have q24 := q24.symm
             subst q24
             by_cases c25 : (σ 70 (σ 86 a1.toNatClampNeg).toNatClampNeg) = 0
             · exact by
                have kc25 := jeq c25 (rfl : (σ 70 (σ 86 a1.toNatClampNeg).toNatClampNeg).toInt = (σ 70 (σ 86 a1.toNatClampNeg).toNatClampNeg).toInt) jz_0
                rw [c25]
                refine lv_istore_n (lv' := [(3, .int 0), (0, .ref (ad 55)), (1, .int a1), (2, .int a2)]) hx hb dX12_taken_57 rfl hl (of_decide_eq_true rfl) rfl (fun ls hl => ?_)
                refine lv_iload_n hx hb dX12_taken_58 rfl (lv_at hl 0 rfl) ?_
                refine lv_iload_n hx hb dX12_taken_59 rfl (lv_at hl 3 rfl) ?_
                refine lv_icmp_eq (tgt := 75) hx hb dX12_taken_60 (of_decide_eq_true rfl) (fun c26 => ?_) (fun c26 => ?_)
                · have kc26 := jeq c26 jz_0 t2
                  refine lv_iload_n hx hb dX12_taken_75 rfl (lv_at hl 0 rfl) ?_
                  refine lv_iload_n hx hb dX12_taken_76 rfl (lv_at hl 3 rfl) ?_
                  exact by
                   refine lv_icmp_ne (tgt := 93) hx hb dX12_taken_77 (of_decide_eq_true rfl) (fun c => absurd (jne c jz_0 t2) (by omega)) (fun c27 => ?_)
                   have kc27 := jeq c27 jz_0 t2
                   refine lv_aload_n hx hb dX12_taken_80 rfl (lv_at hl 1 rfl) ?_
                   refine lv_aload_n hx hb dX12_taken_81 rfl (lv_at hl 1 rfl) ?_
                   refine va_get (D := D) hx hb hts inlX12 hown hK hP 55 (jc_55 cI cL ad σ τ) rfl 58 (of_decide_eq_true rfl) (hts _ kw_8_11) (fun _ h9 => h9) rfl dX12_taken_82 ?_
                   refine lv_iload_n hx hb dX12_taken_85 rfl (lv_at hl 2 rfl) ?_
                   refine jald hx hb hK hP (jc_86 cI cL ad σ τ) (jin t1 (by omega) (by omega)) dX12_taken_86 ?_
                   refine jtopr (y := (σ 86 a1.toNatClampNeg)) rfl ?_
                   refine jcallV (As := [.int (σ 86 a1.toNatClampNeg)]) (rest := []) ⟨hx, hb, hml, hown, hts⟩ hK hP hA hS hZ (c_X12_kindOf l D cI cL ad zz hJ σ τ (σ 86 a1.toNatClampNeg) ((σ 86 a1.toNatClampNeg).toInt) rfl hI106 (by omega)) cw_RX12_413 (jc_55 cI cL ad σ τ) rfl ⟨Nat.le_of_ble_eq_true rfl, Nat.le_of_ble_eq_true rfl⟩ rfl rfl rfl hl.1 rfl (Nat.le_of_ble_eq_true rfl) dX12_taken_87 ⟨Nat.zero_le _, Nat.zero_le _⟩ (fun r29 σ28 τ28 H locs h28 hP hS => ?_)
                   exact by
                    obtain ⟨⟨rfl, rfl⟩, h28⟩ := h28
                    have h30 := h28
                    obtain ⟨q32, k31⟩ := h30
                    have q33 : r29 = (σ 70 (σ 86 a1.toNatClampNeg).toNatClampNeg) := q32.trans rfl
                    have q33 := q33.symm
                    subst q33
                    refine lv_goto (tgt := 95) hx hb dX12_taken_90 (of_decide_eq_true rfl) ?_
                    exact hret (σ 70 (σ 86 a1.toNatClampNeg).toNatClampNeg) σ τ _ _ _ _ rfl ⟨⟨rfl, rfl⟩, (by unfold jTg; first | ((repeat (first | rw [if_pos (by omega)] | rw [if_neg (by omega)])) <;> omega) | ((repeat' split) <;> omega)), trivial⟩ hP hS dX12_taken_95
                · have kc26 := jne c26 jz_0 t2
                  refine lv_iload_n hx hb dX12_taken_63 rfl (lv_at hl 0 rfl) ?_
                  refine lv_if_le (tgt := 75) hx hb dX12_taken_64 (of_decide_eq_true rfl) (fun _ => ?_) (fun c => absurd (of_decide_eq_true rfl) c)
                  refine lv_iload_n hx hb dX12_taken_75 rfl (lv_at hl 0 rfl) ?_
                  refine lv_iload_n hx hb dX12_taken_76 rfl (lv_at hl 3 rfl) ?_
                  exact by
                   refine lv_icmp_ne (tgt := 93) hx hb dX12_taken_77 (of_decide_eq_true rfl) (fun c34 => ?_) (fun c => absurd (jeq c jz_0 t2) (by omega))
                   have kc34 := jne c34 jz_0 t2
                   refine lv_bipush (v := (-12)) hx hb dX12_taken_93 (of_decide_eq_true rfl) ?_
                   exact hret (-12) σ τ _ _ _ _ rfl ⟨⟨rfl, rfl⟩, (by have h9 := jz_m12; unfold jTg; first | ((repeat (first | rw [if_pos (by omega)] | rw [if_neg (by omega)])) <;> omega) | ((repeat' split) <;> omega)), trivial⟩ hP hS dX12_taken_95
             have kc25 := jne c25 (rfl : (σ 70 (σ 86 a1.toNatClampNeg).toNatClampNeg).toInt = (σ 70 (σ 86 a1.toNatClampNeg).toNatClampNeg).toInt) jz_0
             by_cases c35 : (σ 70 (σ 86 a1.toNatClampNeg).toNatClampNeg) = 1
             · have kc35 := jeq c35 (rfl : (σ 70 (σ 86 a1.toNatClampNeg).toNatClampNeg).toInt = (σ 70 (σ 86 a1.toNatClampNeg).toNatClampNeg).toInt) jz_1
               rw [c35]
               refine lv_istore_n (lv' := [(3, .int 1), (0, .ref (ad 55)), (1, .int a1), (2, .int a2)]) hx hb dX12_taken_57 rfl hl (of_decide_eq_true rfl) rfl (fun ls hl => ?_)
               refine lv_iload_n hx hb dX12_taken_58 rfl (lv_at hl 0 rfl) ?_
               refine lv_iload_n hx hb dX12_taken_59 rfl (lv_at hl 3 rfl) ?_
               refine lv_icmp_eq (tgt := 75) hx hb dX12_taken_60 (of_decide_eq_true rfl) (fun c36 => ?_) (fun c36 => ?_)
               · have kc36 := jeq c36 jz_1 t2
                 refine lv_iload_n hx hb dX12_taken_75 rfl (lv_at hl 0 rfl) ?_
                 refine lv_iload_n hx hb dX12_taken_76 rfl (lv_at hl 3 rfl) ?_
                 exact by
                  refine lv_icmp_ne (tgt := 93) hx hb dX12_taken_77 (of_decide_eq_true rfl) (fun c => absurd (jne c jz_1 t2) (by omega)) (fun c37 => ?_)
                  have kc37 := jeq c37 jz_1 t2
                  refine lv_aload_n hx hb dX12_taken_80 rfl (lv_at hl 1 rfl) ?_
                  refine lv_aload_n hx hb dX12_taken_81 rfl (lv_at hl 1 rfl) ?_
                  refine va_get (D := D) hx hb hts inlX12 hown hK hP 55 (jc_55 cI cL ad σ τ) rfl 58 (of_decide_eq_true rfl) (hts _ kw_8_11) (fun _ h9 => h9) rfl dX12_taken_82 ?_
                  refine lv_iload_n hx hb dX12_taken_85 rfl (lv_at hl 2 rfl) ?_
                  refine jald hx hb hK hP (jc_86 cI cL ad σ τ) (jin t1 (by omega) (by omega)) dX12_taken_86 ?_
                  refine jtopr (y := (σ 86 a1.toNatClampNeg)) rfl ?_
                  refine jcallV (As := [.int (σ 86 a1.toNatClampNeg)]) (rest := []) ⟨hx, hb, hml, hown, hts⟩ hK hP hA hS hZ (c_X12_kindOf l D cI cL ad zz hJ σ τ (σ 86 a1.toNatClampNeg) ((σ 86 a1.toNatClampNeg).toInt) rfl hI106 (by omega)) cw_RX12_413 (jc_55 cI cL ad σ τ) rfl ⟨Nat.le_of_ble_eq_true rfl, Nat.le_of_ble_eq_true rfl⟩ rfl rfl rfl hl.1 rfl (Nat.le_of_ble_eq_true rfl) dX12_taken_87 ⟨Nat.zero_le _, Nat.zero_le _⟩ (fun r39 σ38 τ38 H locs h38 hP hS => ?_)
                  exact by
                   obtain ⟨⟨rfl, rfl⟩, h38⟩ := h38
                   have h40 := h38
                   obtain ⟨q42, k41⟩ := h40
                   have q43 : r39 = (σ 70 (σ 86 a1.toNatClampNeg).toNatClampNeg) := q42.trans rfl
                   have q43 := q43.symm
                   subst q43
                   refine lv_goto (tgt := 95) hx hb dX12_taken_90 (of_decide_eq_true rfl) ?_
                   exact hret (σ 70 (σ 86 a1.toNatClampNeg).toNatClampNeg) σ τ _ _ _ _ rfl ⟨⟨rfl, rfl⟩, (by unfold jTg; first | ((repeat (first | rw [if_pos (by omega)] | rw [if_neg (by omega)])) <;> omega) | ((repeat' split) <;> omega)), trivial⟩ hP hS dX12_taken_95
               · have kc36 := jne c36 jz_1 t2
                 refine lv_iload_n hx hb dX12_taken_63 rfl (lv_at hl 0 rfl) ?_
                 refine lv_if_le (tgt := 75) hx hb dX12_taken_64 (of_decide_eq_true rfl) (fun c => absurd c (of_decide_eq_true rfl)) (fun _ => ?_)
                 refine lv_iload_n hx hb dX12_taken_67 rfl (lv_at hl 0 rfl) ?_
                 refine jcallS (As := [.int 1]) (rest := []) ⟨hx, hb, hml, hown, hts⟩ hK hP hA hS hZ (c_X12_above l D cI cL ad zz hJ σ τ 1 (1) jz_1) cw_RX12_416 ⟨Nat.le_of_ble_eq_true rfl, Nat.le_of_ble_eq_true rfl⟩ rfl rfl rfl hl.1 rfl (Nat.le_of_ble_eq_true rfl) dX12_taken_68 ⟨Nat.zero_le _, Nat.zero_le _⟩ (fun r45 σ44 τ44 H locs h44 hP hS => ?_)
                 obtain ⟨⟨rfl, rfl⟩, h44⟩ := h44
                 rcases h44 with h46 | h47 | h48 | h49
                 · obtain ⟨q51, k50⟩ := h46
                   exact absurd (by omega : False) id
                 · obtain ⟨q53, k52⟩ := h47
                   exact absurd (by omega : False) id
                 · obtain ⟨q55, k54⟩ := h48
                   exact absurd (by omega : False) id
                 · obtain ⟨q57, k56⟩ := h49
                   have q57 := q57.symm
                   subst q57
                   refine lv_istore_n (lv' := [(3, .int 0), (0, .ref (ad 55)), (1, .int a1), (2, .int a2)]) hx hb dX12_taken_71 rfl hl (of_decide_eq_true rfl) rfl (fun ls hl => ?_)
                   refine lv_goto (tgt := 58) hx hb dX12_taken_72 (of_decide_eq_true rfl) ?_
                   refine lv_iload_n hx hb dX12_taken_58 rfl (lv_at hl 0 rfl) ?_
                   refine lv_iload_n hx hb dX12_taken_59 rfl (lv_at hl 3 rfl) ?_
                   refine lv_icmp_eq (tgt := 75) hx hb dX12_taken_60 (of_decide_eq_true rfl) (fun c58 => ?_) (fun c58 => ?_)
                   · have kc58 := jeq c58 jz_0 t2
                     refine lv_iload_n hx hb dX12_taken_75 rfl (lv_at hl 0 rfl) ?_
                     refine lv_iload_n hx hb dX12_taken_76 rfl (lv_at hl 3 rfl) ?_
                     exact by
                      refine lv_icmp_ne (tgt := 93) hx hb dX12_taken_77 (of_decide_eq_true rfl) (fun c => absurd (jne c jz_0 t2) (by omega)) (fun c59 => ?_)
                      have kc59 := jeq c59 jz_0 t2
                      refine lv_aload_n hx hb dX12_taken_80 rfl (lv_at hl 1 rfl) ?_
                      refine lv_aload_n hx hb dX12_taken_81 rfl (lv_at hl 1 rfl) ?_
                      refine va_get (D := D) hx hb hts inlX12 hown hK hP 55 (jc_55 cI cL ad σ τ) rfl 58 (of_decide_eq_true rfl) (hts _ kw_8_11) (fun _ h9 => h9) rfl dX12_taken_82 ?_
                      refine lv_iload_n hx hb dX12_taken_85 rfl (lv_at hl 2 rfl) ?_
                      refine jald hx hb hK hP (jc_86 cI cL ad σ τ) (jin t1 (by omega) (by omega)) dX12_taken_86 ?_
                      refine jtopr (y := (σ 86 a1.toNatClampNeg)) rfl ?_
                      refine jcallV (As := [.int (σ 86 a1.toNatClampNeg)]) (rest := []) ⟨hx, hb, hml, hown, hts⟩ hK hP hA hS hZ (c_X12_kindOf l D cI cL ad zz hJ σ τ (σ 86 a1.toNatClampNeg) ((σ 86 a1.toNatClampNeg).toInt) rfl hI106 (by omega)) cw_RX12_413 (jc_55 cI cL ad σ τ) rfl ⟨Nat.le_of_ble_eq_true rfl, Nat.le_of_ble_eq_true rfl⟩ rfl rfl rfl hl.1 rfl (Nat.le_of_ble_eq_true rfl) dX12_taken_87 ⟨Nat.zero_le _, Nat.zero_le _⟩ (fun r61 σ60 τ60 H locs h60 hP hS => ?_)
                      exact by
                       obtain ⟨⟨rfl, rfl⟩, h60⟩ := h60
                       have h62 := h60
                       obtain ⟨q64, k63⟩ := h62
                       have q65 : r61 = (σ 70 (σ 86 a1.toNatClampNeg).toNatClampNeg) := q64.trans rfl
                       have q65 := q65.symm
                       subst q65
                       refine lv_goto (tgt := 95) hx hb dX12_taken_90 (of_decide_eq_true rfl) ?_
                       exact hret (σ 70 (σ 86 a1.toNatClampNeg).toNatClampNeg) σ τ _ _ _ _ rfl ⟨⟨rfl, rfl⟩, (by unfold jTg; first | ((repeat (first | rw [if_pos (by omega)] | rw [if_neg (by omega)])) <;> omega) | ((repeat' split) <;> omega)), trivial⟩ hP hS dX12_taken_95
                   · have kc58 := jne c58 jz_0 t2
                     refine lv_iload_n hx hb dX12_taken_63 rfl (lv_at hl 0 rfl) ?_
                     refine lv_if_le (tgt := 75) hx hb dX12_taken_64 (of_decide_eq_true rfl) (fun _ => ?_) (fun c => absurd (of_decide_eq_true rfl) c)
                     refine lv_iload_n hx hb dX12_taken_75 rfl (lv_at hl 0 rfl) ?_
                     refine lv_iload_n hx hb dX12_taken_76 rfl (lv_at hl 3 rfl) ?_
                     exact by
                      refine lv_icmp_ne (tgt := 93) hx hb dX12_taken_77 (of_decide_eq_true rfl) (fun c66 => ?_) (fun c => absurd (jeq c jz_0 t2) (by omega))
                      have kc66 := jne c66 jz_0 t2
                      refine lv_bipush (v := (-12)) hx hb dX12_taken_93 (of_decide_eq_true rfl) ?_
                      exact hret (-12) σ τ _ _ _ _ rfl ⟨⟨rfl, rfl⟩, (by have h9 := jz_m12; unfold jTg; first | ((repeat (first | rw [if_pos (by omega)] | rw [if_neg (by omega)])) <;> omega) | ((repeat' split) <;> omega)), trivial⟩ hP hS dX12_taken_95
             have kc35 := jne c35 (rfl : (σ 70 (σ 86 a1.toNatClampNeg).toNatClampNeg).toInt = (σ 70 (σ 86 a1.toNatClampNeg).toNatClampNeg).toInt) jz_1
             by_cases c67 : (σ 70 (σ 86 a1.toNatClampNeg).toNatClampNeg) = 2
             · have kc67 := jeq c67 (rfl : (σ 70 (σ 86 a1.toNatClampNeg).toNatClampNeg).toInt = (σ 70 (σ 86 a1.toNatClampNeg).toNatClampNeg).toInt) jz_2
               rw [c67]
               refine lv_istore_n (lv' := [(3, .int 2), (0, .ref (ad 55)), (1, .int a1), (2, .int a2)]) hx hb dX12_taken_57 rfl hl (of_decide_eq_true rfl) rfl (fun ls hl => ?_)
               refine lv_iload_n hx hb dX12_taken_58 rfl (lv_at hl 0 rfl) ?_
               refine lv_iload_n hx hb dX12_taken_59 rfl (lv_at hl 3 rfl) ?_
               refine lv_icmp_eq (tgt := 75) hx hb dX12_taken_60 (of_decide_eq_true rfl) (fun c68 => ?_) (fun c68 => ?_)
               · have kc68 := jeq c68 jz_2 t2
                 refine lv_iload_n hx hb dX12_taken_75 rfl (lv_at hl 0 rfl) ?_
                 refine lv_iload_n hx hb dX12_taken_76 rfl (lv_at hl 3 rfl) ?_
                 exact by
                  refine lv_icmp_ne (tgt := 93) hx hb dX12_taken_77 (of_decide_eq_true rfl) (fun c => absurd (jne c jz_2 t2) (by omega)) (fun c69 => ?_)
                  have kc69 := jeq c69 jz_2 t2
                  refine lv_aload_n hx hb dX12_taken_80 rfl (lv_at hl 1 rfl) ?_
                  refine lv_aload_n hx hb dX12_taken_81 rfl (lv_at hl 1 rfl) ?_
                  refine va_get (D := D) hx hb hts inlX12 hown hK hP 55 (jc_55 cI cL ad σ τ) rfl 58 (of_decide_eq_true rfl) (hts _ kw_8_11) (fun _ h9 => h9) rfl dX12_taken_82 ?_
                  refine lv_iload_n hx hb dX12_taken_85 rfl (lv_at hl 2 rfl) ?_
                  refine jald hx hb hK hP (jc_86 cI cL ad σ τ) (jin t1 (by omega) (by omega)) dX12_taken_86 ?_
                  refine jtopr (y := (σ 86 a1.toNatClampNeg)) rfl ?_
                  refine jcallV (As := [.int (σ 86 a1.toNatClampNeg)]) (rest := []) ⟨hx, hb, hml, hown, hts⟩ hK hP hA hS hZ (c_X12_kindOf l D cI cL ad zz hJ σ τ (σ 86 a1.toNatClampNeg) ((σ 86 a1.toNatClampNeg).toInt) rfl hI106 (by omega)) cw_RX12_413 (jc_55 cI cL ad σ τ) rfl ⟨Nat.le_of_ble_eq_true rfl, Nat.le_of_ble_eq_true rfl⟩ rfl rfl rfl hl.1 rfl (Nat.le_of_ble_eq_true rfl) dX12_taken_87 ⟨Nat.zero_le _, Nat.zero_le _⟩ (fun r71 σ70 τ70 H locs h70 hP hS => ?_)
                  exact by
                   obtain ⟨⟨rfl, rfl⟩, h70⟩ := h70
                   have h72 := h70
                   obtain ⟨q74, k73⟩ := h72
                   have q75 : r71 = (σ 70 (σ 86 a1.toNatClampNeg).toNatClampNeg) := q74.trans rfl
                   have q75 := q75.symm
                   subst q75
                   refine lv_goto (tgt := 95) hx hb dX12_taken_90 (of_decide_eq_true rfl) ?_
                   exact hret (σ 70 (σ 86 a1.toNatClampNeg).toNatClampNeg) σ τ _ _ _ _ rfl ⟨⟨rfl, rfl⟩, (by unfold jTg; first | ((repeat (first | rw [if_pos (by omega)] | rw [if_neg (by omega)])) <;> omega) | ((repeat' split) <;> omega)), trivial⟩ hP hS dX12_taken_95
               · have kc68 := jne c68 jz_2 t2
                 refine lv_iload_n hx hb dX12_taken_63 rfl (lv_at hl 0 rfl) ?_
                 refine lv_if_le (tgt := 75) hx hb dX12_taken_64 (of_decide_eq_true rfl) (fun c => absurd c (of_decide_eq_true rfl)) (fun _ => ?_)
                 refine lv_iload_n hx hb dX12_taken_67 rfl (lv_at hl 0 rfl) ?_
                 refine jcallS (As := [.int 2]) (rest := []) ⟨hx, hb, hml, hown, hts⟩ hK hP hA hS hZ (c_X12_above l D cI cL ad zz hJ σ τ 2 (2) jz_2) cw_RX12_416 ⟨Nat.le_of_ble_eq_true rfl, Nat.le_of_ble_eq_true rfl⟩ rfl rfl rfl hl.1 rfl (Nat.le_of_ble_eq_true rfl) dX12_taken_68 ⟨Nat.zero_le _, Nat.zero_le _⟩ (fun r77 σ76 τ76 H locs h76 hP hS => ?_)
                 obtain ⟨⟨rfl, rfl⟩, h76⟩ := h76
                 rcases h76 with h78 | h79 | h80 | h81
                 · obtain ⟨q83, k82⟩ := h78
                   exact absurd (by omega : False) id
                 · obtain ⟨q85, k84⟩ := h79
                   exact absurd (by omega : False) id
                 · obtain ⟨q87, k86⟩ := h80
                   exact absurd (by omega : False) id
                 · obtain ⟨q89, k88⟩ := h81
                   have q89 := q89.symm
                   subst q89
                   refine lv_istore_n (lv' := [(3, .int 0), (0, .ref (ad 55)), (1, .int a1), (2, .int a2)]) hx hb dX12_taken_71 rfl hl (of_decide_eq_true rfl) rfl (fun ls hl => ?_)
                   refine lv_goto (tgt := 58) hx hb dX12_taken_72 (of_decide_eq_true rfl) ?_
                   refine lv_iload_n hx hb dX12_taken_58 rfl (lv_at hl 0 rfl) ?_
                   refine lv_iload_n hx hb dX12_taken_59 rfl (lv_at hl 3 rfl) ?_
                   refine lv_icmp_eq (tgt := 75) hx hb dX12_taken_60 (of_decide_eq_true rfl) (fun c90 => ?_) (fun c90 => ?_)
                   · have kc90 := jeq c90 jz_0 t2
                     refine lv_iload_n hx hb dX12_taken_75 rfl (lv_at hl 0 rfl) ?_
                     refine lv_iload_n hx hb dX12_taken_76 rfl (lv_at hl 3 rfl) ?_
                     exact by
                      refine lv_icmp_ne (tgt := 93) hx hb dX12_taken_77 (of_decide_eq_true rfl) (fun c => absurd (jne c jz_0 t2) (by omega)) (fun c91 => ?_)
                      have kc91 := jeq c91 jz_0 t2
                      refine lv_aload_n hx hb dX12_taken_80 rfl (lv_at hl 1 rfl) ?_
                      refine lv_aload_n hx hb dX12_taken_81 rfl (lv_at hl 1 rfl) ?_
                      refine va_get (D := D) hx hb hts inlX12 hown hK hP 55 (jc_55 cI cL ad σ τ) rfl 58 (of_decide_eq_true rfl) (hts _ kw_8_11) (fun _ h9 => h9) rfl dX12_taken_82 ?_
                      refine lv_iload_n hx hb dX12_taken_85 rfl (lv_at hl 2 rfl) ?_
                      refine jald hx hb hK hP (jc_86 cI cL ad σ τ) (jin t1 (by omega) (by omega)) dX12_taken_86 ?_
                      refine jtopr (y := (σ 86 a1.toNatClampNeg)) rfl ?_
                      refine jcallV (As := [.int (σ 86 a1.toNatClampNeg)]) (rest := []) ⟨hx, hb, hml, hown, hts⟩ hK hP hA hS hZ (c_X12_kindOf l D cI cL ad zz hJ σ τ (σ 86 a1.toNatClampNeg) ((σ 86 a1.toNatClampNeg).toInt) rfl hI106 (by omega)) cw_RX12_413 (jc_55 cI cL ad σ τ) rfl ⟨Nat.le_of_ble_eq_true rfl, Nat.le_of_ble_eq_true rfl⟩ rfl rfl rfl hl.1 rfl (Nat.le_of_ble_eq_true rfl) dX12_taken_87 ⟨Nat.zero_le _, Nat.zero_le _⟩ (fun r93 σ92 τ92 H locs h92 hP hS => ?_)
                      exact by
                       obtain ⟨⟨rfl, rfl⟩, h92⟩ := h92
                       have h94 := h92
                       obtain ⟨q96, k95⟩ := h94
                       have q97 : r93 = (σ 70 (σ 86 a1.toNatClampNeg).toNatClampNeg) := q96.trans rfl
                       have q97 := q97.symm
                       subst q97
                       refine lv_goto (tgt := 95) hx hb dX12_taken_90 (of_decide_eq_true rfl) ?_
                       exact hret (σ 70 (σ 86 a1.toNatClampNeg).toNatClampNeg) σ τ _ _ _ _ rfl ⟨⟨rfl, rfl⟩, (by unfold jTg; first | ((repeat (first | rw [if_pos (by omega)] | rw [if_neg (by omega)])) <;> omega) | ((repeat' split) <;> omega)), trivial⟩ hP hS dX12_taken_95
                   · have kc90 := jne c90 jz_0 t2
                     refine lv_iload_n hx hb dX12_taken_63 rfl (lv_at hl 0 rfl) ?_
                     refine lv_if_le (tgt := 75) hx hb dX12_taken_64 (of_decide_eq_true rfl) (fun _ => ?_) (fun c => absurd (of_decide_eq_true rfl) c)
                     refine lv_iload_n hx hb dX12_taken_75 rfl (lv_at hl 0 rfl) ?_
                     refine lv_iload_n hx hb dX12_taken_76 rfl (lv_at hl 3 rfl) ?_
                     exact by
                      refine lv_icmp_ne (tgt := 93) hx hb dX12_taken_77 (of_decide_eq_true rfl) (fun c98 => ?_) (fun c => absurd (jeq c jz_0 t2) (by omega))
                      have kc98 := jne c98 jz_0 t2
                      refine lv_bipush (v := (-12)) hx hb dX12_taken_93 (of_decide_eq_true rfl) ?_
                      exact hret (-12) σ τ _ _ _ _ rfl ⟨⟨rfl, rfl⟩, (by have h9 := jz_m12; unfold jTg; first | ((repeat (first | rw [if_pos (by omega)] | rw [if_neg (by omega)])) <;> omega) | ((repeat' split) <;> omega)), trivial⟩ hP hS dX12_taken_95
             have kc67 := jne c67 (rfl : (σ 70 (σ 86 a1.toNatClampNeg).toNatClampNeg).toInt = (σ 70 (σ 86 a1.toNatClampNeg).toNatClampNeg).toInt) jz_2
             by_cases c99 : (σ 70 (σ 86 a1.toNatClampNeg).toNatClampNeg) = 3
             · have kc99 := jeq c99 (rfl : (σ 70 (σ 86 a1.toNatClampNeg).toNatClampNeg).toInt = (σ 70 (σ 86 a1.toNatClampNeg).toNatClampNeg).toInt) jz_3
               rw [c99]
               refine lv_istore_n (lv' := [(3, .int 3), (0, .ref (ad 55)), (1, .int a1), (2, .int a2)]) hx hb dX12_taken_57 rfl hl (of_decide_eq_true rfl) rfl (fun ls hl => ?_)
               refine lv_iload_n hx hb dX12_taken_58 rfl (lv_at hl 0 rfl) ?_
               refine lv_iload_n hx hb dX12_taken_59 rfl (lv_at hl 3 rfl) ?_
               refine lv_icmp_eq (tgt := 75) hx hb dX12_taken_60 (of_decide_eq_true rfl) (fun c100 => ?_) (fun c100 => ?_)
               · have kc100 := jeq c100 jz_3 t2
                 refine lv_iload_n hx hb dX12_taken_75 rfl (lv_at hl 0 rfl) ?_
                 refine lv_iload_n hx hb dX12_taken_76 rfl (lv_at hl 3 rfl) ?_
                 exact by
                  refine lv_icmp_ne (tgt := 93) hx hb dX12_taken_77 (of_decide_eq_true rfl) (fun c => absurd (jne c jz_3 t2) (by omega)) (fun c101 => ?_)
                  have kc101 := jeq c101 jz_3 t2
                  refine lv_aload_n hx hb dX12_taken_80 rfl (lv_at hl 1 rfl) ?_
                  refine lv_aload_n hx hb dX12_taken_81 rfl (lv_at hl 1 rfl) ?_
                  refine va_get (D := D) hx hb hts inlX12 hown hK hP 55 (jc_55 cI cL ad σ τ) rfl 58 (of_decide_eq_true rfl) (hts _ kw_8_11) (fun _ h9 => h9) rfl dX12_taken_82 ?_
                  refine lv_iload_n hx hb dX12_taken_85 rfl (lv_at hl 2 rfl) ?_
                  refine jald hx hb hK hP (jc_86 cI cL ad σ τ) (jin t1 (by omega) (by omega)) dX12_taken_86 ?_
                  refine jtopr (y := (σ 86 a1.toNatClampNeg)) rfl ?_
                  refine jcallV (As := [.int (σ 86 a1.toNatClampNeg)]) (rest := []) ⟨hx, hb, hml, hown, hts⟩ hK hP hA hS hZ (c_X12_kindOf l D cI cL ad zz hJ σ τ (σ 86 a1.toNatClampNeg) ((σ 86 a1.toNatClampNeg).toInt) rfl hI106 (by omega)) cw_RX12_413 (jc_55 cI cL ad σ τ) rfl ⟨Nat.le_of_ble_eq_true rfl, Nat.le_of_ble_eq_true rfl⟩ rfl rfl rfl hl.1 rfl (Nat.le_of_ble_eq_true rfl) dX12_taken_87 ⟨Nat.zero_le _, Nat.zero_le _⟩ (fun r103 σ102 τ102 H locs h102 hP hS => ?_)
                  exact by
                   obtain ⟨⟨rfl, rfl⟩, h102⟩ := h102
                   have h104 := h102
                   obtain ⟨q106, k105⟩ := h104
                   have q107 : r103 = (σ 70 (σ 86 a1.toNatClampNeg).toNatClampNeg) := q106.trans rfl
                   have q107 := q107.symm
                   subst q107
                   refine lv_goto (tgt := 95) hx hb dX12_taken_90 (of_decide_eq_true rfl) ?_
                   exact hret (σ 70 (σ 86 a1.toNatClampNeg).toNatClampNeg) σ τ _ _ _ _ rfl ⟨⟨rfl, rfl⟩, (by unfold jTg; first | ((repeat (first | rw [if_pos (by omega)] | rw [if_neg (by omega)])) <;> omega) | ((repeat' split) <;> omega)), trivial⟩ hP hS dX12_taken_95
               · have kc100 := jne c100 jz_3 t2
                 refine lv_iload_n hx hb dX12_taken_63 rfl (lv_at hl 0 rfl) ?_
                 refine lv_if_le (tgt := 75) hx hb dX12_taken_64 (of_decide_eq_true rfl) (fun c => absurd c (of_decide_eq_true rfl)) (fun _ => ?_)
                 refine lv_iload_n hx hb dX12_taken_67 rfl (lv_at hl 0 rfl) ?_
                 refine jcallS (As := [.int 3]) (rest := []) ⟨hx, hb, hml, hown, hts⟩ hK hP hA hS hZ (c_X12_above l D cI cL ad zz hJ σ τ 3 (3) jz_3) cw_RX12_416 ⟨Nat.le_of_ble_eq_true rfl, Nat.le_of_ble_eq_true rfl⟩ rfl rfl rfl hl.1 rfl (Nat.le_of_ble_eq_true rfl) dX12_taken_68 ⟨Nat.zero_le _, Nat.zero_le _⟩ (fun r109 σ108 τ108 H locs h108 hP hS => ?_)
                 obtain ⟨⟨rfl, rfl⟩, h108⟩ := h108
                 rcases h108 with h110 | h111 | h112 | h113
                 · obtain ⟨q115, k114⟩ := h110
                   exact absurd (by omega : False) id
                 · obtain ⟨q117, k116⟩ := h111
                   have q117 := q117.symm
                   subst q117
                   refine lv_istore_n (lv' := [(3, .int 2), (0, .ref (ad 55)), (1, .int a1), (2, .int a2)]) hx hb dX12_taken_71 rfl hl (of_decide_eq_true rfl) rfl (fun ls hl => ?_)
                   refine lv_goto (tgt := 58) hx hb dX12_taken_72 (of_decide_eq_true rfl) ?_
                   refine lv_iload_n hx hb dX12_taken_58 rfl (lv_at hl 0 rfl) ?_
                   refine lv_iload_n hx hb dX12_taken_59 rfl (lv_at hl 3 rfl) ?_
                   refine lv_icmp_eq (tgt := 75) hx hb dX12_taken_60 (of_decide_eq_true rfl) (fun c118 => ?_) (fun c118 => ?_)
                   · have kc118 := jeq c118 jz_2 t2
                     refine lv_iload_n hx hb dX12_taken_75 rfl (lv_at hl 0 rfl) ?_
                     refine lv_iload_n hx hb dX12_taken_76 rfl (lv_at hl 3 rfl) ?_
                     exact by
                      refine lv_icmp_ne (tgt := 93) hx hb dX12_taken_77 (of_decide_eq_true rfl) (fun c => absurd (jne c jz_2 t2) (by omega)) (fun c119 => ?_)
                      have kc119 := jeq c119 jz_2 t2
                      refine lv_aload_n hx hb dX12_taken_80 rfl (lv_at hl 1 rfl) ?_
                      refine lv_aload_n hx hb dX12_taken_81 rfl (lv_at hl 1 rfl) ?_
                      refine va_get (D := D) hx hb hts inlX12 hown hK hP 55 (jc_55 cI cL ad σ τ) rfl 58 (of_decide_eq_true rfl) (hts _ kw_8_11) (fun _ h9 => h9) rfl dX12_taken_82 ?_
                      refine lv_iload_n hx hb dX12_taken_85 rfl (lv_at hl 2 rfl) ?_
                      refine jald hx hb hK hP (jc_86 cI cL ad σ τ) (jin t1 (by omega) (by omega)) dX12_taken_86 ?_
                      refine jtopr (y := (σ 86 a1.toNatClampNeg)) rfl ?_
                      refine jcallV (As := [.int (σ 86 a1.toNatClampNeg)]) (rest := []) ⟨hx, hb, hml, hown, hts⟩ hK hP hA hS hZ (c_X12_kindOf l D cI cL ad zz hJ σ τ (σ 86 a1.toNatClampNeg) ((σ 86 a1.toNatClampNeg).toInt) rfl hI106 (by omega)) cw_RX12_413 (jc_55 cI cL ad σ τ) rfl ⟨Nat.le_of_ble_eq_true rfl, Nat.le_of_ble_eq_true rfl⟩ rfl rfl rfl hl.1 rfl (Nat.le_of_ble_eq_true rfl) dX12_taken_87 ⟨Nat.zero_le _, Nat.zero_le _⟩ (fun r121 σ120 τ120 H locs h120 hP hS => ?_)
                      exact by
                       obtain ⟨⟨rfl, rfl⟩, h120⟩ := h120
                       have h122 := h120
                       obtain ⟨q124, k123⟩ := h122
                       have q125 : r121 = (σ 70 (σ 86 a1.toNatClampNeg).toNatClampNeg) := q124.trans rfl
                       have q125 := q125.symm
                       subst q125
                       refine lv_goto (tgt := 95) hx hb dX12_taken_90 (of_decide_eq_true rfl) ?_
                       exact hret (σ 70 (σ 86 a1.toNatClampNeg).toNatClampNeg) σ τ _ _ _ _ rfl ⟨⟨rfl, rfl⟩, (by unfold jTg; first | ((repeat (first | rw [if_pos (by omega)] | rw [if_neg (by omega)])) <;> omega) | ((repeat' split) <;> omega)), trivial⟩ hP hS dX12_taken_95
                   · have kc118 := jne c118 jz_2 t2
                     refine lv_iload_n hx hb dX12_taken_63 rfl (lv_at hl 0 rfl) ?_
                     refine lv_if_le (tgt := 75) hx hb dX12_taken_64 (of_decide_eq_true rfl) (fun c => absurd c (of_decide_eq_true rfl)) (fun _ => ?_)
                     refine lv_iload_n hx hb dX12_taken_67 rfl (lv_at hl 0 rfl) ?_
                     refine jcallS (As := [.int 2]) (rest := []) ⟨hx, hb, hml, hown, hts⟩ hK hP hA hS hZ (c_X12_above l D cI cL ad zz hJ σ τ 2 (2) jz_2) cw_RX12_416 ⟨Nat.le_of_ble_eq_true rfl, Nat.le_of_ble_eq_true rfl⟩ rfl rfl rfl hl.1 rfl (Nat.le_of_ble_eq_true rfl) dX12_taken_68 ⟨Nat.zero_le _, Nat.zero_le _⟩ (fun r127 σ126 τ126 H locs h126 hP hS => ?_)
                     obtain ⟨⟨rfl, rfl⟩, h126⟩ := h126
                     rcases h126 with h128 | h129 | h130 | h131
                     · obtain ⟨q133, k132⟩ := h128
                       exact absurd (by omega : False) id
                     · obtain ⟨q135, k134⟩ := h129
                       exact absurd (by omega : False) id
                     · obtain ⟨q137, k136⟩ := h130
                       exact absurd (by omega : False) id
                     · obtain ⟨q139, k138⟩ := h131
                       have q139 := q139.symm
                       subst q139
                       refine lv_istore_n (lv' := [(3, .int 0), (0, .ref (ad 55)), (1, .int a1), (2, .int a2)]) hx hb dX12_taken_71 rfl hl (of_decide_eq_true rfl) rfl (fun ls hl => ?_)
                       refine lv_goto (tgt := 58) hx hb dX12_taken_72 (of_decide_eq_true rfl) ?_
                       refine lv_iload_n hx hb dX12_taken_58 rfl (lv_at hl 0 rfl) ?_
                       refine lv_iload_n hx hb dX12_taken_59 rfl (lv_at hl 3 rfl) ?_
                       refine lv_icmp_eq (tgt := 75) hx hb dX12_taken_60 (of_decide_eq_true rfl) (fun c140 => ?_) (fun c140 => ?_)
                       · have kc140 := jeq c140 jz_0 t2
                         refine lv_iload_n hx hb dX12_taken_75 rfl (lv_at hl 0 rfl) ?_
                         refine lv_iload_n hx hb dX12_taken_76 rfl (lv_at hl 3 rfl) ?_
                         exact by
                          refine lv_icmp_ne (tgt := 93) hx hb dX12_taken_77 (of_decide_eq_true rfl) (fun c => absurd (jne c jz_0 t2) (by omega)) (fun c141 => ?_)
                          have kc141 := jeq c141 jz_0 t2
                          refine lv_aload_n hx hb dX12_taken_80 rfl (lv_at hl 1 rfl) ?_
                          refine lv_aload_n hx hb dX12_taken_81 rfl (lv_at hl 1 rfl) ?_
                          refine va_get (D := D) hx hb hts inlX12 hown hK hP 55 (jc_55 cI cL ad σ τ) rfl 58 (of_decide_eq_true rfl) (hts _ kw_8_11) (fun _ h9 => h9) rfl dX12_taken_82 ?_
                          refine lv_iload_n hx hb dX12_taken_85 rfl (lv_at hl 2 rfl) ?_
                          refine jald hx hb hK hP (jc_86 cI cL ad σ τ) (jin t1 (by omega) (by omega)) dX12_taken_86 ?_
                          refine jtopr (y := (σ 86 a1.toNatClampNeg)) rfl ?_
                          refine jcallV (As := [.int (σ 86 a1.toNatClampNeg)]) (rest := []) ⟨hx, hb, hml, hown, hts⟩ hK hP hA hS hZ (c_X12_kindOf l D cI cL ad zz hJ σ τ (σ 86 a1.toNatClampNeg) ((σ 86 a1.toNatClampNeg).toInt) rfl hI106 (by omega)) cw_RX12_413 (jc_55 cI cL ad σ τ) rfl ⟨Nat.le_of_ble_eq_true rfl, Nat.le_of_ble_eq_true rfl⟩ rfl rfl rfl hl.1 rfl (Nat.le_of_ble_eq_true rfl) dX12_taken_87 ⟨Nat.zero_le _, Nat.zero_le _⟩ (fun r143 σ142 τ142 H locs h142 hP hS => ?_)
                          exact by
                           obtain ⟨⟨rfl, rfl⟩, h142⟩ := h142
                           have h144 := h142
                           obtain ⟨q146, k145⟩ := h144
                           have q147 : r143 = (σ 70 (σ 86 a1.toNatClampNeg).toNatClampNeg) := q146.trans rfl
                           have q147 := q147.symm
                           subst q147
                           refine lv_goto (tgt := 95) hx hb dX12_taken_90 (of_decide_eq_true rfl) ?_
                           exact hret (σ 70 (σ 86 a1.toNatClampNeg).toNatClampNeg) σ τ _ _ _ _ rfl ⟨⟨rfl, rfl⟩, (by unfold jTg; first | ((repeat (first | rw [if_pos (by omega)] | rw [if_neg (by omega)])) <;> omega) | ((repeat' split) <;> omega)), trivial⟩ hP hS dX12_taken_95
                       · have kc140 := jne c140 jz_0 t2
                         refine lv_iload_n hx hb dX12_taken_63 rfl (lv_at hl 0 rfl) ?_
                         refine lv_if_le (tgt := 75) hx hb dX12_taken_64 (of_decide_eq_true rfl) (fun _ => ?_) (fun c => absurd (of_decide_eq_true rfl) c)
                         refine lv_iload_n hx hb dX12_taken_75 rfl (lv_at hl 0 rfl) ?_
                         refine lv_iload_n hx hb dX12_taken_76 rfl (lv_at hl 3 rfl) ?_
                         exact by
                          refine lv_icmp_ne (tgt := 93) hx hb dX12_taken_77 (of_decide_eq_true rfl) (fun c148 => ?_) (fun c => absurd (jeq c jz_0 t2) (by omega))
                          have kc148 := jne c148 jz_0 t2
                          refine lv_bipush (v := (-12)) hx hb dX12_taken_93 (of_decide_eq_true rfl) ?_
                          exact hret (-12) σ τ _ _ _ _ rfl ⟨⟨rfl, rfl⟩, (by have h9 := jz_m12; unfold jTg; first | ((repeat (first | rw [if_pos (by omega)] | rw [if_neg (by omega)])) <;> omega) | ((repeat' split) <;> omega)), trivial⟩ hP hS dX12_taken_95
                 · obtain ⟨q150, k149⟩ := h112
                   exact absurd (by omega : False) id
                 · obtain ⟨q152, k151⟩ := h113
                   exact absurd (by omega : False) id
             have kc99 := jne c99 (rfl : (σ 70 (σ 86 a1.toNatClampNeg).toNatClampNeg).toInt = (σ 70 (σ 86 a1.toNatClampNeg).toNatClampNeg).toInt) jz_3
             by_cases c153 : (σ 70 (σ 86 a1.toNatClampNeg).toNatClampNeg) = 4
             · have kc153 := jeq c153 (rfl : (σ 70 (σ 86 a1.toNatClampNeg).toNatClampNeg).toInt = (σ 70 (σ 86 a1.toNatClampNeg).toNatClampNeg).toInt) jz_4
               rw [c153]
               refine lv_istore_n (lv' := [(3, .int 4), (0, .ref (ad 55)), (1, .int a1), (2, .int a2)]) hx hb dX12_taken_57 rfl hl (of_decide_eq_true rfl) rfl (fun ls hl => ?_)
               refine lv_iload_n hx hb dX12_taken_58 rfl (lv_at hl 0 rfl) ?_
               refine lv_iload_n hx hb dX12_taken_59 rfl (lv_at hl 3 rfl) ?_
               refine lv_icmp_eq (tgt := 75) hx hb dX12_taken_60 (of_decide_eq_true rfl) (fun c154 => ?_) (fun c154 => ?_)
               · have kc154 := jeq c154 jz_4 t2
                 refine lv_iload_n hx hb dX12_taken_75 rfl (lv_at hl 0 rfl) ?_
                 refine lv_iload_n hx hb dX12_taken_76 rfl (lv_at hl 3 rfl) ?_
                 exact by
                  refine lv_icmp_ne (tgt := 93) hx hb dX12_taken_77 (of_decide_eq_true rfl) (fun c => absurd (jne c jz_4 t2) (by omega)) (fun c155 => ?_)
                  have kc155 := jeq c155 jz_4 t2
                  refine lv_aload_n hx hb dX12_taken_80 rfl (lv_at hl 1 rfl) ?_
                  refine lv_aload_n hx hb dX12_taken_81 rfl (lv_at hl 1 rfl) ?_
                  refine va_get (D := D) hx hb hts inlX12 hown hK hP 55 (jc_55 cI cL ad σ τ) rfl 58 (of_decide_eq_true rfl) (hts _ kw_8_11) (fun _ h9 => h9) rfl dX12_taken_82 ?_
                  refine lv_iload_n hx hb dX12_taken_85 rfl (lv_at hl 2 rfl) ?_
                  refine jald hx hb hK hP (jc_86 cI cL ad σ τ) (jin t1 (by omega) (by omega)) dX12_taken_86 ?_
                  refine jtopr (y := (σ 86 a1.toNatClampNeg)) rfl ?_
                  refine jcallV (As := [.int (σ 86 a1.toNatClampNeg)]) (rest := []) ⟨hx, hb, hml, hown, hts⟩ hK hP hA hS hZ (c_X12_kindOf l D cI cL ad zz hJ σ τ (σ 86 a1.toNatClampNeg) ((σ 86 a1.toNatClampNeg).toInt) rfl hI106 (by omega)) cw_RX12_413 (jc_55 cI cL ad σ τ) rfl ⟨Nat.le_of_ble_eq_true rfl, Nat.le_of_ble_eq_true rfl⟩ rfl rfl rfl hl.1 rfl (Nat.le_of_ble_eq_true rfl) dX12_taken_87 ⟨Nat.zero_le _, Nat.zero_le _⟩ (fun r157 σ156 τ156 H locs h156 hP hS => ?_)
                  exact by
                   obtain ⟨⟨rfl, rfl⟩, h156⟩ := h156
                   have h158 := h156
                   obtain ⟨q160, k159⟩ := h158
                   have q161 : r157 = (σ 70 (σ 86 a1.toNatClampNeg).toNatClampNeg) := q160.trans rfl
                   have q161 := q161.symm
                   subst q161
                   refine lv_goto (tgt := 95) hx hb dX12_taken_90 (of_decide_eq_true rfl) ?_
                   exact hret (σ 70 (σ 86 a1.toNatClampNeg).toNatClampNeg) σ τ _ _ _ _ rfl ⟨⟨rfl, rfl⟩, (by unfold jTg; first | ((repeat (first | rw [if_pos (by omega)] | rw [if_neg (by omega)])) <;> omega) | ((repeat' split) <;> omega)), trivial⟩ hP hS dX12_taken_95
               · have kc154 := jne c154 jz_4 t2
                 refine lv_iload_n hx hb dX12_taken_63 rfl (lv_at hl 0 rfl) ?_
                 refine lv_if_le (tgt := 75) hx hb dX12_taken_64 (of_decide_eq_true rfl) (fun c => absurd c (of_decide_eq_true rfl)) (fun _ => ?_)
                 refine lv_iload_n hx hb dX12_taken_67 rfl (lv_at hl 0 rfl) ?_
                 refine jcallS (As := [.int 4]) (rest := []) ⟨hx, hb, hml, hown, hts⟩ hK hP hA hS hZ (c_X12_above l D cI cL ad zz hJ σ τ 4 (4) jz_4) cw_RX12_416 ⟨Nat.le_of_ble_eq_true rfl, Nat.le_of_ble_eq_true rfl⟩ rfl rfl rfl hl.1 rfl (Nat.le_of_ble_eq_true rfl) dX12_taken_68 ⟨Nat.zero_le _, Nat.zero_le _⟩ (fun r163 σ162 τ162 H locs h162 hP hS => ?_)
                 obtain ⟨⟨rfl, rfl⟩, h162⟩ := h162
                 rcases h162 with h164 | h165 | h166 | h167
                 · obtain ⟨q169, k168⟩ := h164
                   exact absurd (by omega : False) id
                 · obtain ⟨q171, k170⟩ := h165
                   exact absurd (by omega : False) id
                 · obtain ⟨q173, k172⟩ := h166
                   have q173 := q173.symm
                   subst q173
                   refine lv_istore_n (lv' := [(3, .int 1), (0, .ref (ad 55)), (1, .int a1), (2, .int a2)]) hx hb dX12_taken_71 rfl hl (of_decide_eq_true rfl) rfl (fun ls hl => ?_)
                   refine lv_goto (tgt := 58) hx hb dX12_taken_72 (of_decide_eq_true rfl) ?_
                   refine lv_iload_n hx hb dX12_taken_58 rfl (lv_at hl 0 rfl) ?_
                   refine lv_iload_n hx hb dX12_taken_59 rfl (lv_at hl 3 rfl) ?_
                   refine lv_icmp_eq (tgt := 75) hx hb dX12_taken_60 (of_decide_eq_true rfl) (fun c174 => ?_) (fun c174 => ?_)
                   · have kc174 := jeq c174 jz_1 t2
                     refine lv_iload_n hx hb dX12_taken_75 rfl (lv_at hl 0 rfl) ?_
                     refine lv_iload_n hx hb dX12_taken_76 rfl (lv_at hl 3 rfl) ?_
                     exact by
                      refine lv_icmp_ne (tgt := 93) hx hb dX12_taken_77 (of_decide_eq_true rfl) (fun c => absurd (jne c jz_1 t2) (by omega)) (fun c175 => ?_)
                      have kc175 := jeq c175 jz_1 t2
                      refine lv_aload_n hx hb dX12_taken_80 rfl (lv_at hl 1 rfl) ?_
                      refine lv_aload_n hx hb dX12_taken_81 rfl (lv_at hl 1 rfl) ?_
                      refine va_get (D := D) hx hb hts inlX12 hown hK hP 55 (jc_55 cI cL ad σ τ) rfl 58 (of_decide_eq_true rfl) (hts _ kw_8_11) (fun _ h9 => h9) rfl dX12_taken_82 ?_
                      refine lv_iload_n hx hb dX12_taken_85 rfl (lv_at hl 2 rfl) ?_
                      refine jald hx hb hK hP (jc_86 cI cL ad σ τ) (jin t1 (by omega) (by omega)) dX12_taken_86 ?_
                      refine jtopr (y := (σ 86 a1.toNatClampNeg)) rfl ?_
                      refine jcallV (As := [.int (σ 86 a1.toNatClampNeg)]) (rest := []) ⟨hx, hb, hml, hown, hts⟩ hK hP hA hS hZ (c_X12_kindOf l D cI cL ad zz hJ σ τ (σ 86 a1.toNatClampNeg) ((σ 86 a1.toNatClampNeg).toInt) rfl hI106 (by omega)) cw_RX12_413 (jc_55 cI cL ad σ τ) rfl ⟨Nat.le_of_ble_eq_true rfl, Nat.le_of_ble_eq_true rfl⟩ rfl rfl rfl hl.1 rfl (Nat.le_of_ble_eq_true rfl) dX12_taken_87 ⟨Nat.zero_le _, Nat.zero_le _⟩ (fun r177 σ176 τ176 H locs h176 hP hS => ?_)
                      exact by
                       obtain ⟨⟨rfl, rfl⟩, h176⟩ := h176
                       have h178 := h176
                       obtain ⟨q180, k179⟩ := h178
                       have q181 : r177 = (σ 70 (σ 86 a1.toNatClampNeg).toNatClampNeg) := q180.trans rfl
                       have q181 := q181.symm
                       subst q181
                       refine lv_goto (tgt := 95) hx hb dX12_taken_90 (of_decide_eq_true rfl) ?_
                       exact hret (σ 70 (σ 86 a1.toNatClampNeg).toNatClampNeg) σ τ _ _ _ _ rfl ⟨⟨rfl, rfl⟩, (by unfold jTg; first | ((repeat (first | rw [if_pos (by omega)] | rw [if_neg (by omega)])) <;> omega) | ((repeat' split) <;> omega)), trivial⟩ hP hS dX12_taken_95
                   · have kc174 := jne c174 jz_1 t2
                     refine lv_iload_n hx hb dX12_taken_63 rfl (lv_at hl 0 rfl) ?_
                     refine lv_if_le (tgt := 75) hx hb dX12_taken_64 (of_decide_eq_true rfl) (fun c => absurd c (of_decide_eq_true rfl)) (fun _ => ?_)
                     refine lv_iload_n hx hb dX12_taken_67 rfl (lv_at hl 0 rfl) ?_
                     refine jcallS (As := [.int 1]) (rest := []) ⟨hx, hb, hml, hown, hts⟩ hK hP hA hS hZ (c_X12_above l D cI cL ad zz hJ σ τ 1 (1) jz_1) cw_RX12_416 ⟨Nat.le_of_ble_eq_true rfl, Nat.le_of_ble_eq_true rfl⟩ rfl rfl rfl hl.1 rfl (Nat.le_of_ble_eq_true rfl) dX12_taken_68 ⟨Nat.zero_le _, Nat.zero_le _⟩ (fun r183 σ182 τ182 H locs h182 hP hS => ?_)
                     obtain ⟨⟨rfl, rfl⟩, h182⟩ := h182
                     rcases h182 with h184 | h185 | h186 | h187
                     · obtain ⟨q189, k188⟩ := h184
                       exact absurd (by omega : False) id
                     · obtain ⟨q191, k190⟩ := h185
                       exact absurd (by omega : False) id
                     · obtain ⟨q193, k192⟩ := h186
                       exact absurd (by omega : False) id
                     · obtain ⟨q195, k194⟩ := h187
                       have q195 := q195.symm
                       subst q195
                       refine lv_istore_n (lv' := [(3, .int 0), (0, .ref (ad 55)), (1, .int a1), (2, .int a2)]) hx hb dX12_taken_71 rfl hl (of_decide_eq_true rfl) rfl (fun ls hl => ?_)
                       refine lv_goto (tgt := 58) hx hb dX12_taken_72 (of_decide_eq_true rfl) ?_
                       refine lv_iload_n hx hb dX12_taken_58 rfl (lv_at hl 0 rfl) ?_
                       refine lv_iload_n hx hb dX12_taken_59 rfl (lv_at hl 3 rfl) ?_
                       refine lv_icmp_eq (tgt := 75) hx hb dX12_taken_60 (of_decide_eq_true rfl) (fun c196 => ?_) (fun c196 => ?_)
                       · have kc196 := jeq c196 jz_0 t2
                         refine lv_iload_n hx hb dX12_taken_75 rfl (lv_at hl 0 rfl) ?_
                         refine lv_iload_n hx hb dX12_taken_76 rfl (lv_at hl 3 rfl) ?_
                         exact by
                          refine lv_icmp_ne (tgt := 93) hx hb dX12_taken_77 (of_decide_eq_true rfl) (fun c => absurd (jne c jz_0 t2) (by omega)) (fun c197 => ?_)
                          have kc197 := jeq c197 jz_0 t2
                          refine lv_aload_n hx hb dX12_taken_80 rfl (lv_at hl 1 rfl) ?_
                          refine lv_aload_n hx hb dX12_taken_81 rfl (lv_at hl 1 rfl) ?_
                          refine va_get (D := D) hx hb hts inlX12 hown hK hP 55 (jc_55 cI cL ad σ τ) rfl 58 (of_decide_eq_true rfl) (hts _ kw_8_11) (fun _ h9 => h9) rfl dX12_taken_82 ?_
                          refine lv_iload_n hx hb dX12_taken_85 rfl (lv_at hl 2 rfl) ?_
                          refine jald hx hb hK hP (jc_86 cI cL ad σ τ) (jin t1 (by omega) (by omega)) dX12_taken_86 ?_
                          refine jtopr (y := (σ 86 a1.toNatClampNeg)) rfl ?_
                          refine jcallV (As := [.int (σ 86 a1.toNatClampNeg)]) (rest := []) ⟨hx, hb, hml, hown, hts⟩ hK hP hA hS hZ (c_X12_kindOf l D cI cL ad zz hJ σ τ (σ 86 a1.toNatClampNeg) ((σ 86 a1.toNatClampNeg).toInt) rfl hI106 (by omega)) cw_RX12_413 (jc_55 cI cL ad σ τ) rfl ⟨Nat.le_of_ble_eq_true rfl, Nat.le_of_ble_eq_true rfl⟩ rfl rfl rfl hl.1 rfl (Nat.le_of_ble_eq_true rfl) dX12_taken_87 ⟨Nat.zero_le _, Nat.zero_le _⟩ (fun r199 σ198 τ198 H locs h198 hP hS => ?_)
                          exact by
                           obtain ⟨⟨rfl, rfl⟩, h198⟩ := h198
                           have h200 := h198
                           obtain ⟨q202, k201⟩ := h200
                           have q203 : r199 = (σ 70 (σ 86 a1.toNatClampNeg).toNatClampNeg) := q202.trans rfl
                           have q203 := q203.symm
                           subst q203
                           refine lv_goto (tgt := 95) hx hb dX12_taken_90 (of_decide_eq_true rfl) ?_
                           exact hret (σ 70 (σ 86 a1.toNatClampNeg).toNatClampNeg) σ τ _ _ _ _ rfl ⟨⟨rfl, rfl⟩, (by unfold jTg; first | ((repeat (first | rw [if_pos (by omega)] | rw [if_neg (by omega)])) <;> omega) | ((repeat' split) <;> omega)), trivial⟩ hP hS dX12_taken_95
                       · have kc196 := jne c196 jz_0 t2
                         refine lv_iload_n hx hb dX12_taken_63 rfl (lv_at hl 0 rfl) ?_
                         refine lv_if_le (tgt := 75) hx hb dX12_taken_64 (of_decide_eq_true rfl) (fun _ => ?_) (fun c => absurd (of_decide_eq_true rfl) c)
                         refine lv_iload_n hx hb dX12_taken_75 rfl (lv_at hl 0 rfl) ?_
                         refine lv_iload_n hx hb dX12_taken_76 rfl (lv_at hl 3 rfl) ?_
                         exact by
                          refine lv_icmp_ne (tgt := 93) hx hb dX12_taken_77 (of_decide_eq_true rfl) (fun c204 => ?_) (fun c => absurd (jeq c jz_0 t2) (by omega))
                          have kc204 := jne c204 jz_0 t2
                          refine lv_bipush (v := (-12)) hx hb dX12_taken_93 (of_decide_eq_true rfl) ?_
                          exact hret (-12) σ τ _ _ _ _ rfl ⟨⟨rfl, rfl⟩, (by have h9 := jz_m12; unfold jTg; first | ((repeat (first | rw [if_pos (by omega)] | rw [if_neg (by omega)])) <;> omega) | ((repeat' split) <;> omega)), trivial⟩ hP hS dX12_taken_95
                 · obtain ⟨q206, k205⟩ := h167
                   exact absurd (by omega : False) id
             have kc153 := jne c153 (rfl : (σ 70 (σ 86 a1.toNatClampNeg).toNatClampNeg).toInt = (σ 70 (σ 86 a1.toNatClampNeg).toNatClampNeg).toInt) jz_4
             by_cases c207 : (σ 70 (σ 86 a1.toNatClampNeg).toNatClampNeg) = 5
             · have kc207 := jeq c207 (rfl : (σ 70 (σ 86 a1.toNatClampNeg).toNatClampNeg).toInt = (σ 70 (σ 86 a1.toNatClampNeg).toNatClampNeg).toInt) jz_5
               rw [c207]
               refine lv_istore_n (lv' := [(3, .int 5), (0, .ref (ad 55)), (1, .int a1), (2, .int a2)]) hx hb dX12_taken_57 rfl hl (of_decide_eq_true rfl) rfl (fun ls hl => ?_)
               refine lv_iload_n hx hb dX12_taken_58 rfl (lv_at hl 0 rfl) ?_
               refine lv_iload_n hx hb dX12_taken_59 rfl (lv_at hl 3 rfl) ?_
               refine lv_icmp_eq (tgt := 75) hx hb dX12_taken_60 (of_decide_eq_true rfl) (fun c208 => ?_) (fun c208 => ?_)
               · have kc208 := jeq c208 jz_5 t2
                 refine lv_iload_n hx hb dX12_taken_75 rfl (lv_at hl 0 rfl) ?_
                 refine lv_iload_n hx hb dX12_taken_76 rfl (lv_at hl 3 rfl) ?_
                 exact by
                  refine lv_icmp_ne (tgt := 93) hx hb dX12_taken_77 (of_decide_eq_true rfl) (fun c => absurd (jne c jz_5 t2) (by omega)) (fun c209 => ?_)
                  have kc209 := jeq c209 jz_5 t2
                  refine lv_aload_n hx hb dX12_taken_80 rfl (lv_at hl 1 rfl) ?_
                  refine lv_aload_n hx hb dX12_taken_81 rfl (lv_at hl 1 rfl) ?_
                  refine va_get (D := D) hx hb hts inlX12 hown hK hP 55 (jc_55 cI cL ad σ τ) rfl 58 (of_decide_eq_true rfl) (hts _ kw_8_11) (fun _ h9 => h9) rfl dX12_taken_82 ?_
                  refine lv_iload_n hx hb dX12_taken_85 rfl (lv_at hl 2 rfl) ?_
                  refine jald hx hb hK hP (jc_86 cI cL ad σ τ) (jin t1 (by omega) (by omega)) dX12_taken_86 ?_
                  refine jtopr (y := (σ 86 a1.toNatClampNeg)) rfl ?_
                  refine jcallV (As := [.int (σ 86 a1.toNatClampNeg)]) (rest := []) ⟨hx, hb, hml, hown, hts⟩ hK hP hA hS hZ (c_X12_kindOf l D cI cL ad zz hJ σ τ (σ 86 a1.toNatClampNeg) ((σ 86 a1.toNatClampNeg).toInt) rfl hI106 (by omega)) cw_RX12_413 (jc_55 cI cL ad σ τ) rfl ⟨Nat.le_of_ble_eq_true rfl, Nat.le_of_ble_eq_true rfl⟩ rfl rfl rfl hl.1 rfl (Nat.le_of_ble_eq_true rfl) dX12_taken_87 ⟨Nat.zero_le _, Nat.zero_le _⟩ (fun r211 σ210 τ210 H locs h210 hP hS => ?_)
                  exact by
                   obtain ⟨⟨rfl, rfl⟩, h210⟩ := h210
                   have h212 := h210
                   obtain ⟨q214, k213⟩ := h212
                   have q215 : r211 = (σ 70 (σ 86 a1.toNatClampNeg).toNatClampNeg) := q214.trans rfl
                   have q215 := q215.symm
                   subst q215
                   refine lv_goto (tgt := 95) hx hb dX12_taken_90 (of_decide_eq_true rfl) ?_
                   exact hret (σ 70 (σ 86 a1.toNatClampNeg).toNatClampNeg) σ τ _ _ _ _ rfl ⟨⟨rfl, rfl⟩, (by unfold jTg; first | ((repeat (first | rw [if_pos (by omega)] | rw [if_neg (by omega)])) <;> omega) | ((repeat' split) <;> omega)), trivial⟩ hP hS dX12_taken_95
               · have kc208 := jne c208 jz_5 t2
                 refine lv_iload_n hx hb dX12_taken_63 rfl (lv_at hl 0 rfl) ?_
                 refine lv_if_le (tgt := 75) hx hb dX12_taken_64 (of_decide_eq_true rfl) (fun c => absurd c (of_decide_eq_true rfl)) (fun _ => ?_)
                 refine lv_iload_n hx hb dX12_taken_67 rfl (lv_at hl 0 rfl) ?_
                 refine jcallS (As := [.int 5]) (rest := []) ⟨hx, hb, hml, hown, hts⟩ hK hP hA hS hZ (c_X12_above l D cI cL ad zz hJ σ τ 5 (5) jz_5) cw_RX12_416 ⟨Nat.le_of_ble_eq_true rfl, Nat.le_of_ble_eq_true rfl⟩ rfl rfl rfl hl.1 rfl (Nat.le_of_ble_eq_true rfl) dX12_taken_68 ⟨Nat.zero_le _, Nat.zero_le _⟩ (fun r217 σ216 τ216 H locs h216 hP hS => ?_)
                 obtain ⟨⟨rfl, rfl⟩, h216⟩ := h216
                 rcases h216 with h218 | h219 | h220 | h221
                 · obtain ⟨q223, k222⟩ := h218
                   have q223 := q223.symm
                   subst q223
                   refine lv_istore_n (lv' := [(3, .int 3), (0, .ref (ad 55)), (1, .int a1), (2, .int a2)]) hx hb dX12_taken_71 rfl hl (of_decide_eq_true rfl) rfl (fun ls hl => ?_)
                   refine lv_goto (tgt := 58) hx hb dX12_taken_72 (of_decide_eq_true rfl) ?_
                   refine lv_iload_n hx hb dX12_taken_58 rfl (lv_at hl 0 rfl) ?_
                   refine lv_iload_n hx hb dX12_taken_59 rfl (lv_at hl 3 rfl) ?_
                   refine lv_icmp_eq (tgt := 75) hx hb dX12_taken_60 (of_decide_eq_true rfl) (fun c224 => ?_) (fun c224 => ?_)
                   · have kc224 := jeq c224 jz_3 t2
                     refine lv_iload_n hx hb dX12_taken_75 rfl (lv_at hl 0 rfl) ?_
                     refine lv_iload_n hx hb dX12_taken_76 rfl (lv_at hl 3 rfl) ?_
                     exact by
                      refine lv_icmp_ne (tgt := 93) hx hb dX12_taken_77 (of_decide_eq_true rfl) (fun c => absurd (jne c jz_3 t2) (by omega)) (fun c225 => ?_)
                      have kc225 := jeq c225 jz_3 t2
                      refine lv_aload_n hx hb dX12_taken_80 rfl (lv_at hl 1 rfl) ?_
                      refine lv_aload_n hx hb dX12_taken_81 rfl (lv_at hl 1 rfl) ?_
                      refine va_get (D := D) hx hb hts inlX12 hown hK hP 55 (jc_55 cI cL ad σ τ) rfl 58 (of_decide_eq_true rfl) (hts _ kw_8_11) (fun _ h9 => h9) rfl dX12_taken_82 ?_
                      refine lv_iload_n hx hb dX12_taken_85 rfl (lv_at hl 2 rfl) ?_
                      refine jald hx hb hK hP (jc_86 cI cL ad σ τ) (jin t1 (by omega) (by omega)) dX12_taken_86 ?_
                      refine jtopr (y := (σ 86 a1.toNatClampNeg)) rfl ?_
                      refine jcallV (As := [.int (σ 86 a1.toNatClampNeg)]) (rest := []) ⟨hx, hb, hml, hown, hts⟩ hK hP hA hS hZ (c_X12_kindOf l D cI cL ad zz hJ σ τ (σ 86 a1.toNatClampNeg) ((σ 86 a1.toNatClampNeg).toInt) rfl hI106 (by omega)) cw_RX12_413 (jc_55 cI cL ad σ τ) rfl ⟨Nat.le_of_ble_eq_true rfl, Nat.le_of_ble_eq_true rfl⟩ rfl rfl rfl hl.1 rfl (Nat.le_of_ble_eq_true rfl) dX12_taken_87 ⟨Nat.zero_le _, Nat.zero_le _⟩ (fun r227 σ226 τ226 H locs h226 hP hS => ?_)
                      exact by
                       obtain ⟨⟨rfl, rfl⟩, h226⟩ := h226
                       have h228 := h226
                       obtain ⟨q230, k229⟩ := h228
                       have q231 : r227 = (σ 70 (σ 86 a1.toNatClampNeg).toNatClampNeg) := q230.trans rfl
                       have q231 := q231.symm
                       subst q231
                       refine lv_goto (tgt := 95) hx hb dX12_taken_90 (of_decide_eq_true rfl) ?_
                       exact hret (σ 70 (σ 86 a1.toNatClampNeg).toNatClampNeg) σ τ _ _ _ _ rfl ⟨⟨rfl, rfl⟩, (by unfold jTg; first | ((repeat (first | rw [if_pos (by omega)] | rw [if_neg (by omega)])) <;> omega) | ((repeat' split) <;> omega)), trivial⟩ hP hS dX12_taken_95
                   · have kc224 := jne c224 jz_3 t2
                     refine lv_iload_n hx hb dX12_taken_63 rfl (lv_at hl 0 rfl) ?_
                     refine lv_if_le (tgt := 75) hx hb dX12_taken_64 (of_decide_eq_true rfl) (fun c => absurd c (of_decide_eq_true rfl)) (fun _ => ?_)
                     refine lv_iload_n hx hb dX12_taken_67 rfl (lv_at hl 0 rfl) ?_
                     refine jcallS (As := [.int 3]) (rest := []) ⟨hx, hb, hml, hown, hts⟩ hK hP hA hS hZ (c_X12_above l D cI cL ad zz hJ σ τ 3 (3) jz_3) cw_RX12_416 ⟨Nat.le_of_ble_eq_true rfl, Nat.le_of_ble_eq_true rfl⟩ rfl rfl rfl hl.1 rfl (Nat.le_of_ble_eq_true rfl) dX12_taken_68 ⟨Nat.zero_le _, Nat.zero_le _⟩ (fun r233 σ232 τ232 H locs h232 hP hS => ?_)
                     obtain ⟨⟨rfl, rfl⟩, h232⟩ := h232
                     rcases h232 with h234 | h235 | h236 | h237
                     · obtain ⟨q239, k238⟩ := h234
                       exact absurd (by omega : False) id
                     · obtain ⟨q241, k240⟩ := h235
                       have q241 := q241.symm
                       subst q241
                       refine lv_istore_n (lv' := [(3, .int 2), (0, .ref (ad 55)), (1, .int a1), (2, .int a2)]) hx hb dX12_taken_71 rfl hl (of_decide_eq_true rfl) rfl (fun ls hl => ?_)
                       refine lv_goto (tgt := 58) hx hb dX12_taken_72 (of_decide_eq_true rfl) ?_
                       refine lv_iload_n hx hb dX12_taken_58 rfl (lv_at hl 0 rfl) ?_
                       refine lv_iload_n hx hb dX12_taken_59 rfl (lv_at hl 3 rfl) ?_
                       refine lv_icmp_eq (tgt := 75) hx hb dX12_taken_60 (of_decide_eq_true rfl) (fun c242 => ?_) (fun c242 => ?_)
                       · have kc242 := jeq c242 jz_2 t2
                         refine lv_iload_n hx hb dX12_taken_75 rfl (lv_at hl 0 rfl) ?_
                         refine lv_iload_n hx hb dX12_taken_76 rfl (lv_at hl 3 rfl) ?_
                         exact by
                          refine lv_icmp_ne (tgt := 93) hx hb dX12_taken_77 (of_decide_eq_true rfl) (fun c => absurd (jne c jz_2 t2) (by omega)) (fun c243 => ?_)
                          have kc243 := jeq c243 jz_2 t2
                          refine lv_aload_n hx hb dX12_taken_80 rfl (lv_at hl 1 rfl) ?_
                          refine lv_aload_n hx hb dX12_taken_81 rfl (lv_at hl 1 rfl) ?_
                          refine va_get (D := D) hx hb hts inlX12 hown hK hP 55 (jc_55 cI cL ad σ τ) rfl 58 (of_decide_eq_true rfl) (hts _ kw_8_11) (fun _ h9 => h9) rfl dX12_taken_82 ?_
                          refine lv_iload_n hx hb dX12_taken_85 rfl (lv_at hl 2 rfl) ?_
                          refine jald hx hb hK hP (jc_86 cI cL ad σ τ) (jin t1 (by omega) (by omega)) dX12_taken_86 ?_
                          refine jtopr (y := (σ 86 a1.toNatClampNeg)) rfl ?_
                          refine jcallV (As := [.int (σ 86 a1.toNatClampNeg)]) (rest := []) ⟨hx, hb, hml, hown, hts⟩ hK hP hA hS hZ (c_X12_kindOf l D cI cL ad zz hJ σ τ (σ 86 a1.toNatClampNeg) ((σ 86 a1.toNatClampNeg).toInt) rfl hI106 (by omega)) cw_RX12_413 (jc_55 cI cL ad σ τ) rfl ⟨Nat.le_of_ble_eq_true rfl, Nat.le_of_ble_eq_true rfl⟩ rfl rfl rfl hl.1 rfl (Nat.le_of_ble_eq_true rfl) dX12_taken_87 ⟨Nat.zero_le _, Nat.zero_le _⟩ (fun r245 σ244 τ244 H locs h244 hP hS => ?_)
                          exact by
                           obtain ⟨⟨rfl, rfl⟩, h244⟩ := h244
                           have h246 := h244
                           obtain ⟨q248, k247⟩ := h246
                           have q249 : r245 = (σ 70 (σ 86 a1.toNatClampNeg).toNatClampNeg) := q248.trans rfl
                           have q249 := q249.symm
                           subst q249
                           refine lv_goto (tgt := 95) hx hb dX12_taken_90 (of_decide_eq_true rfl) ?_
                           exact hret (σ 70 (σ 86 a1.toNatClampNeg).toNatClampNeg) σ τ _ _ _ _ rfl ⟨⟨rfl, rfl⟩, (by unfold jTg; first | ((repeat (first | rw [if_pos (by omega)] | rw [if_neg (by omega)])) <;> omega) | ((repeat' split) <;> omega)), trivial⟩ hP hS dX12_taken_95
                       · have kc242 := jne c242 jz_2 t2
                         refine lv_iload_n hx hb dX12_taken_63 rfl (lv_at hl 0 rfl) ?_
                         refine lv_if_le (tgt := 75) hx hb dX12_taken_64 (of_decide_eq_true rfl) (fun c => absurd c (of_decide_eq_true rfl)) (fun _ => ?_)
                         refine lv_iload_n hx hb dX12_taken_67 rfl (lv_at hl 0 rfl) ?_
                         refine jcallS (As := [.int 2]) (rest := []) ⟨hx, hb, hml, hown, hts⟩ hK hP hA hS hZ (c_X12_above l D cI cL ad zz hJ σ τ 2 (2) jz_2) cw_RX12_416 ⟨Nat.le_of_ble_eq_true rfl, Nat.le_of_ble_eq_true rfl⟩ rfl rfl rfl hl.1 rfl (Nat.le_of_ble_eq_true rfl) dX12_taken_68 ⟨Nat.zero_le _, Nat.zero_le _⟩ (fun r251 σ250 τ250 H locs h250 hP hS => ?_)
                         obtain ⟨⟨rfl, rfl⟩, h250⟩ := h250
                         rcases h250 with h252 | h253 | h254 | h255
                         · obtain ⟨q257, k256⟩ := h252
                           exact absurd (by omega : False) id
                         · obtain ⟨q259, k258⟩ := h253
                           exact absurd (by omega : False) id
                         · obtain ⟨q261, k260⟩ := h254
                           exact absurd (by omega : False) id
                         · obtain ⟨q263, k262⟩ := h255
                           have q263 := q263.symm
                           subst q263
                           refine lv_istore_n (lv' := [(3, .int 0), (0, .ref (ad 55)), (1, .int a1), (2, .int a2)]) hx hb dX12_taken_71 rfl hl (of_decide_eq_true rfl) rfl (fun ls hl => ?_)
                           refine lv_goto (tgt := 58) hx hb dX12_taken_72 (of_decide_eq_true rfl) ?_
                           refine lv_iload_n hx hb dX12_taken_58 rfl (lv_at hl 0 rfl) ?_
                           refine lv_iload_n hx hb dX12_taken_59 rfl (lv_at hl 3 rfl) ?_
                           refine lv_icmp_eq (tgt := 75) hx hb dX12_taken_60 (of_decide_eq_true rfl) (fun c264 => ?_) (fun c264 => ?_)
                           · have kc264 := jeq c264 jz_0 t2
                             refine lv_iload_n hx hb dX12_taken_75 rfl (lv_at hl 0 rfl) ?_
                             refine lv_iload_n hx hb dX12_taken_76 rfl (lv_at hl 3 rfl) ?_
                             exact by
                              refine lv_icmp_ne (tgt := 93) hx hb dX12_taken_77 (of_decide_eq_true rfl) (fun c => absurd (jne c jz_0 t2) (by omega)) (fun c265 => ?_)
                              have kc265 := jeq c265 jz_0 t2
                              refine lv_aload_n hx hb dX12_taken_80 rfl (lv_at hl 1 rfl) ?_
                              refine lv_aload_n hx hb dX12_taken_81 rfl (lv_at hl 1 rfl) ?_
                              refine va_get (D := D) hx hb hts inlX12 hown hK hP 55 (jc_55 cI cL ad σ τ) rfl 58 (of_decide_eq_true rfl) (hts _ kw_8_11) (fun _ h9 => h9) rfl dX12_taken_82 ?_
                              refine lv_iload_n hx hb dX12_taken_85 rfl (lv_at hl 2 rfl) ?_
                              refine jald hx hb hK hP (jc_86 cI cL ad σ τ) (jin t1 (by omega) (by omega)) dX12_taken_86 ?_
                              refine jtopr (y := (σ 86 a1.toNatClampNeg)) rfl ?_
                              refine jcallV (As := [.int (σ 86 a1.toNatClampNeg)]) (rest := []) ⟨hx, hb, hml, hown, hts⟩ hK hP hA hS hZ (c_X12_kindOf l D cI cL ad zz hJ σ τ (σ 86 a1.toNatClampNeg) ((σ 86 a1.toNatClampNeg).toInt) rfl hI106 (by omega)) cw_RX12_413 (jc_55 cI cL ad σ τ) rfl ⟨Nat.le_of_ble_eq_true rfl, Nat.le_of_ble_eq_true rfl⟩ rfl rfl rfl hl.1 rfl (Nat.le_of_ble_eq_true rfl) dX12_taken_87 ⟨Nat.zero_le _, Nat.zero_le _⟩ (fun r267 σ266 τ266 H locs h266 hP hS => ?_)
                              exact by
                               obtain ⟨⟨rfl, rfl⟩, h266⟩ := h266
                               have h268 := h266
                               obtain ⟨q270, k269⟩ := h268
                               have q271 : r267 = (σ 70 (σ 86 a1.toNatClampNeg).toNatClampNeg) := q270.trans rfl
                               have q271 := q271.symm
                               subst q271
                               refine lv_goto (tgt := 95) hx hb dX12_taken_90 (of_decide_eq_true rfl) ?_
                               exact hret (σ 70 (σ 86 a1.toNatClampNeg).toNatClampNeg) σ τ _ _ _ _ rfl ⟨⟨rfl, rfl⟩, (by unfold jTg; first | ((repeat (first | rw [if_pos (by omega)] | rw [if_neg (by omega)])) <;> omega) | ((repeat' split) <;> omega)), trivial⟩ hP hS dX12_taken_95
                           · have kc264 := jne c264 jz_0 t2
                             refine lv_iload_n hx hb dX12_taken_63 rfl (lv_at hl 0 rfl) ?_
                             refine lv_if_le (tgt := 75) hx hb dX12_taken_64 (of_decide_eq_true rfl) (fun _ => ?_) (fun c => absurd (of_decide_eq_true rfl) c)
                             refine lv_iload_n hx hb dX12_taken_75 rfl (lv_at hl 0 rfl) ?_
                             refine lv_iload_n hx hb dX12_taken_76 rfl (lv_at hl 3 rfl) ?_
                             exact by
                              refine lv_icmp_ne (tgt := 93) hx hb dX12_taken_77 (of_decide_eq_true rfl) (fun c272 => ?_) (fun c => absurd (jeq c jz_0 t2) (by omega))
                              have kc272 := jne c272 jz_0 t2
                              refine lv_bipush (v := (-12)) hx hb dX12_taken_93 (of_decide_eq_true rfl) ?_
                              exact hret (-12) σ τ _ _ _ _ rfl ⟨⟨rfl, rfl⟩, (by have h9 := jz_m12; unfold jTg; first | ((repeat (first | rw [if_pos (by omega)] | rw [if_neg (by omega)])) <;> omega) | ((repeat' split) <;> omega)), trivial⟩ hP hS dX12_taken_95
                     · obtain ⟨q274, k273⟩ := h236
                       exact absurd (by omega : False) id
                     · obtain ⟨q276, k275⟩ := h237
                       exact absurd (by omega : False) id
                 · obtain ⟨q278, k277⟩ := h219
                   exact absurd (by omega : False) id
                 · obtain ⟨q280, k279⟩ := h220
                   exact absurd (by omega : False) id
                 · obtain ⟨q282, k281⟩ := h221
                   exact absurd (by omega : False) id
             have kc207 := jne c207 (rfl : (σ 70 (σ 86 a1.toNatClampNeg).toNatClampNeg).toInt = (σ 70 (σ 86 a1.toNatClampNeg).toNatClampNeg).toInt) jz_5
             by_cases c283 : (σ 70 (σ 86 a1.toNatClampNeg).toNatClampNeg) = 6
             · have kc283 := jeq c283 (rfl : (σ 70 (σ 86 a1.toNatClampNeg).toNatClampNeg).toInt = (σ 70 (σ 86 a1.toNatClampNeg).toNatClampNeg).toInt) jz_6
               rw [c283]
               refine lv_istore_n (lv' := [(3, .int 6), (0, .ref (ad 55)), (1, .int a1), (2, .int a2)]) hx hb dX12_taken_57 rfl hl (of_decide_eq_true rfl) rfl (fun ls hl => ?_)
               refine lv_iload_n hx hb dX12_taken_58 rfl (lv_at hl 0 rfl) ?_
               refine lv_iload_n hx hb dX12_taken_59 rfl (lv_at hl 3 rfl) ?_
               refine lv_icmp_eq (tgt := 75) hx hb dX12_taken_60 (of_decide_eq_true rfl) (fun c284 => ?_) (fun c284 => ?_)
               · have kc284 := jeq c284 jz_6 t2
                 refine lv_iload_n hx hb dX12_taken_75 rfl (lv_at hl 0 rfl) ?_
                 refine lv_iload_n hx hb dX12_taken_76 rfl (lv_at hl 3 rfl) ?_
                 exact by
                  refine lv_icmp_ne (tgt := 93) hx hb dX12_taken_77 (of_decide_eq_true rfl) (fun c => absurd (jne c jz_6 t2) (by omega)) (fun c285 => ?_)
                  have kc285 := jeq c285 jz_6 t2
                  refine lv_aload_n hx hb dX12_taken_80 rfl (lv_at hl 1 rfl) ?_
                  refine lv_aload_n hx hb dX12_taken_81 rfl (lv_at hl 1 rfl) ?_
                  refine va_get (D := D) hx hb hts inlX12 hown hK hP 55 (jc_55 cI cL ad σ τ) rfl 58 (of_decide_eq_true rfl) (hts _ kw_8_11) (fun _ h9 => h9) rfl dX12_taken_82 ?_
                  refine lv_iload_n hx hb dX12_taken_85 rfl (lv_at hl 2 rfl) ?_
                  refine jald hx hb hK hP (jc_86 cI cL ad σ τ) (jin t1 (by omega) (by omega)) dX12_taken_86 ?_
                  refine jtopr (y := (σ 86 a1.toNatClampNeg)) rfl ?_
                  refine jcallV (As := [.int (σ 86 a1.toNatClampNeg)]) (rest := []) ⟨hx, hb, hml, hown, hts⟩ hK hP hA hS hZ (c_X12_kindOf l D cI cL ad zz hJ σ τ (σ 86 a1.toNatClampNeg) ((σ 86 a1.toNatClampNeg).toInt) rfl hI106 (by omega)) cw_RX12_413 (jc_55 cI cL ad σ τ) rfl ⟨Nat.le_of_ble_eq_true rfl, Nat.le_of_ble_eq_true rfl⟩ rfl rfl rfl hl.1 rfl (Nat.le_of_ble_eq_true rfl) dX12_taken_87 ⟨Nat.zero_le _, Nat.zero_le _⟩ (fun r287 σ286 τ286 H locs h286 hP hS => ?_)
                  exact by
                   obtain ⟨⟨rfl, rfl⟩, h286⟩ := h286
                   have h288 := h286
                   obtain ⟨q290, k289⟩ := h288
                   have q291 : r287 = (σ 70 (σ 86 a1.toNatClampNeg).toNatClampNeg) := q290.trans rfl
                   have q291 := q291.symm
                   subst q291
                   refine lv_goto (tgt := 95) hx hb dX12_taken_90 (of_decide_eq_true rfl) ?_
                   exact hret (σ 70 (σ 86 a1.toNatClampNeg).toNatClampNeg) σ τ _ _ _ _ rfl ⟨⟨rfl, rfl⟩, (by unfold jTg; first | ((repeat (first | rw [if_pos (by omega)] | rw [if_neg (by omega)])) <;> omega) | ((repeat' split) <;> omega)), trivial⟩ hP hS dX12_taken_95
               · have kc284 := jne c284 jz_6 t2
                 refine lv_iload_n hx hb dX12_taken_63 rfl (lv_at hl 0 rfl) ?_
                 refine lv_if_le (tgt := 75) hx hb dX12_taken_64 (of_decide_eq_true rfl) (fun c => absurd c (of_decide_eq_true rfl)) (fun _ => ?_)
                 refine lv_iload_n hx hb dX12_taken_67 rfl (lv_at hl 0 rfl) ?_
                 refine jcallS (As := [.int 6]) (rest := []) ⟨hx, hb, hml, hown, hts⟩ hK hP hA hS hZ (c_X12_above l D cI cL ad zz hJ σ τ 6 (6) jz_6) cw_RX12_416 ⟨Nat.le_of_ble_eq_true rfl, Nat.le_of_ble_eq_true rfl⟩ rfl rfl rfl hl.1 rfl (Nat.le_of_ble_eq_true rfl) dX12_taken_68 ⟨Nat.zero_le _, Nat.zero_le _⟩ (fun r293 σ292 τ292 H locs h292 hP hS => ?_)
                 obtain ⟨⟨rfl, rfl⟩, h292⟩ := h292
                 rcases h292 with h294 | h295 | h296 | h297
                 · obtain ⟨q299, k298⟩ := h294
                   exact absurd (by omega : False) id
                 · obtain ⟨q301, k300⟩ := h295
                   exact absurd (by omega : False) id
                 · obtain ⟨q303, k302⟩ := h296
                   exact absurd (by omega : False) id
                 · obtain ⟨q305, k304⟩ := h297
                   have q305 := q305.symm
                   subst q305
                   refine lv_istore_n (lv' := [(3, .int 0), (0, .ref (ad 55)), (1, .int a1), (2, .int a2)]) hx hb dX12_taken_71 rfl hl (of_decide_eq_true rfl) rfl (fun ls hl => ?_)
                   refine lv_goto (tgt := 58) hx hb dX12_taken_72 (of_decide_eq_true rfl) ?_
                   refine lv_iload_n hx hb dX12_taken_58 rfl (lv_at hl 0 rfl) ?_
                   refine lv_iload_n hx hb dX12_taken_59 rfl (lv_at hl 3 rfl) ?_
                   refine lv_icmp_eq (tgt := 75) hx hb dX12_taken_60 (of_decide_eq_true rfl) (fun c306 => ?_) (fun c306 => ?_)
                   · have kc306 := jeq c306 jz_0 t2
                     refine lv_iload_n hx hb dX12_taken_75 rfl (lv_at hl 0 rfl) ?_
                     refine lv_iload_n hx hb dX12_taken_76 rfl (lv_at hl 3 rfl) ?_
                     exact by
                      refine lv_icmp_ne (tgt := 93) hx hb dX12_taken_77 (of_decide_eq_true rfl) (fun c => absurd (jne c jz_0 t2) (by omega)) (fun c307 => ?_)
                      have kc307 := jeq c307 jz_0 t2
                      refine lv_aload_n hx hb dX12_taken_80 rfl (lv_at hl 1 rfl) ?_
                      refine lv_aload_n hx hb dX12_taken_81 rfl (lv_at hl 1 rfl) ?_
                      refine va_get (D := D) hx hb hts inlX12 hown hK hP 55 (jc_55 cI cL ad σ τ) rfl 58 (of_decide_eq_true rfl) (hts _ kw_8_11) (fun _ h9 => h9) rfl dX12_taken_82 ?_
                      refine lv_iload_n hx hb dX12_taken_85 rfl (lv_at hl 2 rfl) ?_
                      refine jald hx hb hK hP (jc_86 cI cL ad σ τ) (jin t1 (by omega) (by omega)) dX12_taken_86 ?_
                      refine jtopr (y := (σ 86 a1.toNatClampNeg)) rfl ?_
                      refine jcallV (As := [.int (σ 86 a1.toNatClampNeg)]) (rest := []) ⟨hx, hb, hml, hown, hts⟩ hK hP hA hS hZ (c_X12_kindOf l D cI cL ad zz hJ σ τ (σ 86 a1.toNatClampNeg) ((σ 86 a1.toNatClampNeg).toInt) rfl hI106 (by omega)) cw_RX12_413 (jc_55 cI cL ad σ τ) rfl ⟨Nat.le_of_ble_eq_true rfl, Nat.le_of_ble_eq_true rfl⟩ rfl rfl rfl hl.1 rfl (Nat.le_of_ble_eq_true rfl) dX12_taken_87 ⟨Nat.zero_le _, Nat.zero_le _⟩ (fun r309 σ308 τ308 H locs h308 hP hS => ?_)
                      exact by
                       obtain ⟨⟨rfl, rfl⟩, h308⟩ := h308
                       have h310 := h308
                       obtain ⟨q312, k311⟩ := h310
                       have q313 : r309 = (σ 70 (σ 86 a1.toNatClampNeg).toNatClampNeg) := q312.trans rfl
                       have q313 := q313.symm
                       subst q313
                       refine lv_goto (tgt := 95) hx hb dX12_taken_90 (of_decide_eq_true rfl) ?_
                       exact hret (σ 70 (σ 86 a1.toNatClampNeg).toNatClampNeg) σ τ _ _ _ _ rfl ⟨⟨rfl, rfl⟩, (by unfold jTg; first | ((repeat (first | rw [if_pos (by omega)] | rw [if_neg (by omega)])) <;> omega) | ((repeat' split) <;> omega)), trivial⟩ hP hS dX12_taken_95
                   · have kc306 := jne c306 jz_0 t2
                     refine lv_iload_n hx hb dX12_taken_63 rfl (lv_at hl 0 rfl) ?_
                     refine lv_if_le (tgt := 75) hx hb dX12_taken_64 (of_decide_eq_true rfl) (fun _ => ?_) (fun c => absurd (of_decide_eq_true rfl) c)
                     refine lv_iload_n hx hb dX12_taken_75 rfl (lv_at hl 0 rfl) ?_
                     refine lv_iload_n hx hb dX12_taken_76 rfl (lv_at hl 3 rfl) ?_
                     exact by
                      refine lv_icmp_ne (tgt := 93) hx hb dX12_taken_77 (of_decide_eq_true rfl) (fun c314 => ?_) (fun c => absurd (jeq c jz_0 t2) (by omega))
                      have kc314 := jne c314 jz_0 t2
                      refine lv_bipush (v := (-12)) hx hb dX12_taken_93 (of_decide_eq_true rfl) ?_
                      exact hret (-12) σ τ _ _ _ _ rfl ⟨⟨rfl, rfl⟩, (by have h9 := jz_m12; unfold jTg; first | ((repeat (first | rw [if_pos (by omega)] | rw [if_neg (by omega)])) <;> omega) | ((repeat' split) <;> omega)), trivial⟩ hP hS dX12_taken_95
             have kc283 := jne c283 (rfl : (σ 70 (σ 86 a1.toNatClampNeg).toNatClampNeg).toInt = (σ 70 (σ 86 a1.toNatClampNeg).toNatClampNeg).toInt) jz_6
             exact absurd (by omega : False) id
          · have kc18 := jnlt c18 rfl jz_20
            refine lv_bipush (v := (-12)) hx hb dX12_taken_44 (of_decide_eq_true rfl) ?_
            exact hret (-12) σ τ _ _ _ _ rfl ⟨⟨rfl, rfl⟩, (by have h9 := jz_m12; unfold jTg; first | ((repeat (first | rw [if_pos (by omega)] | rw [if_neg (by omega)])) <;> omega) | ((repeat' split) <;> omega)), trivial⟩ hP hS dX12_taken_46
       · have kc16 := jnle c16 jz_0 rfl
         refine lv_bipush (v := (-11)) hx hb dX12_taken_30 (of_decide_eq_true rfl) ?_
         exact hret (-11) σ τ _ _ _ _ rfl ⟨⟨rfl, rfl⟩, (by have h9 := jz_m11; unfold jTg; first | ((repeat (first | rw [if_pos (by omega)] | rw [if_neg (by omega)])) <;> omega) | ((repeat' split) <;> omega)), trivial⟩ hP hS dX12_taken_32
    · obtain ⟨q316, k315⟩ := h12
      have q316 := q316.symm
      subst q316
      refine lv_if_ne (tgt := 21) hx hb dX12_taken_16 (of_decide_eq_true rfl) (fun c => absurd (of_decide_eq_true rfl) c) (fun _ => ?_)
      refine lv_iconst (v := (-1)) hx hb dX12_taken_19 (of_decide_eq_true rfl) ?_
      exact hret (-1) σ τ _ _ _ _ rfl ⟨⟨rfl, rfl⟩, (by have h9 := jz_m1; unfold jTg; first | ((repeat (first | rw [if_pos (by omega)] | rw [if_neg (by omega)])) <;> omega) | ((repeat' split) <;> omega)), trivial⟩ hP hS dX12_taken_20
  · obtain ⟨q318, k317⟩ := h6
    have q318 := q318.symm
    subst q318
    refine lv_if_eq (tgt := 19) hx hb dX12_taken_4 (of_decide_eq_true rfl) (fun _ => ?_) (fun c => absurd (of_decide_eq_true rfl) c)
    refine lv_iconst (v := (-1)) hx hb dX12_taken_19 (of_decide_eq_true rfl) ?_
    exact hret (-1) σ τ _ _ _ _ rfl ⟨⟨rfl, rfl⟩, (by have h9 := jz_m1; unfold jTg; first | ((repeat (first | rw [if_pos (by omega)] | rw [if_neg (by omega)])) <;> omega) | ((repeat' split) <;> omega)), trivial⟩ hP hS dX12_taken_20
set_option maxHeartbeats 4000000 in
set_option maxRecDepth 100000 in
theorem c_X12_count (l : Launch) (D : va_G) (cI cL : ClassId) (ad zz : Nat → Nat) (hJ : jD ad) (σ : Nat → Nat → Int32) (τ : Nat → Nat → Int64) (a1 : Int32) (A1 : Int) (t1 : a1.toInt = A1) (hI101 : jI101 σ) (hI102 : jI102 σ) (hI105 : jI105 σ) (hI106 : jI106 σ) (hI107 : jI107 σ) : jM l yX12_count cX12_count 2 (some .int) ({ frames := 0, cells := 0, slots := 0, locals := 0 }) D cI cL ad zz [.ref (ad 55), .int a1] σ τ (fun r σ' τ' => (σ = σ' ∧ τ = τ') ∧ ((True ∧ (A1 = 0) ∧ (r.toInt = (σ 55 6).toInt)) ∨ (True ∧ (A1 = 1) ∧ (r.toInt = (σ 55 32).toInt)) ∨ (True ∧ (A1 = 2) ∧ (r.toInt = (σ 55 15).toInt)) ∨ (True ∧ (A1 = 3) ∧ (r.toInt = (σ 55 47).toInt)) ∨ (True ∧ (A1 = 4) ∧ (r.toInt = (σ 55 5).toInt)) ∨ (True ∧ (A1 = 5) ∧ (r.toInt = (σ 55 55).toInt)) ∨ (r = (-1) ∧ ((A1 < 0) ∨ (5 < A1))))) := by
  refine jM.of hJ (by decide +kernel) (nt := .int) rfl (Nat.le_of_ble_eq_true rfl) ?_
  intro p e s m args below meth c Q ls hC hret hl hP
  obtain ⟨hx, hb, hr, hml, hown, hts, hK, -, hlocks, hZ⟩ := hC
  have hown : s.vm.findClass RX12 = some m.cls := hown
  have hS : va_S (jA ad) s.heap s.heap [] := va_S.rf
  have hA : ∀ q, jA ad q → jA ad q := fun _ h => h
  have hl : lv_has ls 2 [(0, .ref (ad 55)), (1, .int a1)] := hl
  have g1 := jrg t1
  obtain ⟨i1, i2, i3, w4, w5, w6, w7⟩ : (0 ≤ (σ 55 5).toInt) ∧ ((σ 55 5).toInt ≤ (σ 55 4).toInt) ∧ ((σ 55 4).toInt ≤ 40) ∧ (∀ k : Nat, k < 68 → (-200) ≤ (σ 56 k).toInt ∧ (σ 56 k).toInt ≤ 500) ∧ (∀ k : Nat, k < 40 → 0 ≤ (σ 57 k).toInt ∧ (σ 57 k).toInt ≤ 67) ∧ (∀ k : Nat, k < 40 → (-200) ≤ (σ 58 k).toInt ∧ (σ 58 k).toInt ≤ 500) ∧ (∀ k : Nat, k < 40 → (-200) ≤ (σ 59 k).toInt ∧ (σ 59 k).toInt ≤ 500) := id hI101
  obtain ⟨i8, w9, w10⟩ : (0 ≤ (σ 55 6).toInt ∧ (σ 55 6).toInt ≤ 4) ∧ (∀ k : Nat, k < 4 → 0 ≤ (σ 60 k).toInt ∧ (σ 60 k).toInt ≤ 50) ∧ (∀ k : Nat, k < 4 → 0 ≤ (σ 61 k).toInt ∧ (σ 61 k).toInt ≤ 20) := id hI102
  obtain ⟨i11, w12⟩ : (0 ≤ (σ 55 15).toInt ∧ (σ 55 15).toInt ≤ 80) ∧ (∀ k : Nat, k < 2 → (-1) ≤ (σ 65 k).toInt ∧ (σ 65 k).toInt ≤ 80) := id hI105
  obtain ⟨i13, w14, w15, w16⟩ : (0 ≤ (σ 55 32).toInt ∧ (σ 55 32).toInt ≤ 20) ∧ (∀ k : Nat, k < 20 → 0 ≤ (σ 70 k).toInt ∧ (σ 70 k).toInt ≤ 6) ∧ (∀ k : Nat, k < 20 → 0 ≤ (σ 71 k).toInt ∧ (σ 71 k).toInt ≤ 8) ∧ (∀ k : Nat, k < 160 → 0 ≤ (σ 72 k).toInt ∧ (σ 72 k).toInt ≤ 3) := id hI106
  obtain ⟨i17, i18, w19⟩ : (0 ≤ (σ 55 47).toInt ∧ (σ 55 47).toInt ≤ 12) ∧ ((σ 55 47).toInt ≤ (σ 55 12).toInt) ∧ (∀ k : Nat, k < 12 → 0 ≤ (σ 80 k).toInt ∧ (σ 80 k).toInt ≤ 3) := id hI107
  refine lv_iload_n hx hb dX12_count_0 rfl (lv_at hl 1 rfl) ?_
  by_cases c20 : a1 = 0
  · have kc20 := jeq c20 t1 jz_0
    refine jtopr c20 ?_
    refine lv_tableIn (off := 39) (tgt := 40) hx hb dX12_count_1 (of_decide_eq_true rfl) (of_decide_eq_true rfl) (of_decide_eq_true rfl) (of_decide_eq_true rfl) ?_
    refine lv_aload_n hx hb dX12_count_40 rfl (lv_at hl 0 rfl) ?_
    refine va_get (D := D) hx hb hts inlX12 hown hK hP 55 (jc_55 cI cL ad σ τ) rfl 6 (of_decide_eq_true rfl) (hts _ kw_9_13) (fun _ h9 => h9) rfl dX12_count_41 ?_
    exact by exact hret (σ 55 6) σ τ _ _ _ _ rfl ⟨⟨rfl, rfl⟩, Or.inl ⟨trivial, (by omega), (by omega)⟩⟩ hP hS dX12_count_44
  have kc20 := jne c20 t1 jz_0
  by_cases c21 : a1 = 1
  · have kc21 := jeq c21 t1 jz_1
    refine jtopr c21 ?_
    refine lv_tableIn (off := 44) (tgt := 45) hx hb dX12_count_1 (of_decide_eq_true rfl) (of_decide_eq_true rfl) (of_decide_eq_true rfl) (of_decide_eq_true rfl) ?_
    refine lv_aload_n hx hb dX12_count_45 rfl (lv_at hl 0 rfl) ?_
    refine va_get (D := D) hx hb hts inlX12 hown hK hP 55 (jc_55 cI cL ad σ τ) rfl 32 (of_decide_eq_true rfl) (hts _ kw_25_1) (fun _ h9 => h9) rfl dX12_count_46 ?_
    exact by exact hret (σ 55 32) σ τ _ _ _ _ rfl ⟨⟨rfl, rfl⟩, Or.inr (Or.inl ⟨trivial, (by omega), (by omega)⟩)⟩ hP hS dX12_count_49
  have kc21 := jne c21 t1 jz_1
  by_cases c22 : a1 = 2
  · have kc22 := jeq c22 t1 jz_2
    refine jtopr c22 ?_
    refine lv_tableIn (off := 49) (tgt := 50) hx hb dX12_count_1 (of_decide_eq_true rfl) (of_decide_eq_true rfl) (of_decide_eq_true rfl) (of_decide_eq_true rfl) ?_
    refine lv_aload_n hx hb dX12_count_50 rfl (lv_at hl 0 rfl) ?_
    refine va_get (D := D) hx hb hts inlX12 hown hK hP 55 (jc_55 cI cL ad σ τ) rfl 15 (of_decide_eq_true rfl) (hts _ kw_13_6) (fun _ h9 => h9) rfl dX12_count_51 ?_
    exact by exact hret (σ 55 15) σ τ _ _ _ _ rfl ⟨⟨rfl, rfl⟩, Or.inr (Or.inr (Or.inl ⟨trivial, (by omega), (by omega)⟩))⟩ hP hS dX12_count_54
  have kc22 := jne c22 t1 jz_2
  by_cases c23 : a1 = 3
  · have kc23 := jeq c23 t1 jz_3
    refine jtopr c23 ?_
    refine lv_tableIn (off := 54) (tgt := 55) hx hb dX12_count_1 (of_decide_eq_true rfl) (of_decide_eq_true rfl) (of_decide_eq_true rfl) (of_decide_eq_true rfl) ?_
    refine lv_aload_n hx hb dX12_count_55 rfl (lv_at hl 0 rfl) ?_
    refine va_get (D := D) hx hb hts inlX12 hown hK hP 55 (jc_55 cI cL ad σ τ) rfl 47 (of_decide_eq_true rfl) (hts _ kw_15_15) (fun _ h9 => h9) rfl dX12_count_56 ?_
    exact by exact hret (σ 55 47) σ τ _ _ _ _ rfl ⟨⟨rfl, rfl⟩, Or.inr (Or.inr (Or.inr (Or.inl ⟨trivial, (by omega), (by omega)⟩)))⟩ hP hS dX12_count_59
  have kc23 := jne c23 t1 jz_3
  by_cases c24 : a1 = 4
  · have kc24 := jeq c24 t1 jz_4
    refine jtopr c24 ?_
    refine lv_tableIn (off := 59) (tgt := 60) hx hb dX12_count_1 (of_decide_eq_true rfl) (of_decide_eq_true rfl) (of_decide_eq_true rfl) (of_decide_eq_true rfl) ?_
    refine lv_aload_n hx hb dX12_count_60 rfl (lv_at hl 0 rfl) ?_
    refine va_get (D := D) hx hb hts inlX12 hown hK hP 55 (jc_55 cI cL ad σ τ) rfl 5 (of_decide_eq_true rfl) (hts _ kw_11_16) (fun _ h9 => h9) rfl dX12_count_61 ?_
    exact by exact hret (σ 55 5) σ τ _ _ _ _ rfl ⟨⟨rfl, rfl⟩, Or.inr (Or.inr (Or.inr (Or.inr (Or.inl ⟨trivial, (by omega), (by omega)⟩))))⟩ hP hS dX12_count_64
  have kc24 := jne c24 t1 jz_4
  by_cases c25 : a1 = 5
  · have kc25 := jeq c25 t1 jz_5
    refine jtopr c25 ?_
    refine lv_tableIn (off := 64) (tgt := 65) hx hb dX12_count_1 (of_decide_eq_true rfl) (of_decide_eq_true rfl) (of_decide_eq_true rfl) (of_decide_eq_true rfl) ?_
    refine lv_aload_n hx hb dX12_count_65 rfl (lv_at hl 0 rfl) ?_
    refine va_get (D := D) hx hb hts inlX12 hown hK hP 55 (jc_55 cI cL ad σ τ) rfl 55 (of_decide_eq_true rfl) (hts _ kw_49_7) (fun _ h9 => h9) rfl dX12_count_66 ?_
    exact by exact hret (σ 55 55) σ τ _ _ _ _ rfl ⟨⟨rfl, rfl⟩, Or.inr (Or.inr (Or.inr (Or.inr (Or.inr (Or.inl ⟨trivial, (by omega), (by omega)⟩)))))⟩ hP hS dX12_count_69
  have kc25 := jne c25 t1 jz_5
  exact by
   refine lv_tableOut (tgt := 70) hx hb dX12_count_1 (by rw [t1]; omega) (of_decide_eq_true rfl) ?_
   refine lv_iconst (v := (-1)) hx hb dX12_count_70 (of_decide_eq_true rfl) ?_
   exact hret (-1) σ τ _ _ _ _ rfl ⟨⟨rfl, rfl⟩, Or.inr (Or.inr (Or.inr (Or.inr (Or.inr (Or.inr (⟨rfl, (by have h9 := jz_m1; omega)⟩))))))⟩ hP hS dX12_count_71
