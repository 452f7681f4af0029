set_option maxHeartbeats 4000000 in
set_option maxRecDepth 100000 in
theorem c_X1_valueAt_31 (l : Launch) (D : va_G) (cI cL : ClassId) (ad zz : Nat → Nat) (hJ : jD ad) (σ : Nat → Nat → Int32) (τ : Nat → Nat → Int64) (a1 : Int32) (A1 : Int) (t1 : a1.toInt = A1) (a2 : Int32) (A2 : Int) (t2 : a2.toInt = A2) (hI16 : jI16 σ) (hI31 : jI31 σ) : jM l yX1_valueAt cX1_valueAt 3 (some .int) ({ frames := 0, cells := 0, slots := 0, locals := 0 }) D cI cL ad zz [.ref (ad 31), .int a1, .int a2] σ τ (fun r σ' τ' => (σ = σ' ∧ τ = τ') ∧ True) := by
  refine jM.of hJ (by decide +kernel) (nt := .int) rfl (Nat.le_of_ble_eq_true rfl) ?_
  intro p e s m args below meth c Q ls hC hret hl hP
  obtain ⟨hx, hb, hr, hml, hown, hts, hK, -, hlocks, hZ⟩ := hC
  have hown : s.vm.findClass RX1 = some m.cls := hown
  have hS : va_S (jA ad) s.heap s.heap [] := va_S.rf
  have hA : ∀ q, jA ad q → jA ad q := fun _ h => h
  have hl : lv_has ls 3 [(0, .ref (ad 31)), (1, .int a1), (2, .int a2)] := hl
  have g1 := jrg t1
  have g2 := jrg t2
  obtain ⟨i1, i2, i3, w4⟩ : (1 ≤ (σ 16 0).toInt ∧ (σ 16 0).toInt ≤ 8) ∧ (1 ≤ (σ 16 1).toInt ∧ (σ 16 1).toInt ≤ 12) ∧ (0 ≤ (σ 16 2).toInt ∧ (σ 16 2).toInt ≤ 999) ∧ (∀ k : Nat, k < 8 → 0 ≤ (σ 17 k).toInt ∧ (σ 17 k).toInt ≤ 3) := id hI16
  obtain ⟨i5, i6, i7, i8, w9, w10, w11⟩ : (0 ≤ (σ 31 8).toInt ∧ (σ 31 8).toInt ≤ 350) ∧ (0 ≤ (σ 31 10).toInt ∧ (σ 31 10).toInt ≤ 12) ∧ (0 ≤ (σ 31 11).toInt ∧ (σ 31 11).toInt ≤ 8) ∧ ((σ 31 10).toInt + (σ 31 11).toInt ≤ 12) ∧ (∀ k : Nat, k < 1400 → (-1) ≤ (σ 33 k).toInt ∧ (σ 33 k).toInt ≤ 350) ∧ (∀ k : Nat, k < 3159 → (-1) ≤ (σ 35 k).toInt ∧ (σ 35 k).toInt ≤ 3) ∧ (∀ k : Nat, k < 1024 → 0 ≤ (σ 36 k).toInt ∧ (σ 36 k).toInt ≤ 349) := id hI31
  refine lv_iload_n hx hb dX1_valueAt_0 rfl (lv_at hl 1 rfl) ?_
  refine lv_if_lt (tgt := 27) hx hb dX1_valueAt_1 (by decide) (fun c12 => ?_) (fun c12 => ?_)
  · have kc12 := jlt c12 t1 jz_0
    refine lv_iconst (v := 0) hx hb dX1_valueAt_27 (by decide) ?_
    refine lv_goto (tgt := 42) hx hb dX1_valueAt_28 (by decide) ?_
    exact hret 0 σ τ _ _ _ _ rfl ⟨⟨rfl, rfl⟩, trivial⟩ hP hS dX1_valueAt_42
  · have kc12 := jnlt c12 t1 jz_0
    refine lv_iload_n hx hb dX1_valueAt_4 rfl (lv_at hl 1 rfl) ?_
    refine lv_aload_n hx hb dX1_valueAt_5 rfl (lv_at hl 0 rfl) ?_
    refine va_get (D := D) hx hb hts inlX1 hown hK hP 31 (jc_31 cI cL ad σ τ) rfl 8 (by decide) (hts _ kw_27_22) (fun _ h9 => h9) rfl dX1_valueAt_6 ?_
    refine lv_icmp_ge (tgt := 27) hx hb dX1_valueAt_9 (by decide) (fun c13 => ?_) (fun c13 => ?_)
    · have kc13 := jle c13 rfl t1
      refine lv_iconst (v := 0) hx hb dX1_valueAt_27 (by decide) ?_
      refine lv_goto (tgt := 42) hx hb dX1_valueAt_28 (by decide) ?_
      exact hret 0 σ τ _ _ _ _ rfl ⟨⟨rfl, rfl⟩, trivial⟩ hP hS dX1_valueAt_42
    · have kc13 := jnle c13 rfl t1
      refine lv_iload_n hx hb dX1_valueAt_12 rfl (lv_at hl 2 rfl) ?_
      refine lv_if_lt (tgt := 27) hx hb dX1_valueAt_13 (by decide) (fun c14 => ?_) (fun c14 => ?_)
      · have kc14 := jlt c14 t2 jz_0
        refine lv_iconst (v := 0) hx hb dX1_valueAt_27 (by decide) ?_
        refine lv_goto (tgt := 42) hx hb dX1_valueAt_28 (by decide) ?_
        exact hret 0 σ τ _ _ _ _ rfl ⟨⟨rfl, rfl⟩, trivial⟩ hP hS dX1_valueAt_42
      · have kc14 := jnlt c14 t2 jz_0
        refine lv_iload_n hx hb dX1_valueAt_16 rfl (lv_at hl 2 rfl) ?_
        refine lv_aload_n hx hb dX1_valueAt_17 rfl (lv_at hl 0 rfl) ?_
        refine va_get (D := D) hx hb hts inlX1 hown hK hP 31 (jc_31 cI cL ad σ τ) rfl 1 (by decide) (hts _ kw_5_11) (fun _ h9 => h9) rfl dX1_valueAt_18 ?_
        refine va_get (D := D) hx hb hts inlX6 hown hK hP 16 (jc_16 cI cL ad σ τ) rfl 0 (by decide) (hts _ kw_27_17) (fun _ h9 => h9) rfl dX1_valueAt_21 ?_
        refine lv_icmp_lt (tgt := 31) hx hb dX1_valueAt_24 (by decide) (fun c15 => ?_) (fun c15 => ?_)
        · have kc15 := jlt c15 t2 rfl
          refine lv_aload_n hx hb dX1_valueAt_31 rfl (lv_at hl 0 rfl) ?_
          refine va_get (D := D) hx hb hts inlX1 hown hK hP 31 (jc_31 cI cL ad σ τ) rfl 4 (by decide) (hts _ kw_5_5) (fun _ h9 => h9) rfl dX1_valueAt_32 ?_
          refine lv_iload_n hx hb dX1_valueAt_35 rfl (lv_at hl 1 rfl) ?_
          refine lv_bipush (v := 9) hx hb dX1_valueAt_36 (by decide) ?_
          refine lv_imul hx hb dX1_valueAt_38 ?_
          refine lv_topi (fun x16 ex16 => ?_)
          have tx16 : x16.toInt = 9 * A1 := (jmul ex16 t1 jz_9 (by omega) (by omega)).trans (by omega)
          refine lv_iload_n hx hb dX1_valueAt_39 rfl (lv_at hl 2 rfl) ?_
          refine lv_iadd hx hb dX1_valueAt_40 ?_
          refine lv_topi (fun x17 ex17 => ?_)
          have tx17 : x17.toInt = 9 * A1 + A2 := (jadd ex17 tx16 t2 (by omega) (by omega)).trans (by omega)
          refine jald hx hb hK hP (jc_34 cI cL ad σ τ) (jin tx17 (by omega) (by omega)) dX1_valueAt_41 ?_
          refine lv_topi (fun x18 ex18 => ?_)
          exact hret x18 σ τ _ _ _ _ rfl ⟨⟨rfl, rfl⟩, trivial⟩ hP hS dX1_valueAt_42
        · have kc15 := jnlt c15 t2 rfl
          refine lv_iconst (v := 0) hx hb dX1_valueAt_27 (by decide) ?_
          refine lv_goto (tgt := 42) hx hb dX1_valueAt_28 (by decide) ?_
          exact hret 0 σ τ _ _ _ _ rfl ⟨⟨rfl, rfl⟩, trivial⟩ hP hS dX1_valueAt_42
set_option maxHeartbeats 4000000 in
set_option maxRecDepth 100000 in
theorem c_X1_whomAt_31 (l : Launch) (D : va_G) (cI cL : ClassId) (ad zz : Nat → Nat) (hJ : jD ad) (σ : Nat → Nat → Int32) (τ : Nat → Nat → Int64) (a1 : Int32) (A1 : Int) (t1 : a1.toInt = A1) (a2 : Int32) (A2 : Int) (t2 : a2.toInt = A2) (hI16 : jI16 σ) (hI31 : jI31 σ) : jM l yX1_whomAt cX1_whomAt 3 (some .int) ({ frames := 0, cells := 0, slots := 0, locals := 0 }) D cI cL ad zz [.ref (ad 31), .int a1, .int a2] σ τ (fun r σ' τ' => (σ = σ' ∧ τ = τ') ∧ ((True ∧ ((-1) ≤ r.toInt ∧ r.toInt ≤ 3)))) := by
  refine jM.of hJ (by decide +kernel) (nt := .int) rfl (Nat.le_of_ble_eq_true rfl) ?_
  intro p e s m args below meth c Q ls hC hret hl hP
  obtain ⟨hx, hb, hr, hml, hown, hts, hK, -, hlocks, hZ⟩ := hC
  have hown : s.vm.findClass RX1 = some m.cls := hown
  have hS : va_S (jA ad) s.heap s.heap [] := va_S.rf
  have hA : ∀ q, jA ad q → jA ad q := fun _ h => h
  have hl : lv_has ls 3 [(0, .ref (ad 31)), (1, .int a1), (2, .int a2)] := hl
  have g1 := jrg t1
  have g2 := jrg t2
  obtain ⟨i1, i2, i3, w4⟩ : (1 ≤ (σ 16 0).toInt ∧ (σ 16 0).toInt ≤ 8) ∧ (1 ≤ (σ 16 1).toInt ∧ (σ 16 1).toInt ≤ 12) ∧ (0 ≤ (σ 16 2).toInt ∧ (σ 16 2).toInt ≤ 999) ∧ (∀ k : Nat, k < 8 → 0 ≤ (σ 17 k).toInt ∧ (σ 17 k).toInt ≤ 3) := id hI16
  obtain ⟨i5, i6, i7, i8, w9, w10, w11⟩ : (0 ≤ (σ 31 8).toInt ∧ (σ 31 8).toInt ≤ 350) ∧ (0 ≤ (σ 31 10).toInt ∧ (σ 31 10).toInt ≤ 12) ∧ (0 ≤ (σ 31 11).toInt ∧ (σ 31 11).toInt ≤ 8) ∧ ((σ 31 10).toInt + (σ 31 11).toInt ≤ 12) ∧ (∀ k : Nat, k < 1400 → (-1) ≤ (σ 33 k).toInt ∧ (σ 33 k).toInt ≤ 350) ∧ (∀ k : Nat, k < 3159 → (-1) ≤ (σ 35 k).toInt ∧ (σ 35 k).toInt ≤ 3) ∧ (∀ k : Nat, k < 1024 → 0 ≤ (σ 36 k).toInt ∧ (σ 36 k).toInt ≤ 349) := id hI31
  refine lv_iload_n hx hb dX1_whomAt_0 rfl (lv_at hl 1 rfl) ?_
  refine lv_if_lt (tgt := 27) hx hb dX1_whomAt_1 (by decide) (fun c12 => ?_) (fun c12 => ?_)
  · have kc12 := jlt c12 t1 jz_0
    refine lv_iconst (v := (-1)) hx hb dX1_whomAt_27 (by decide) ?_
    refine lv_goto (tgt := 42) hx hb dX1_whomAt_28 (by decide) ?_
    exact hret (-1) σ τ _ _ _ _ rfl ⟨⟨rfl, rfl⟩, ⟨trivial, (by have h9 := jz_m1; omega)⟩⟩ hP hS dX1_whomAt_42
  · have kc12 := jnlt c12 t1 jz_0
    refine lv_iload_n hx hb dX1_whomAt_4 rfl (lv_at hl 1 rfl) ?_
    refine lv_aload_n hx hb dX1_whomAt_5 rfl (lv_at hl 0 rfl) ?_
    refine va_get (D := D) hx hb hts inlX1 hown hK hP 31 (jc_31 cI cL ad σ τ) rfl 8 (by decide) (hts _ kw_27_22) (fun _ h9 => h9) rfl dX1_whomAt_6 ?_
    refine lv_icmp_ge (tgt := 27) hx hb dX1_whomAt_9 (by decide) (fun c13 => ?_) (fun c13 => ?_)
    · have kc13 := jle c13 rfl t1
      refine lv_iconst (v := (-1)) hx hb dX1_whomAt_27 (by decide) ?_
      refine lv_goto (tgt := 42) hx hb dX1_whomAt_28 (by decide) ?_
      exact hret (-1) σ τ _ _ _ _ rfl ⟨⟨rfl, rfl⟩, ⟨trivial, (by have h9 := jz_m1; omega)⟩⟩ hP hS dX1_whomAt_42
    · have kc13 := jnle c13 rfl t1
      refine lv_iload_n hx hb dX1_whomAt_12 rfl (lv_at hl 2 rfl) ?_
      refine lv_if_lt (tgt := 27) hx hb dX1_whomAt_13 (by decide) (fun c14 => ?_) (fun c14 => ?_)
      · have kc14 := jlt c14 t2 jz_0
        refine lv_iconst (v := (-1)) hx hb dX1_whomAt_27 (by decide) ?_
        refine lv_goto (tgt := 42) hx hb dX1_whomAt_28 (by decide) ?_
        exact hret (-1) σ τ _ _ _ _ rfl ⟨⟨rfl, rfl⟩, ⟨trivial, (by have h9 := jz_m1; omega)⟩⟩ hP hS dX1_whomAt_42
      · have kc14 := jnlt c14 t2 jz_0
        refine lv_iload_n hx hb dX1_whomAt_16 rfl (lv_at hl 2 rfl) ?_
        refine lv_aload_n hx hb dX1_whomAt_17 rfl (lv_at hl 0 rfl) ?_
        refine va_get (D := D) hx hb hts inlX1 hown hK hP 31 (jc_31 cI cL ad σ τ) rfl 1 (by decide) (hts _ kw_5_11) (fun _ h9 => h9) rfl dX1_whomAt_18 ?_
        refine va_get (D := D) hx hb hts inlX6 hown hK hP 16 (jc_16 cI cL ad σ τ) rfl 0 (by decide) (hts _ kw_27_17) (fun _ h9 => h9) rfl dX1_whomAt_21 ?_
        refine lv_icmp_lt (tgt := 31) hx hb dX1_whomAt_24 (by decide) (fun c15 => ?_) (fun c15 => ?_)
        · have kc15 := jlt c15 t2 rfl
          refine lv_aload_n hx hb dX1_whomAt_31 rfl (lv_at hl 0 rfl) ?_
          refine va_get (D := D) hx hb hts inlX1 hown hK hP 31 (jc_31 cI cL ad σ τ) rfl 5 (by decide) (hts _ kw_5_6) (fun _ h9 => h9) rfl dX1_whomAt_32 ?_
          refine lv_iload_n hx hb dX1_whomAt_35 rfl (lv_at hl 1 rfl) ?_
          refine lv_bipush (v := 9) hx hb dX1_whomAt_36 (by decide) ?_
          refine lv_imul hx hb dX1_whomAt_38 ?_
          refine lv_topi (fun x16 ex16 => ?_)
          have tx16 : x16.toInt = 9 * A1 := (jmul ex16 t1 jz_9 (by omega) (by omega)).trans (by omega)
          refine lv_iload_n hx hb dX1_whomAt_39 rfl (lv_at hl 2 rfl) ?_
          refine lv_iadd hx hb dX1_whomAt_40 ?_
          refine lv_topi (fun x17 ex17 => ?_)
          have tx17 : x17.toInt = 9 * A1 + A2 := (jadd ex17 tx16 t2 (by omega) (by omega)).trans (by omega)
          refine jald hx hb hK hP (jc_35 cI cL ad σ τ) (jin tx17 (by omega) (by omega)) dX1_whomAt_41 ?_
          have g18 := w10 _ (jnat (x := x17) tx17 (n := 3159) (by omega) (by decide))
          refine lv_topi (fun x19 ex19 => ?_)
          rw [← ex19] at g18
          exact hret x19 σ τ _ _ _ _ rfl ⟨⟨rfl, rfl⟩, ⟨trivial, (by omega)⟩⟩ hP hS dX1_whomAt_42
        · have kc15 := jnlt c15 t2 rfl
          refine lv_iconst (v := (-1)) hx hb dX1_whomAt_27 (by decide) ?_
          refine lv_goto (tgt := 42) hx hb dX1_whomAt_28 (by decide) ?_
          exact hret (-1) σ τ _ _ _ _ rfl ⟨⟨rfl, rfl⟩, ⟨trivial, (by have h9 := jz_m1; omega)⟩⟩ hP hS dX1_whomAt_42
set_option maxHeartbeats 4000000 in
set_option maxRecDepth 100000 in
theorem c_X1_isTaken_31 (l : Launch) (D : va_G) (cI cL : ClassId) (ad zz : Nat → Nat) (hJ : jD ad) (σ : Nat → Nat → Int32) (τ : Nat → Nat → Int64) (a1 : Int32) (A1 : Int) (t1 : a1.toInt = A1) (hI31 : jI31 σ) (hp0 : 0 ≤ A1 ∧ A1 ≤ 1023) : jM l yX1_isTaken cX1_isTaken 3 (some .boolean) ({ frames := 0, cells := 0, slots := 0, locals := 0 }) D cI cL ad zz [.ref (ad 31), .int a1] σ τ (fun r σ' τ' => (σ = σ' ∧ τ = τ') ∧ ((r = 1 ∧ (jqTk (σ 31 8).toInt (σ 36) (σ 37) (A1))) ∨ (r = 0 ∧ (¬ jqTk (σ 31 8).toInt (σ 36) (σ 37) (A1))))) := by
  refine jM.of hJ (by decide +kernel) (nt := .boolean) rfl (Nat.le_of_ble_eq_true rfl) ?_
  intro p e s m args below meth c Q ls hC hret hl hP
  obtain ⟨hx, hb, hr, hml, hown, hts, hK, -, hlocks, hZ⟩ := hC
  have hown : s.vm.findClass RX1 = some m.cls := hown
  have hS : va_S (jA ad) s.heap s.heap [] := va_S.rf
  have hA : ∀ q, jA ad q → jA ad q := fun _ h => h
  have hl : lv_has ls 3 [(0, .ref (ad 31)), (1, .int a1)] := hl
  have g1 := jrg t1
  obtain ⟨i1, i2, i3, i4, w5, w6, w7⟩ : (0 ≤ (σ 31 8).toInt ∧ (σ 31 8).toInt ≤ 350) ∧ (0 ≤ (σ 31 10).toInt ∧ (σ 31 10).toInt ≤ 12) ∧ (0 ≤ (σ 31 11).toInt ∧ (σ 31 11).toInt ≤ 8) ∧ ((σ 31 10).toInt + (σ 31 11).toInt ≤ 12) ∧ (∀ k : Nat, k < 1400 → (-1) ≤ (σ 33 k).toInt ∧ (σ 33 k).toInt ≤ 350) ∧ (∀ k : Nat, k < 3159 → (-1) ≤ (σ 35 k).toInt ∧ (σ 35 k).toInt ≤ 3) ∧ (∀ k : Nat, k < 1024 → 0 ≤ (σ 36 k).toInt ∧ (σ 36 k).toInt ≤ 349) := id hI31
  refine lv_aload_n hx hb dX1_isTaken_0 rfl (lv_at hl 0 rfl) ?_
  refine va_get (D := D) hx hb hts inlX1 hown hK hP 31 (jc_31 cI cL ad σ τ) rfl 6 (by decide) (hts _ kw_5_7) (fun _ h9 => h9) rfl dX1_isTaken_1 ?_
  refine lv_iload_n hx hb dX1_isTaken_4 rfl (lv_at hl 1 rfl) ?_
  refine jald hx hb hK hP (jc_36 cI cL ad σ τ) (jin t1 (by omega) (by omega)) dX1_isTaken_5 ?_
  have g8 := w7 _ (jnat (x := a1) t1 (n := 1024) (by omega) (by decide))
  refine jtopr (y := (σ 36 a1.toNatClampNeg)) rfl ?_
  refine lv_istore_n (lv' := [(2, .int (σ 36 a1.toNatClampNeg)), (0, .ref (ad 31)), (1, .int a1)]) hx hb dX1_isTaken_6 rfl hl (by decide) rfl (fun ls hl => ?_)
  refine lv_iload_n hx hb dX1_isTaken_7 rfl (lv_at hl 0 rfl) ?_
  refine lv_aload_n hx hb dX1_isTaken_8 rfl (lv_at hl 1 rfl) ?_
  refine va_get (D := D) hx hb hts inlX1 hown hK hP 31 (jc_31 cI cL ad σ τ) rfl 8 (by decide) (hts _ kw_27_22) (fun _ h9 => h9) rfl dX1_isTaken_9 ?_
  refine lv_icmp_ge (tgt := 29) hx hb dX1_isTaken_12 (by decide) (fun c9 => ?_) (fun c9 => ?_)
  · have kc9 := jle c9 rfl rfl
    refine lv_iconst (v := 0) hx hb dX1_isTaken_29 (by decide) ?_
    exact hret 0 σ τ _ _ _ _ rfl ⟨⟨rfl, rfl⟩, Or.inr (⟨rfl, (by rw [← t1]; exact fun w => by have q := jqTk_iff.mp w; omega)⟩)⟩ hP hS dX1_isTaken_30
  · have kc9 := jnle c9 rfl rfl
    refine lv_aload_n hx hb dX1_isTaken_15 rfl (lv_at hl 1 rfl) ?_
    refine va_get (D := D) hx hb hts inlX1 hown hK hP 31 (jc_31 cI cL ad σ τ) rfl 7 (by decide) (hts _ kw_5_8) (fun _ h9 => h9) rfl dX1_isTaken_16 ?_
    refine lv_iload_n hx hb dX1_isTaken_19 rfl (lv_at hl 0 rfl) ?_
    refine jald hx hb hK hP (jc_37 cI cL ad σ τ) (jin rfl (by omega) (by omega)) dX1_isTaken_20 ?_
    refine jtopr (y := (σ 37 (σ 36 a1.toNatClampNeg).toNatClampNeg)) rfl ?_
    refine lv_iload_n hx hb dX1_isTaken_21 rfl (lv_at hl 2 rfl) ?_
    refine lv_icmp_ne (tgt := 29) hx hb dX1_isTaken_22 (by decide) (fun c10 => ?_) (fun c10 => ?_)
    · have kc10 := jne c10 rfl t1
      refine lv_iconst (v := 0) hx hb dX1_isTaken_29 (by decide) ?_
      exact hret 0 σ τ _ _ _ _ rfl ⟨⟨rfl, rfl⟩, Or.inr (⟨rfl, (by rw [← t1]; exact fun w => by have q := jqTk_iff.mp w; omega)⟩)⟩ hP hS dX1_isTaken_30
    · have kc10 := jeq c10 rfl t1
      refine lv_iconst (v := 1) hx hb dX1_isTaken_25 (by decide) ?_
      refine lv_goto (tgt := 30) hx hb dX1_isTaken_26 (by decide) ?_
      exact hret 1 σ τ _ _ _ _ rfl ⟨⟨rfl, rfl⟩, Or.inl ⟨rfl, (by rw [← t1]; exact jqTk_iff.mpr ⟨by omega, by omega, by omega⟩)⟩⟩ hP hS dX1_isTaken_30
set_option maxHeartbeats 4000000 in
set_option maxRecDepth 100000 in
theorem c_X1_slotFor_31 (l : Launch) (D : va_G) (cI cL : ClassId) (ad zz : Nat → Nat) (hJ : jD ad) (σ : Nat → Nat → Int32) (τ : Nat → Nat → Int64) (a1 : Int32) (A1 : Int) (t1 : a1.toInt = A1) (hI31 : jI31 σ) : jM l yX1_slotFor cX1_slotFor 5 (some .int) ({ frames := 1, cells := 0, slots := 0, locals := 22 }) D cI cL ad zz [.ref (ad 31), .int a1] σ τ (fun r σ' τ' => (σ = σ' ∧ τ = τ') ∧ (jqSf (σ 31 8).toInt (σ 32) (σ 36) (σ 37) a1 r.toInt) ∧ ((True ∧ ((-1) ≤ r.toInt ∧ r.toInt ≤ 1023)))) := by
  refine jM.of hJ (by decide +kernel) (nt := .int) rfl (Nat.le_of_ble_eq_true rfl) ?_
  intro p e s m args below meth c Q ls hC hret hl hP
  obtain ⟨hx, hb, hr, hml, hown, hts, hK, -, hlocks, hZ⟩ := hC
  have hown : s.vm.findClass RX1 = some m.cls := hown
  have hS : va_S (jA ad) s.heap s.heap [] := va_S.rf
  have hA : ∀ q, jA ad q → jA ad q := fun _ h => h
  have hl : lv_has ls 5 [(0, .ref (ad 31)), (1, .int a1)] := hl
  have g1 := jrg t1
  obtain ⟨i1, i2, i3, i4, w5, w6, w7⟩ : (0 ≤ (σ 31 8).toInt ∧ (σ 31 8).toInt ≤ 350) ∧ (0 ≤ (σ 31 10).toInt ∧ (σ 31 10).toInt ≤ 12) ∧ (0 ≤ (σ 31 11).toInt ∧ (σ 31 11).toInt ≤ 8) ∧ ((σ 31 10).toInt + (σ 31 11).toInt ≤ 12) ∧ (∀ k : Nat, k < 1400 → (-1) ≤ (σ 33 k).toInt ∧ (σ 33 k).toInt ≤ 350) ∧ (∀ k : Nat, k < 3159 → (-1) ≤ (σ 35 k).toInt ∧ (σ 35 k).toInt ≤ 3) ∧ (∀ k : Nat, k < 1024 → 0 ≤ (σ 36 k).toInt ∧ (σ 36 k).toInt ≤ 349) := id hI31
  refine lv_iload_n hx hb dX1_slotFor_0 rfl (lv_at hl 1 rfl) ?_
  refine lv_ldc (v := (-1640531527)) hx hb hown (hts _ kw_29_4) dX1_slotFor_1 ?_
  refine lv_imul hx hb dX1_slotFor_3 ?_
  refine lv_topi (fun x8 ex8 => ?_)
  have gx8 := jrg (rfl : x8.toInt = x8.toInt)
  refine lv_bipush (v := 22) hx hb dX1_slotFor_4 (by decide) ?_
  refine lv_iushr hx hb dX1_slotFor_6 rfl ?_
  refine lv_topi (fun x9 ex9 => ?_)
  have gx9 := jrg (rfl : x9.toInt = x9.toInt)
  have g10 : 0 ≤ x9.toInt ∧ x9.toInt ≤ 1023 := jushr22 ex9
  refine lv_istore_n (lv' := [(2, .int x9), (0, .ref (ad 31)), (1, .int a1)]) hx hb dX1_slotFor_7 rfl hl (by decide) rfl (fun ls hl => ?_)
  refine lv_iconst (v := 0) hx hb dX1_slotFor_8 (by decide) ?_
  refine lv_istore_n (lv' := [(3, .int 0), (2, .int x9), (0, .ref (ad 31)), (1, .int a1)]) hx hb dX1_slotFor_9 rfl hl (by decide) rfl (fun ls hl => ?_)
  have lp11 : ∀ (n12 : Nat) (x13 : Int32) (H : Heap) (locs : List Loc) (ls : Array Slot), (-x13.toInt + 1024 : Int) < n12 → 0 ≤ x13.toInt → x13.toInt ≤ 1024 → (∀ q : Nat, (q : Int) < x13.toInt → jqMs (σ 31 8).toInt (σ 32) (σ 36) (σ 37) a1 q) → jH D cI cL ad σ τ H → va_S (jA ad) s.heap H locs → lv_has ls 5 [(3, .int x13), (2, .int x9), (0, .ref (ad 31)), (1, .int a1)] → W p l e ({ frames := 1, cells := 0, slots := 0, locals := 22 }) s m args below meth c H locs 0 0 Q (F0 m 10 ls []) := by
    intro n12
    induction n12 with
    | zero => intro x13 H locs ls h16 h17 h18; exact absurd h16 (by omega)
    | succ n12 ihlp11 =>
      intro x13 H locs ls h16 h17 h18 q20 hP hS hl
      refine lv_iload_n hx hb dX1_slotFor_10 rfl (lv_at hl 0 rfl) ?_
      refine lv_sipush (v := 1024) hx hb dX1_slotFor_11 (by decide) ?_
      refine lv_icmp_ge (tgt := 60) hx hb dX1_slotFor_14 (by decide) (fun c21 => ?_) (fun c21 => ?_)
      · have kc21 := jle c21 jz_1024 rfl
        refine lv_iconst (v := (-1)) hx hb dX1_slotFor_60 (by decide) ?_
        exact hret (-1) σ τ _ _ _ _ rfl ⟨⟨rfl, rfl⟩, (jqSf.no q20 (by omega) (by decide)), ⟨trivial, (by have h9 := jz_m1; omega)⟩⟩ hP hS dX1_slotFor_61
      · have kc21 := jnle c21 jz_1024 rfl
        refine lv_iload_n hx hb dX1_slotFor_17 rfl (lv_at hl 1 rfl) ?_
        refine lv_iload_n hx hb dX1_slotFor_18 rfl (lv_at hl 0 rfl) ?_
        have g22 := jrg (rfl : x9.toInt = x9.toInt)
        have g23 := jrg (rfl : x13.toInt = x13.toInt)
        refine lv_iadd hx hb dX1_slotFor_19 ?_
        refine lv_topi (fun x24 ex24 => ?_)
        have tx24 : x24.toInt = x9.toInt + x13.toInt := (jadd ex24 rfl rfl (by omega) (by omega)).trans (by omega)
        refine lv_sipush (v := 1023) hx hb dX1_slotFor_20 (by decide) ?_
        refine lv_iand hx hb dX1_slotFor_23 ?_
        refine lv_topi (fun x25 ex25 => ?_)
        have gx25 := jrg (rfl : x25.toInt = x25.toInt)
        have g26 : 0 ≤ x25.toInt ∧ x25.toInt ≤ 1023 := jmask ex25 10 (by decide) (by decide)
        refine lv_istore (lv' := [(4, .int x25), (3, .int x13), (2, .int x9), (0, .ref (ad 31)), (1, .int a1)]) hx hb dX1_slotFor_24 hl (by decide) rfl (fun ls hl => ?_)
        refine lv_aload_n hx hb dX1_slotFor_26 rfl (lv_at hl 3 rfl) ?_
        refine lv_iload hx hb dX1_slotFor_27 (lv_at hl 0 rfl) ?_
        refine jcallV (As := [.int x25]) (rest := []) ⟨hx, hb, hml, hown, hts⟩ hK hP hA hS hZ (c_X1_isTaken_31 l D cI cL ad zz hJ σ τ x25 (x25.toInt) rfl hI31 (by omega)) cw_RX1_81 (jc_31 cI cL ad σ τ) rfl ⟨Nat.le_of_ble_eq_true rfl, Nat.le_of_ble_eq_true rfl⟩ rfl rfl rfl hl.1 rfl (Nat.le_of_ble_eq_true rfl) dX1_slotFor_29 ⟨Nat.zero_le _, Nat.zero_le _⟩ (fun r28 σ27 τ27 H locs h27 hP hS => ?_)
        obtain ⟨⟨rfl, rfl⟩, h27⟩ := h27
        rcases h27 with h29 | h30
        · obtain ⟨q32, k31⟩ := h29
          have q32 := q32.symm
          subst q32
          refine lv_if_eq (tgt := 51) hx hb dX1_slotFor_32 (by decide) (fun c => absurd c (by decide)) (fun _ => ?_)
          refine lv_aload_n hx hb dX1_slotFor_35 rfl (lv_at hl 3 rfl) ?_
          refine va_get (D := D) hx hb hts inlX1 hown hK hP 31 (jc_31 cI cL ad σ τ) rfl 2 (by decide) (hts _ kw_5_3) (fun _ h9 => h9) rfl dX1_slotFor_36 ?_
          refine lv_aload_n hx hb dX1_slotFor_39 rfl (lv_at hl 3 rfl) ?_
          refine va_get (D := D) hx hb hts inlX1 hown hK hP 31 (jc_31 cI cL ad σ τ) rfl 6 (by decide) (hts _ kw_5_7) (fun _ h9 => h9) rfl dX1_slotFor_40 ?_
          refine lv_iload hx hb dX1_slotFor_43 (lv_at hl 0 rfl) ?_
          refine jald hx hb hK hP (jc_36 cI cL ad σ τ) (jin rfl (by omega) (by omega)) dX1_slotFor_45 ?_
          have g33 := w7 _ (jnat (x := x25) rfl (n := 1024) (by omega) (by decide))
          refine jtopr (y := (σ 36 x25.toNatClampNeg)) rfl ?_
          refine jald hx hb hK hP (jc_32 cI cL ad σ τ) (jin rfl (by omega) (by omega)) dX1_slotFor_46 ?_
          refine jtopr (y := (σ 32 (σ 36 x25.toNatClampNeg).toNatClampNeg)) rfl ?_
          refine lv_iload_n hx hb dX1_slotFor_47 rfl (lv_at hl 4 rfl) ?_
          refine lv_icmp_ne (tgt := 54) hx hb dX1_slotFor_48 (by decide) (fun c34 => ?_) (fun c34 => ?_)
          · have kc34 := jne c34 rfl t1
            obtain ⟨x35, ex35⟩ : ∃ y : Int32, y = x13 + 1 := ⟨_, rfl⟩
            have tx35 : x35.toInt = x13.toInt + 1 := (jadd ex35 rfl jz_1 (by omega) (by omega)).trans (by omega)
            refine lv_iinc (v := x35) (lv' := [(3, .int x35), (4, .int x25), (2, .int x9), (0, .ref (ad 31)), (1, .int a1)]) hx hb dX1_slotFor_54 hl (k := 1) rfl (by rw [ex35]; rfl) (by decide) rfl (fun ls hl => ?_)
            refine lv_goto (tgt := 10) hx hb dX1_slotFor_57 (by decide) ?_
            exact ihlp11 x35 _ _ ls (by have h90 := tx35; omega) (by have h90 := tx35; omega) (by have h90 := tx35; omega)   (jqMs.step q20 (by omega) (by rw [show jHx a1 = x9 by rw [ex9, ex8, jHx]]; have w := jandm (x := x24) (y := x25) (m := 1023) (k := 10) (M := 1024) (by rw [ex25]) rfl rfl (by decide); omega) k31 (show (σ 32 (σ 36 x25.toNatClampNeg).toNatClampNeg).toInt ≠ a1.toInt by omega) (by have h9 := tx35; omega)) hP hS (lv_sub hl [0, 2, 3, 4] rfl)
          · have kc34 := jeq c34 rfl t1
            refine lv_iload hx hb dX1_slotFor_51 (lv_at hl 0 rfl) ?_
            exact hret x25 σ τ _ _ _ _ rfl ⟨⟨rfl, rfl⟩, (jqSf.of q20 (by omega) (by omega) (by rw [show jHx a1 = x9 by rw [ex9, ex8, jHx]]; have w := jandm (x := x24) (y := x25) (m := 1023) (k := 10) (M := 1024) (by rw [ex25]) rfl rfl (by decide); omega) (Or.inr ⟨k31, (show (σ 32 (σ 36 x25.toNatClampNeg).toNatClampNeg).toInt = a1.toInt by omega)⟩)), ⟨trivial, (by omega)⟩⟩ hP hS dX1_slotFor_53
        · obtain ⟨q37, k36⟩ := h30
          have q37 := q37.symm
          subst q37
          refine lv_if_eq (tgt := 51) hx hb dX1_slotFor_32 (by decide) (fun _ => ?_) (fun c => absurd (by decide) c)
          refine lv_iload hx hb dX1_slotFor_51 (lv_at hl 0 rfl) ?_
          exact hret x25 σ τ _ _ _ _ rfl ⟨⟨rfl, rfl⟩, (jqSf.of q20 (by omega) (by omega) (by rw [show jHx a1 = x9 by rw [ex9, ex8, jHx]]; have w := jandm (x := x24) (y := x25) (m := 1023) (k := 10) (M := 1024) (by rw [ex25]) rfl rfl (by decide); omega) (Or.inl k36)), ⟨trivial, (by omega)⟩⟩ hP hS dX1_slotFor_53
  exact lp11 1000000 0 _ _ ls (by have h90 := jz_0; omega) (by have h90 := jz_0; omega) (by have h90 := jz_0; omega)  (fun q hq => absurd hq (by have h9 := jz_0; omega)) hP hS hl
set_option maxHeartbeats 4000000 in
set_option maxRecDepth 100000 in
theorem c_X1_trimmed_r (l : Launch) (D : va_G) (cI cL : ClassId) (ad zz : Nat → Nat) (hJ : jD ad) (σ : Nat → Nat → Int32) (τ : Nat → Nat → Int64) (a1 : Int32) (A1 : Int) (t1 : a1.toInt = A1) (a2 : Int32) (A2 : Int) (t2 : a2.toInt = A2) (hp0 : 0 ≤ A1 ∧ A1 ≤ 134217727) (hp1 : 1 ≤ A2 ∧ A2 ≤ 12) : jM l yX1_trimmed cX1_trimmed 7 (some .int) ({ frames := 1, cells := 0, slots := 0, locals := 23 }) D cI cL ad zz [.ref (ad 31), .int a1, .int a2] σ τ (fun r σ' τ' => (σ = σ' ∧ τ = τ') ∧ (jTf (decide ((σ 31 12).toInt ≠ 0)) (A2) a1 r) ∧ ((True ∧ (0 ≤ r.toInt ∧ r.toInt ≤ 134217727)))) := by
  refine jM.of hJ (by decide +kernel) (nt := .int) rfl (Nat.le_of_ble_eq_true rfl) ?_
  intro p e s m args below meth c Q ls hC hret hl hP
  obtain ⟨hx, hb, hr, hml, hown, hts, hK, -, hlocks, hZ⟩ := hC
  have hown : s.vm.findClass RX1 = some m.cls := hown
  have hS : va_S (jA ad) s.heap s.heap [] := va_S.rf
  have hA : ∀ q, jA ad q → jA ad q := fun _ h => h
  have hl : lv_has ls 7 [(0, .ref (ad 31)), (1, .int a1), (2, .int a2)] := hl
  have g1 := jrg t1
  have g2 := jrg t2
  refine lv_iload_n hx hb dX1_trimmed_0 rfl (lv_at hl 1 rfl) ?_
  refine lv_istore_n (lv' := [(3, .int a1), (0, .ref (ad 31)), (1, .int a1), (2, .int a2)]) hx hb dX1_trimmed_1 rfl hl (by decide) rfl (fun ls hl => ?_)
  refine lv_iconst (v := 0) hx hb dX1_trimmed_2 (by decide) ?_
  refine lv_istore (lv' := [(4, .int 0), (3, .int a1), (0, .ref (ad 31)), (1, .int a1), (2, .int a2)]) hx hb dX1_trimmed_3 hl (by decide) rfl (fun ls hl => ?_)
  have lp1 : ∀ (n2 : Nat) (x3 : Int32) (x4 : Int32) (H : Heap) (locs : List Loc) (ls : Array Slot), (-x4.toInt + 4 : Int) < n2 → 0 ≤ x3.toInt → x3.toInt ≤ 134217727 → 0 ≤ x4.toInt → x4.toInt ≤ 4 → (jTh (decide ((σ 31 12).toInt ≠ 0)) (a2.toInt) a1 x3 (x4.toInt)) → jH D cI cL ad σ τ H → va_S (jA ad) s.heap H locs → lv_has ls 7 [(4, .int x4), (3, .int x3), (0, .ref (ad 31)), (1, .int a1), (2, .int a2)] → W p l e ({ frames := 1, cells := 0, slots := 0, locals := 23 }) s m args below meth c H locs 0 0 Q (F0 m 5 ls []) := by
    intro n2
    induction n2 with
    | zero => intro x3 x4 H locs ls h8 h9 h10 h11 h12; exact absurd h8 (by omega)
    | succ n2 ihlp1 =>
      intro x3 x4 H locs ls h8 h9 h10 h11 h12 q14 hP hS hl
      refine lv_iload hx hb dX1_trimmed_5 (lv_at hl 0 rfl) ?_
      refine lv_iconst (v := 4) hx hb dX1_trimmed_7 (by decide) ?_
      refine lv_icmp_ge (tgt := 90) hx hb dX1_trimmed_8 (by decide) (fun c15 => ?_) (fun c15 => ?_)
      · have kc15 := jle c15 jz_4 rfl
        refine lv_iload_n hx hb dX1_trimmed_90 rfl (lv_at hl 1 rfl) ?_
        exact hret x3 σ τ _ _ _ _ rfl ⟨⟨rfl, rfl⟩, (by rw [← t2]; exact q14.fin (by omega)), ⟨trivial, (by omega)⟩⟩ hP hS dX1_trimmed_91
      · have kc15 := jnle c15 jz_4 rfl
        refine lv_iload_n hx hb dX1_trimmed_11 rfl (lv_at hl 3 rfl) ?_
        refine lv_iload hx hb dX1_trimmed_12 (lv_at hl 0 rfl) ?_
        refine jcallS (As := [.int a1, .int x4]) (rest := []) ⟨hx, hb, hml, hown, hts⟩ hK hP hA hS hZ (c_X0_left l D cI cL ad zz hJ σ τ a1 (A1) t1 x4 (x4.toInt) rfl) cw_RX1_123 ⟨Nat.le_of_ble_eq_true rfl, Nat.le_of_ble_eq_true rfl⟩ rfl rfl rfl hl.1 rfl (Nat.le_of_ble_eq_true rfl) dX1_trimmed_14 ⟨Nat.zero_le _, Nat.zero_le _⟩ (fun r17 σ16 τ16 H locs h16 hP hS => ?_)
        obtain ⟨⟨rfl, rfl⟩, w18, h16⟩ := h16
        have k19 := congrArg Int32.toInt w18
        have h20 := h16
        obtain ⟨q22, k21⟩ := h20
        refine lv_istore (lv' := [(5, .int r17), (4, .int x4), (3, .int x3), (0, .ref (ad 31)), (1, .int a1), (2, .int a2)]) hx hb dX1_trimmed_17 hl (by decide) rfl (fun ls hl => ?_)
        refine lv_iload_n hx hb dX1_trimmed_19 rfl (lv_at hl 4 rfl) ?_
        refine jcallS (As := [.int a1]) (rest := []) ⟨hx, hb, hml, hown, hts⟩ hK hP hA hS hZ (c_X0_last l D cI cL ad zz hJ σ τ a1 (A1) t1) cw_RX1_126 ⟨Nat.le_of_ble_eq_true rfl, Nat.le_of_ble_eq_true rfl⟩ rfl rfl rfl hl.1 rfl (Nat.le_of_ble_eq_true rfl) dX1_trimmed_20 ⟨Nat.zero_le _, Nat.zero_le _⟩ (fun r24 σ23 τ23 H locs h23 hP hS => ?_)
        obtain ⟨⟨rfl, rfl⟩, w25, h23⟩ := h23
        refine lv_iload hx hb dX1_trimmed_23 (lv_at hl 1 rfl) ?_
        refine lv_icmp_ne (tgt := 32) hx hb dX1_trimmed_25 (by decide) (fun c26 => ?_) (fun c26 => ?_)
        · have kc26 := jne c26 rfl rfl
          refine lv_iload_n hx hb dX1_trimmed_32 rfl (lv_at hl 5 rfl) ?_
          refine lv_iconst (v := 1) hx hb dX1_trimmed_33 (by decide) ?_
          refine lv_iadd hx hb dX1_trimmed_34 ?_
          refine lv_topi (fun x27 ex27 => ?_)
          have tx27 : x27.toInt = A2 + 1 := (jadd ex27 t2 jz_1 (by omega) (by omega)).trans (by omega)
          refine lv_iconst (v := 2) hx hb dX1_trimmed_35 (by decide) ?_
          refine lv_idiv hx hb dX1_trimmed_36 (by decide) ?_
          refine lv_topi (fun x28 ex28 => ?_)
          have tx28 : x28.toInt = ((A2 + 1) / 2) := jdiv ex28 tx27 jz_2 (by omega) (by omega)
          refine lv_istore (lv' := [(6, .int x28), (5, .int r17), (4, .int x4), (3, .int x3), (0, .ref (ad 31)), (1, .int a1), (2, .int a2)]) hx hb dX1_trimmed_37 hl (by decide) rfl (fun ls hl => ?_)
          refine lv_aload_n hx hb dX1_trimmed_39 rfl (lv_at hl 4 rfl) ?_
          refine va_get (D := D) hx hb hts inlX1 hown hK hP 31 (jc_31 cI cL ad σ τ) rfl 12 (by decide) (hts _ kw_28_8) (fun _ h9 => h9) rfl dX1_trimmed_40 ?_
          refine lv_if_eq (tgt := 51) hx hb dX1_trimmed_43 (by decide) (fun c29 => ?_) (fun c29 => ?_)
          · have kc29 := jeq c29 rfl jz_0
            refine lv_iload hx hb dX1_trimmed_51 (lv_at hl 1 rfl) ?_
            refine lv_iload hx hb dX1_trimmed_53 (lv_at hl 0 rfl) ?_
            refine lv_icmp_le (tgt := 71) hx hb dX1_trimmed_55 (by decide) (fun c30 => ?_) (fun c30 => ?_)
            · have kc30 := jle c30 rfl tx28
              refine lv_iload hx hb dX1_trimmed_71 (lv_at hl 1 rfl) ?_
              refine lv_if_ne (tgt := 84) hx hb dX1_trimmed_73 (by decide) (fun c31 => ?_) (fun c31 => ?_)
              · have kc31 := jne c31 rfl jz_0
                obtain ⟨x32, ex32⟩ : ∃ y : Int32, y = x4 + 1 := ⟨_, rfl⟩
                have tx32 : x32.toInt = x4.toInt + 1 := (jadd ex32 rfl jz_1 (by omega) (by omega)).trans (by omega)
                refine lv_iinc (v := x32) (lv' := [(4, .int x32), (6, .int x28), (5, .int r17), (3, .int x3), (0, .ref (ad 31)), (1, .int a1), (2, .int a2)]) hx hb dX1_trimmed_84 hl (k := 2) rfl (by rw [ex32]; rfl) (by decide) rfl (fun ls hl => ?_)
                refine lv_goto (tgt := 5) hx hb dX1_trimmed_87 (by decide) ?_
                exact ihlp1 x3 x32 _ _ ls (by have h91 := tx32; omega) (by have h91 := tx32; omega) (by have h91 := tx32; omega) (by have h91 := tx32; omega) (by have h91 := tx32; omega)   (jTh.stepi (l := r17) (m := x28) (v := x28) (w := 0) q14 rfl (by omega) (by omega) w18 (by unfold jla; omega) (by have h9 := tx28; omega) rfl (Or.inr ⟨by omega, Or.inr ⟨by omega, rfl⟩⟩) (by have h9 := tx32; omega)) hP hS (lv_sub hl [0, 3, 4, 5, 6] rfl)
              · have kc31 := jeq c31 rfl jz_0
                refine lv_iload_n hx hb dX1_trimmed_76 rfl (lv_at hl 3 rfl) ?_
                refine lv_iload hx hb dX1_trimmed_77 (lv_at hl 2 rfl) ?_
                refine lv_iconst (v := 0) hx hb dX1_trimmed_79 (by decide) ?_
                refine jcallS (As := [.int x3, .int x4, .int 0]) (rest := []) ⟨hx, hb, hml, hown, hts⟩ hK hP hA hS hZ (c_X0_withSteps_r l D cI cL ad zz hJ σ τ x3 (x3.toInt) rfl x4 (x4.toInt) rfl 0 (0) jz_0 (by omega) (by omega)) cw_RX1_133 ⟨Nat.le_of_ble_eq_true rfl, Nat.le_of_ble_eq_true rfl⟩ rfl rfl rfl hl.1 rfl (Nat.le_of_ble_eq_true rfl) dX1_trimmed_80 ⟨Nat.zero_le _, Nat.zero_le _⟩ (fun r34 σ33 τ33 H locs h33 hP hS => ?_)
                obtain ⟨⟨rfl, rfl⟩, w35, h33⟩ := h33
                have k36 := congrArg Int32.toInt w35
                have h37 := h33
                obtain ⟨q39, k38⟩ := h37
                refine lv_istore_n (lv' := [(3, .int r34), (6, .int x28), (5, .int r17), (4, .int x4), (0, .ref (ad 31)), (1, .int a1), (2, .int a2)]) hx hb dX1_trimmed_83 rfl hl (by decide) rfl (fun ls hl => ?_)
                obtain ⟨x40, ex40⟩ : ∃ y : Int32, y = x4 + 1 := ⟨_, rfl⟩
                have tx40 : x40.toInt = x4.toInt + 1 := (jadd ex40 rfl jz_1 (by omega) (by omega)).trans (by omega)
                refine lv_iinc (v := x40) (lv' := [(4, .int x40), (3, .int r34), (6, .int x28), (5, .int r17), (0, .ref (ad 31)), (1, .int a1), (2, .int a2)]) hx hb dX1_trimmed_84 hl (k := 3) rfl (by rw [ex40]; rfl) (by decide) rfl (fun ls hl => ?_)
                refine lv_goto (tgt := 5) hx hb dX1_trimmed_87 (by decide) ?_
                exact ihlp1 r34 x40 _ _ ls (by have h91 := tx40; omega) (by have h91 := tx40; omega) (by have h91 := tx40; omega) (by have h91 := tx40; omega) (by have h91 := tx40; omega)   (jTh.stepi (l := r17) (m := x28) (v := x28) (w := 0) q14 rfl (by omega) (by omega) w18 (by unfold jla; omega) (by have h9 := tx28; omega) rfl (Or.inr ⟨by omega, Or.inl ⟨by omega, w35⟩⟩) (by have h9 := tx40; omega)) hP hS (lv_sub hl [0, 1, 4, 5, 6] rfl)
            · have kc30 := jnle c30 rfl tx28
              refine lv_iload hx hb dX1_trimmed_58 (lv_at hl 0 rfl) ?_
              refine lv_istore (lv' := [(5, .int x28), (6, .int x28), (4, .int x4), (3, .int x3), (0, .ref (ad 31)), (1, .int a1), (2, .int a2)]) hx hb dX1_trimmed_60 hl (by decide) rfl (fun ls hl => ?_)
              refine lv_iload_n hx hb dX1_trimmed_62 rfl (lv_at hl 3 rfl) ?_
              refine lv_iload hx hb dX1_trimmed_63 (lv_at hl 2 rfl) ?_
              refine lv_iload hx hb dX1_trimmed_65 (lv_at hl 0 rfl) ?_
              refine jcallS (As := [.int x3, .int x4, .int x28]) (rest := []) ⟨hx, hb, hml, hown, hts⟩ hK hP hA hS hZ (c_X0_withLeft_r l D cI cL ad zz hJ σ τ x3 (x3.toInt) rfl x4 (x4.toInt) rfl x28 (((A2 + 1) / 2)) tx28 (by omega) (by omega)) cw_RX1_129 ⟨Nat.le_of_ble_eq_true rfl, Nat.le_of_ble_eq_true rfl⟩ rfl rfl rfl hl.1 rfl (Nat.le_of_ble_eq_true rfl) dX1_trimmed_67 ⟨Nat.zero_le _, Nat.zero_le _⟩ (fun r42 σ41 τ41 H locs h41 hP hS => ?_)
              obtain ⟨⟨rfl, rfl⟩, w43, h41⟩ := h41
              have k44 := congrArg Int32.toInt w43
              have h45 := h41
              obtain ⟨q47, k46⟩ := h45
              refine lv_istore_n (lv' := [(3, .int r42), (5, .int x28), (6, .int x28), (4, .int x4), (0, .ref (ad 31)), (1, .int a1), (2, .int a2)]) hx hb dX1_trimmed_70 rfl hl (by decide) rfl (fun ls hl => ?_)
              refine lv_iload hx hb dX1_trimmed_71 (lv_at hl 1 rfl) ?_
              refine lv_if_ne (tgt := 84) hx hb dX1_trimmed_73 (by decide) (fun c48 => ?_) (fun c => absurd (jeq c tx28 jz_0) (by omega))
              have kc48 := jne c48 tx28 jz_0
              obtain ⟨x49, ex49⟩ : ∃ y : Int32, y = x4 + 1 := ⟨_, rfl⟩
              have tx49 : x49.toInt = x4.toInt + 1 := (jadd ex49 rfl jz_1 (by omega) (by omega)).trans (by omega)
              refine lv_iinc (v := x49) (lv' := [(4, .int x49), (3, .int r42), (5, .int x28), (6, .int x28), (0, .ref (ad 31)), (1, .int a1), (2, .int a2)]) hx hb dX1_trimmed_84 hl (k := 3) rfl (by rw [ex49]; rfl) (by decide) rfl (fun ls hl => ?_)
              refine lv_goto (tgt := 5) hx hb dX1_trimmed_87 (by decide) ?_
              exact ihlp1 r42 x49 _ _ ls (by have h91 := tx49; omega) (by have h91 := tx49; omega) (by have h91 := tx49; omega) (by have h91 := tx49; omega) (by have h91 := tx49; omega)   (jTh.stepi (l := r17) (m := x28) (v := x28) (w := 0) q14 rfl (by omega) (by omega) w18 (by unfold jla; omega) (by have h9 := tx28; omega) rfl (Or.inl ⟨by omega, by omega, rfl, Or.inr ⟨by omega, w43⟩⟩) (by have h9 := tx49; omega)) hP hS (lv_sub hl [0, 1, 4, 5, 6] rfl)
          · have kc29 := jne c29 rfl jz_0
            refine lv_iload_n hx hb dX1_trimmed_46 rfl (lv_at hl 6 rfl) ?_
            refine lv_iconst (v := 1) hx hb dX1_trimmed_47 (by decide) ?_
            refine lv_icmp_gt (tgt := 71) hx hb dX1_trimmed_48 (by decide) (fun c50 => ?_) (fun c50 => ?_)
            · have kc50 := jlt c50 jz_1 t2
              refine lv_iload hx hb dX1_trimmed_71 (lv_at hl 1 rfl) ?_
              refine lv_if_ne (tgt := 84) hx hb dX1_trimmed_73 (by decide) (fun c51 => ?_) (fun c51 => ?_)
              · have kc51 := jne c51 rfl jz_0
                obtain ⟨x52, ex52⟩ : ∃ y : Int32, y = x4 + 1 := ⟨_, rfl⟩
                have tx52 : x52.toInt = x4.toInt + 1 := (jadd ex52 rfl jz_1 (by omega) (by omega)).trans (by omega)
                refine lv_iinc (v := x52) (lv' := [(4, .int x52), (6, .int x28), (5, .int r17), (3, .int x3), (0, .ref (ad 31)), (1, .int a1), (2, .int a2)]) hx hb dX1_trimmed_84 hl (k := 2) rfl (by rw [ex52]; rfl) (by decide) rfl (fun ls hl => ?_)
                refine lv_goto (tgt := 5) hx hb dX1_trimmed_87 (by decide) ?_
                exact ihlp1 x3 x52 _ _ ls (by have h91 := tx52; omega) (by have h91 := tx52; omega) (by have h91 := tx52; omega) (by have h91 := tx52; omega) (by have h91 := tx52; omega)   (jTh.stepi (l := r17) (m := x28) (v := x28) (w := 0) q14 rfl (by omega) (by omega) w18 (by unfold jla; omega) (by have h9 := tx28; omega) rfl (Or.inr ⟨by omega, Or.inr ⟨by omega, rfl⟩⟩) (by have h9 := tx52; omega)) hP hS (lv_sub hl [0, 3, 4, 5, 6] rfl)
              · have kc51 := jeq c51 rfl jz_0
                refine lv_iload_n hx hb dX1_trimmed_76 rfl (lv_at hl 3 rfl) ?_
                refine lv_iload hx hb dX1_trimmed_77 (lv_at hl 2 rfl) ?_
                refine lv_iconst (v := 0) hx hb dX1_trimmed_79 (by decide) ?_
                refine jcallS (As := [.int x3, .int x4, .int 0]) (rest := []) ⟨hx, hb, hml, hown, hts⟩ hK hP hA hS hZ (c_X0_withSteps_r l D cI cL ad zz hJ σ τ x3 (x3.toInt) rfl x4 (x4.toInt) rfl 0 (0) jz_0 (by omega) (by omega)) cw_RX1_133 ⟨Nat.le_of_ble_eq_true rfl, Nat.le_of_ble_eq_true rfl⟩ rfl rfl rfl hl.1 rfl (Nat.le_of_ble_eq_true rfl) dX1_trimmed_80 ⟨Nat.zero_le _, Nat.zero_le _⟩ (fun r54 σ53 τ53 H locs h53 hP hS => ?_)
                obtain ⟨⟨rfl, rfl⟩, w55, h53⟩ := h53
                have k56 := congrArg Int32.toInt w55
                have h57 := h53
                obtain ⟨q59, k58⟩ := h57
                refine lv_istore_n (lv' := [(3, .int r54), (6, .int x28), (5, .int r17), (4, .int x4), (0, .ref (ad 31)), (1, .int a1), (2, .int a2)]) hx hb dX1_trimmed_83 rfl hl (by decide) rfl (fun ls hl => ?_)
                obtain ⟨x60, ex60⟩ : ∃ y : Int32, y = x4 + 1 := ⟨_, rfl⟩
                have tx60 : x60.toInt = x4.toInt + 1 := (jadd ex60 rfl jz_1 (by omega) (by omega)).trans (by omega)
                refine lv_iinc (v := x60) (lv' := [(4, .int x60), (3, .int r54), (6, .int x28), (5, .int r17), (0, .ref (ad 31)), (1, .int a1), (2, .int a2)]) hx hb dX1_trimmed_84 hl (k := 3) rfl (by rw [ex60]; rfl) (by decide) rfl (fun ls hl => ?_)
                refine lv_goto (tgt := 5) hx hb dX1_trimmed_87 (by decide) ?_
                exact ihlp1 r54 x60 _ _ ls (by have h91 := tx60; omega) (by have h91 := tx60; omega) (by have h91 := tx60; omega) (by have h91 := tx60; omega) (by have h91 := tx60; omega)   (jTh.stepi (l := r17) (m := x28) (v := x28) (w := 0) q14 rfl (by omega) (by omega) w18 (by unfold jla; omega) (by have h9 := tx28; omega) rfl (Or.inr ⟨by omega, Or.inl ⟨by omega, w55⟩⟩) (by have h9 := tx60; omega)) hP hS (lv_sub hl [0, 1, 4, 5, 6] rfl)
            · have kc50 := jnlt c50 jz_1 t2
              refine lv_iload hx hb dX1_trimmed_51 (lv_at hl 1 rfl) ?_
              refine lv_iload hx hb dX1_trimmed_53 (lv_at hl 0 rfl) ?_
              refine lv_icmp_le (tgt := 71) hx hb dX1_trimmed_55 (by decide) (fun c61 => ?_) (fun c61 => ?_)
              · have kc61 := jle c61 rfl tx28
                refine lv_iload hx hb dX1_trimmed_71 (lv_at hl 1 rfl) ?_
                refine lv_if_ne (tgt := 84) hx hb dX1_trimmed_73 (by decide) (fun c62 => ?_) (fun c62 => ?_)
                · have kc62 := jne c62 rfl jz_0
                  obtain ⟨x63, ex63⟩ : ∃ y : Int32, y = x4 + 1 := ⟨_, rfl⟩
                  have tx63 : x63.toInt = x4.toInt + 1 := (jadd ex63 rfl jz_1 (by omega) (by omega)).trans (by omega)
                  refine lv_iinc (v := x63) (lv' := [(4, .int x63), (6, .int x28), (5, .int r17), (3, .int x3), (0, .ref (ad 31)), (1, .int a1), (2, .int a2)]) hx hb dX1_trimmed_84 hl (k := 2) rfl (by rw [ex63]; rfl) (by decide) rfl (fun ls hl => ?_)
                  refine lv_goto (tgt := 5) hx hb dX1_trimmed_87 (by decide) ?_
                  exact ihlp1 x3 x63 _ _ ls (by have h91 := tx63; omega) (by have h91 := tx63; omega) (by have h91 := tx63; omega) (by have h91 := tx63; omega) (by have h91 := tx63; omega)   (jTh.stepi (l := r17) (m := x28) (v := x28) (w := 0) q14 rfl (by omega) (by omega) w18 (by unfold jla; omega) (by have h9 := tx28; omega) rfl (Or.inr ⟨by omega, Or.inr ⟨by omega, rfl⟩⟩) (by have h9 := tx63; omega)) hP hS (lv_sub hl [0, 3, 4, 5, 6] rfl)
                · have kc62 := jeq c62 rfl jz_0
                  refine lv_iload_n hx hb dX1_trimmed_76 rfl (lv_at hl 3 rfl) ?_
                  refine lv_iload hx hb dX1_trimmed_77 (lv_at hl 2 rfl) ?_
                  refine lv_iconst (v := 0) hx hb dX1_trimmed_79 (by decide) ?_
                  refine jcallS (As := [.int x3, .int x4, .int 0]) (rest := []) ⟨hx, hb, hml, hown, hts⟩ hK hP hA hS hZ (c_X0_withSteps_r l D cI cL ad zz hJ σ τ x3 (x3.toInt) rfl x4 (x4.toInt) rfl 0 (0) jz_0 (by omega) (by omega)) cw_RX1_133 ⟨Nat.le_of_ble_eq_true rfl, Nat.le_of_ble_eq_true rfl⟩ rfl rfl rfl hl.1 rfl (Nat.le_of_ble_eq_true rfl) dX1_trimmed_80 ⟨Nat.zero_le _, Nat.zero_le _⟩ (fun r65 σ64 τ64 H locs h64 hP hS => ?_)
                  obtain ⟨⟨rfl, rfl⟩, w66, h64⟩ := h64
                  have k67 := congrArg Int32.toInt w66
                  have h68 := h64
                  obtain ⟨q70, k69⟩ := h68
                  refine lv_istore_n (lv' := [(3, .int r65), (6, .int x28), (5, .int r17), (4, .int x4), (0, .ref (ad 31)), (1, .int a1), (2, .int a2)]) hx hb dX1_trimmed_83 rfl hl (by decide) rfl (fun ls hl => ?_)
                  obtain ⟨x71, ex71⟩ : ∃ y : Int32, y = x4 + 1 := ⟨_, rfl⟩
                  have tx71 : x71.toInt = x4.toInt + 1 := (jadd ex71 rfl jz_1 (by omega) (by omega)).trans (by omega)
                  refine lv_iinc (v := x71) (lv' := [(4, .int x71), (3, .int r65), (6, .int x28), (5, .int r17), (0, .ref (ad 31)), (1, .int a1), (2, .int a2)]) hx hb dX1_trimmed_84 hl (k := 3) rfl (by rw [ex71]; rfl) (by decide) rfl (fun ls hl => ?_)
                  refine lv_goto (tgt := 5) hx hb dX1_trimmed_87 (by decide) ?_
                  exact ihlp1 r65 x71 _ _ ls (by have h91 := tx71; omega) (by have h91 := tx71; omega) (by have h91 := tx71; omega) (by have h91 := tx71; omega) (by have h91 := tx71; omega)   (jTh.stepi (l := r17) (m := x28) (v := x28) (w := 0) q14 rfl (by omega) (by omega) w18 (by unfold jla; omega) (by have h9 := tx28; omega) rfl (Or.inr ⟨by omega, Or.inl ⟨by omega, w66⟩⟩) (by have h9 := tx71; omega)) hP hS (lv_sub hl [0, 1, 4, 5, 6] rfl)
              · have kc61 := jnle c61 rfl tx28
                refine lv_iload hx hb dX1_trimmed_58 (lv_at hl 0 rfl) ?_
                refine lv_istore (lv' := [(5, .int x28), (6, .int x28), (4, .int x4), (3, .int x3), (0, .ref (ad 31)), (1, .int a1), (2, .int a2)]) hx hb dX1_trimmed_60 hl (by decide) rfl (fun ls hl => ?_)
                refine lv_iload_n hx hb dX1_trimmed_62 rfl (lv_at hl 3 rfl) ?_
                refine lv_iload hx hb dX1_trimmed_63 (lv_at hl 2 rfl) ?_
                refine lv_iload hx hb dX1_trimmed_65 (lv_at hl 0 rfl) ?_
                refine jcallS (As := [.int x3, .int x4, .int x28]) (rest := []) ⟨hx, hb, hml, hown, hts⟩ hK hP hA hS hZ (c_X0_withLeft_r l D cI cL ad zz hJ σ τ x3 (x3.toInt) rfl x4 (x4.toInt) rfl x28 (((A2 + 1) / 2)) tx28 (by omega) (by omega)) cw_RX1_129 ⟨Nat.le_of_ble_eq_true rfl, Nat.le_of_ble_eq_true rfl⟩ rfl rfl rfl hl.1 rfl (Nat.le_of_ble_eq_true rfl) dX1_trimmed_67 ⟨Nat.zero_le _, Nat.zero_le _⟩ (fun r73 σ72 τ72 H locs h72 hP hS => ?_)
                obtain ⟨⟨rfl, rfl⟩, w74, h72⟩ := h72
                have k75 := congrArg Int32.toInt w74
                have h76 := h72
                obtain ⟨q78, k77⟩ := h76
                refine lv_istore_n (lv' := [(3, .int r73), (5, .int x28), (6, .int x28), (4, .int x4), (0, .ref (ad 31)), (1, .int a1), (2, .int a2)]) hx hb dX1_trimmed_70 rfl hl (by decide) rfl (fun ls hl => ?_)
                refine lv_iload hx hb dX1_trimmed_71 (lv_at hl 1 rfl) ?_
                refine lv_if_ne (tgt := 84) hx hb dX1_trimmed_73 (by decide) (fun c79 => ?_) (fun c => absurd (jeq c tx28 jz_0) (by omega))
                have kc79 := jne c79 tx28 jz_0
                obtain ⟨x80, ex80⟩ : ∃ y : Int32, y = x4 + 1 := ⟨_, rfl⟩
                have tx80 : x80.toInt = x4.toInt + 1 := (jadd ex80 rfl jz_1 (by omega) (by omega)).trans (by omega)
                refine lv_iinc (v := x80) (lv' := [(4, .int x80), (3, .int r73), (5, .int x28), (6, .int x28), (0, .ref (ad 31)), (1, .int a1), (2, .int a2)]) hx hb dX1_trimmed_84 hl (k := 3) rfl (by rw [ex80]; rfl) (by decide) rfl (fun ls hl => ?_)
                refine lv_goto (tgt := 5) hx hb dX1_trimmed_87 (by decide) ?_
                exact ihlp1 r73 x80 _ _ ls (by have h91 := tx80; omega) (by have h91 := tx80; omega) (by have h91 := tx80; omega) (by have h91 := tx80; omega) (by have h91 := tx80; omega)   (jTh.stepi (l := r17) (m := x28) (v := x28) (w := 0) q14 rfl (by omega) (by omega) w18 (by unfold jla; omega) (by have h9 := tx28; omega) rfl (Or.inl ⟨by omega, by omega, rfl, Or.inr ⟨by omega, w74⟩⟩) (by have h9 := tx80; omega)) hP hS (lv_sub hl [0, 1, 4, 5, 6] rfl)
        · have kc26 := jeq c26 rfl rfl
          refine lv_iload_n hx hb dX1_trimmed_28 rfl (lv_at hl 5 rfl) ?_
          refine lv_goto (tgt := 35) hx hb dX1_trimmed_29 (by decide) ?_
          refine lv_iconst (v := 2) hx hb dX1_trimmed_35 (by decide) ?_
          refine lv_idiv hx hb dX1_trimmed_36 (by decide) ?_
          refine lv_topi (fun x81 ex81 => ?_)
          have tx81 : x81.toInt = (A2 / 2) := jdiv ex81 t2 jz_2 (by omega) (by omega)
          refine lv_istore (lv' := [(6, .int x81), (5, .int r17), (4, .int x4), (3, .int x3), (0, .ref (ad 31)), (1, .int a1), (2, .int a2)]) hx hb dX1_trimmed_37 hl (by decide) rfl (fun ls hl => ?_)
          refine lv_aload_n hx hb dX1_trimmed_39 rfl (lv_at hl 4 rfl) ?_
          refine va_get (D := D) hx hb hts inlX1 hown hK hP 31 (jc_31 cI cL ad σ τ) rfl 12 (by decide) (hts _ kw_28_8) (fun _ h9 => h9) rfl dX1_trimmed_40 ?_
          refine lv_if_eq (tgt := 51) hx hb dX1_trimmed_43 (by decide) (fun c82 => ?_) (fun c82 => ?_)
          · have kc82 := jeq c82 rfl jz_0
            refine lv_iload hx hb dX1_trimmed_51 (lv_at hl 1 rfl) ?_
            refine lv_iload hx hb dX1_trimmed_53 (lv_at hl 0 rfl) ?_
            refine lv_icmp_le (tgt := 71) hx hb dX1_trimmed_55 (by decide) (fun c83 => ?_) (fun c83 => ?_)
            · have kc83 := jle c83 rfl tx81
              refine lv_iload hx hb dX1_trimmed_71 (lv_at hl 1 rfl) ?_
              refine lv_if_ne (tgt := 84) hx hb dX1_trimmed_73 (by decide) (fun c84 => ?_) (fun c84 => ?_)
              · have kc84 := jne c84 rfl jz_0
                obtain ⟨x85, ex85⟩ : ∃ y : Int32, y = x4 + 1 := ⟨_, rfl⟩
                have tx85 : x85.toInt = x4.toInt + 1 := (jadd ex85 rfl jz_1 (by omega) (by omega)).trans (by omega)
                refine lv_iinc (v := x85) (lv' := [(4, .int x85), (6, .int x81), (5, .int r17), (3, .int x3), (0, .ref (ad 31)), (1, .int a1), (2, .int a2)]) hx hb dX1_trimmed_84 hl (k := 2) rfl (by rw [ex85]; rfl) (by decide) rfl (fun ls hl => ?_)
                refine lv_goto (tgt := 5) hx hb dX1_trimmed_87 (by decide) ?_
                exact ihlp1 x3 x85 _ _ ls (by have h91 := tx85; omega) (by have h91 := tx85; omega) (by have h91 := tx85; omega) (by have h91 := tx85; omega) (by have h91 := tx85; omega)   (jTh.stepi (l := r17) (m := x81) (v := x81) (w := 0) q14 rfl (by omega) (by omega) w18 (by unfold jla; omega) (by have h9 := tx81; omega) rfl (Or.inr ⟨by omega, Or.inr ⟨by omega, rfl⟩⟩) (by have h9 := tx85; omega)) hP hS (lv_sub hl [0, 3, 4, 5, 6] rfl)
              · have kc84 := jeq c84 rfl jz_0
                refine lv_iload_n hx hb dX1_trimmed_76 rfl (lv_at hl 3 rfl) ?_
                refine lv_iload hx hb dX1_trimmed_77 (lv_at hl 2 rfl) ?_
                refine lv_iconst (v := 0) hx hb dX1_trimmed_79 (by decide) ?_
                refine jcallS (As := [.int x3, .int x4, .int 0]) (rest := []) ⟨hx, hb, hml, hown, hts⟩ hK hP hA hS hZ (c_X0_withSteps_r l D cI cL ad zz hJ σ τ x3 (x3.toInt) rfl x4 (x4.toInt) rfl 0 (0) jz_0 (by omega) (by omega)) cw_RX1_133 ⟨Nat.le_of_ble_eq_true rfl, Nat.le_of_ble_eq_true rfl⟩ rfl rfl rfl hl.1 rfl (Nat.le_of_ble_eq_true rfl) dX1_trimmed_80 ⟨Nat.zero_le _, Nat.zero_le _⟩ (fun r87 σ86 τ86 H locs h86 hP hS => ?_)
                obtain ⟨⟨rfl, rfl⟩, w88, h86⟩ := h86
                have k89 := congrArg Int32.toInt w88
                have h90 := h86
                obtain ⟨q92, k91⟩ := h90
                refine lv_istore_n (lv' := [(3, .int r87), (6, .int x81), (5, .int r17), (4, .int x4), (0, .ref (ad 31)), (1, .int a1), (2, .int a2)]) hx hb dX1_trimmed_83 rfl hl (by decide) rfl (fun ls hl => ?_)
                obtain ⟨x93, ex93⟩ : ∃ y : Int32, y = x4 + 1 := ⟨_, rfl⟩
                have tx93 : x93.toInt = x4.toInt + 1 := (jadd ex93 rfl jz_1 (by omega) (by omega)).trans (by omega)
                refine lv_iinc (v := x93) (lv' := [(4, .int x93), (3, .int r87), (6, .int x81), (5, .int r17), (0, .ref (ad 31)), (1, .int a1), (2, .int a2)]) hx hb dX1_trimmed_84 hl (k := 3) rfl (by rw [ex93]; rfl) (by decide) rfl (fun ls hl => ?_)
                refine lv_goto (tgt := 5) hx hb dX1_trimmed_87 (by decide) ?_
                exact ihlp1 r87 x93 _ _ ls (by have h91 := tx93; omega) (by have h91 := tx93; omega) (by have h91 := tx93; omega) (by have h91 := tx93; omega) (by have h91 := tx93; omega)   (jTh.stepi (l := r17) (m := x81) (v := x81) (w := 0) q14 rfl (by omega) (by omega) w18 (by unfold jla; omega) (by have h9 := tx81; omega) rfl (Or.inr ⟨by omega, Or.inl ⟨by omega, w88⟩⟩) (by have h9 := tx93; omega)) hP hS (lv_sub hl [0, 1, 4, 5, 6] rfl)
            · have kc83 := jnle c83 rfl tx81
              refine lv_iload hx hb dX1_trimmed_58 (lv_at hl 0 rfl) ?_
              refine lv_istore (lv' := [(5, .int x81), (6, .int x81), (4, .int x4), (3, .int x3), (0, .ref (ad 31)), (1, .int a1), (2, .int a2)]) hx hb dX1_trimmed_60 hl (by decide) rfl (fun ls hl => ?_)
              refine lv_iload_n hx hb dX1_trimmed_62 rfl (lv_at hl 3 rfl) ?_
              refine lv_iload hx hb dX1_trimmed_63 (lv_at hl 2 rfl) ?_
              refine lv_iload hx hb dX1_trimmed_65 (lv_at hl 0 rfl) ?_
              refine jcallS (As := [.int x3, .int x4, .int x81]) (rest := []) ⟨hx, hb, hml, hown, hts⟩ hK hP hA hS hZ (c_X0_withLeft_r l D cI cL ad zz hJ σ τ x3 (x3.toInt) rfl x4 (x4.toInt) rfl x81 ((A2 / 2)) tx81 (by omega) (by omega)) cw_RX1_129 ⟨Nat.le_of_ble_eq_true rfl, Nat.le_of_ble_eq_true rfl⟩ rfl rfl rfl hl.1 rfl (Nat.le_of_ble_eq_true rfl) dX1_trimmed_67 ⟨Nat.zero_le _, Nat.zero_le _⟩ (fun r95 σ94 τ94 H locs h94 hP hS => ?_)
              obtain ⟨⟨rfl, rfl⟩, w96, h94⟩ := h94
              have k97 := congrArg Int32.toInt w96
              have h98 := h94
              obtain ⟨q100, k99⟩ := h98
              refine lv_istore_n (lv' := [(3, .int r95), (5, .int x81), (6, .int x81), (4, .int x4), (0, .ref (ad 31)), (1, .int a1), (2, .int a2)]) hx hb dX1_trimmed_70 rfl hl (by decide) rfl (fun ls hl => ?_)
              refine lv_iload hx hb dX1_trimmed_71 (lv_at hl 1 rfl) ?_
              refine lv_if_ne (tgt := 84) hx hb dX1_trimmed_73 (by decide) (fun c101 => ?_) (fun c101 => ?_)
              · have kc101 := jne c101 tx81 jz_0
                obtain ⟨x102, ex102⟩ : ∃ y : Int32, y = x4 + 1 := ⟨_, rfl⟩
                have tx102 : x102.toInt = x4.toInt + 1 := (jadd ex102 rfl jz_1 (by omega) (by omega)).trans (by omega)
                refine lv_iinc (v := x102) (lv' := [(4, .int x102), (3, .int r95), (5, .int x81), (6, .int x81), (0, .ref (ad 31)), (1, .int a1), (2, .int a2)]) hx hb dX1_trimmed_84 hl (k := 3) rfl (by rw [ex102]; rfl) (by decide) rfl (fun ls hl => ?_)
                refine lv_goto (tgt := 5) hx hb dX1_trimmed_87 (by decide) ?_
                exact ihlp1 r95 x102 _ _ ls (by have h91 := tx102; omega) (by have h91 := tx102; omega) (by have h91 := tx102; omega) (by have h91 := tx102; omega) (by have h91 := tx102; omega)   (jTh.stepi (l := r17) (m := x81) (v := x81) (w := 0) q14 rfl (by omega) (by omega) w18 (by unfold jla; omega) (by have h9 := tx81; omega) rfl (Or.inl ⟨by omega, by omega, rfl, Or.inr ⟨by omega, w96⟩⟩) (by have h9 := tx102; omega)) hP hS (lv_sub hl [0, 1, 4, 5, 6] rfl)
              · have kc101 := jeq c101 tx81 jz_0
                refine lv_iload_n hx hb dX1_trimmed_76 rfl (lv_at hl 0 rfl) ?_
                refine lv_iload hx hb dX1_trimmed_77 (lv_at hl 3 rfl) ?_
                refine lv_iconst (v := 0) hx hb dX1_trimmed_79 (by decide) ?_
                refine jcallS (As := [.int r95, .int x4, .int 0]) (rest := []) ⟨hx, hb, hml, hown, hts⟩ hK hP hA hS hZ (c_X0_withSteps_r l D cI cL ad zz hJ σ τ r95 (r95.toInt) rfl x4 (x4.toInt) rfl 0 (0) jz_0 (by omega) (by omega)) cw_RX1_133 ⟨Nat.le_of_ble_eq_true rfl, Nat.le_of_ble_eq_true rfl⟩ rfl rfl rfl hl.1 rfl (Nat.le_of_ble_eq_true rfl) dX1_trimmed_80 ⟨Nat.zero_le _, Nat.zero_le _⟩ (fun r104 σ103 τ103 H locs h103 hP hS => ?_)
                obtain ⟨⟨rfl, rfl⟩, w105, h103⟩ := h103
                have k106 := congrArg Int32.toInt w105
                have h107 := h103
                obtain ⟨q109, k108⟩ := h107
                refine lv_istore_n (lv' := [(3, .int r104), (5, .int x81), (6, .int x81), (4, .int x4), (0, .ref (ad 31)), (1, .int a1), (2, .int a2)]) hx hb dX1_trimmed_83 rfl hl (by decide) rfl (fun ls hl => ?_)
                obtain ⟨x110, ex110⟩ : ∃ y : Int32, y = x4 + 1 := ⟨_, rfl⟩
                have tx110 : x110.toInt = x4.toInt + 1 := (jadd ex110 rfl jz_1 (by omega) (by omega)).trans (by omega)
                refine lv_iinc (v := x110) (lv' := [(4, .int x110), (3, .int r104), (5, .int x81), (6, .int x81), (0, .ref (ad 31)), (1, .int a1), (2, .int a2)]) hx hb dX1_trimmed_84 hl (k := 3) rfl (by rw [ex110]; rfl) (by decide) rfl (fun ls hl => ?_)
                refine lv_goto (tgt := 5) hx hb dX1_trimmed_87 (by decide) ?_
                exact ihlp1 r104 x110 _ _ ls (by have h91 := tx110; omega) (by have h91 := tx110; omega) (by have h91 := tx110; omega) (by have h91 := tx110; omega) (by have h91 := tx110; omega)   (jTh.stepi (l := r17) (m := x81) (v := x81) (w := 0) q14 rfl (by omega) (by omega) w18 (by unfold jla; omega) (by have h9 := tx81; omega) rfl (Or.inl ⟨by omega, by omega, rfl, Or.inl ⟨by omega, by rw [w105, w96]⟩⟩) (by have h9 := tx110; omega)) hP hS (lv_sub hl [0, 1, 4, 5, 6] rfl)
          · have kc82 := jne c82 rfl jz_0
            refine lv_iload_n hx hb dX1_trimmed_46 rfl (lv_at hl 6 rfl) ?_
            refine lv_iconst (v := 1) hx hb dX1_trimmed_47 (by decide) ?_
            refine lv_icmp_gt (tgt := 71) hx hb dX1_trimmed_48 (by decide) (fun c111 => ?_) (fun c111 => ?_)
            · have kc111 := jlt c111 jz_1 t2
              refine lv_iload hx hb dX1_trimmed_71 (lv_at hl 1 rfl) ?_
              refine lv_if_ne (tgt := 84) hx hb dX1_trimmed_73 (by decide) (fun c112 => ?_) (fun c112 => ?_)
              · have kc112 := jne c112 rfl jz_0
                obtain ⟨x113, ex113⟩ : ∃ y : Int32, y = x4 + 1 := ⟨_, rfl⟩
                have tx113 : x113.toInt = x4.toInt + 1 := (jadd ex113 rfl jz_1 (by omega) (by omega)).trans (by omega)
                refine lv_iinc (v := x113) (lv' := [(4, .int x113), (6, .int x81), (5, .int r17), (3, .int x3), (0, .ref (ad 31)), (1, .int a1), (2, .int a2)]) hx hb dX1_trimmed_84 hl (k := 2) rfl (by rw [ex113]; rfl) (by decide) rfl (fun ls hl => ?_)
                refine lv_goto (tgt := 5) hx hb dX1_trimmed_87 (by decide) ?_
                exact ihlp1 x3 x113 _ _ ls (by have h91 := tx113; omega) (by have h91 := tx113; omega) (by have h91 := tx113; omega) (by have h91 := tx113; omega) (by have h91 := tx113; omega)   (jTh.stepi (l := r17) (m := x81) (v := x81) (w := 0) q14 rfl (by omega) (by omega) w18 (by unfold jla; omega) (by have h9 := tx81; omega) rfl (Or.inr ⟨by omega, Or.inr ⟨by omega, rfl⟩⟩) (by have h9 := tx113; omega)) hP hS (lv_sub hl [0, 3, 4, 5, 6] rfl)
              · have kc112 := jeq c112 rfl jz_0
                refine lv_iload_n hx hb dX1_trimmed_76 rfl (lv_at hl 3 rfl) ?_
                refine lv_iload hx hb dX1_trimmed_77 (lv_at hl 2 rfl) ?_
                refine lv_iconst (v := 0) hx hb dX1_trimmed_79 (by decide) ?_
                refine jcallS (As := [.int x3, .int x4, .int 0]) (rest := []) ⟨hx, hb, hml, hown, hts⟩ hK hP hA hS hZ (c_X0_withSteps_r l D cI cL ad zz hJ σ τ x3 (x3.toInt) rfl x4 (x4.toInt) rfl 0 (0) jz_0 (by omega) (by omega)) cw_RX1_133 ⟨Nat.le_of_ble_eq_true rfl, Nat.le_of_ble_eq_true rfl⟩ rfl rfl rfl hl.1 rfl (Nat.le_of_ble_eq_true rfl) dX1_trimmed_80 ⟨Nat.zero_le _, Nat.zero_le _⟩ (fun r115 σ114 τ114 H locs h114 hP hS => ?_)
                obtain ⟨⟨rfl, rfl⟩, w116, h114⟩ := h114
                have k117 := congrArg Int32.toInt w116
                have h118 := h114
                obtain ⟨q120, k119⟩ := h118
                refine lv_istore_n (lv' := [(3, .int r115), (6, .int x81), (5, .int r17), (4, .int x4), (0, .ref (ad 31)), (1, .int a1), (2, .int a2)]) hx hb dX1_trimmed_83 rfl hl (by decide) rfl (fun ls hl => ?_)
                obtain ⟨x121, ex121⟩ : ∃ y : Int32, y = x4 + 1 := ⟨_, rfl⟩
                have tx121 : x121.toInt = x4.toInt + 1 := (jadd ex121 rfl jz_1 (by omega) (by omega)).trans (by omega)
                refine lv_iinc (v := x121) (lv' := [(4, .int x121), (3, .int r115), (6, .int x81), (5, .int r17), (0, .ref (ad 31)), (1, .int a1), (2, .int a2)]) hx hb dX1_trimmed_84 hl (k := 3) rfl (by rw [ex121]; rfl) (by decide) rfl (fun ls hl => ?_)
                refine lv_goto (tgt := 5) hx hb dX1_trimmed_87 (by decide) ?_
                exact ihlp1 r115 x121 _ _ ls (by have h91 := tx121; omega) (by have h91 := tx121; omega) (by have h91 := tx121; omega) (by have h91 := tx121; omega) (by have h91 := tx121; omega)   (jTh.stepi (l := r17) (m := x81) (v := x81) (w := 0) q14 rfl (by omega) (by omega) w18 (by unfold jla; omega) (by have h9 := tx81; omega) rfl (Or.inr ⟨by omega, Or.inl ⟨by omega, w116⟩⟩) (by have h9 := tx121; omega)) hP hS (lv_sub hl [0, 1, 4, 5, 6] rfl)
            · have kc111 := jnlt c111 jz_1 t2
              refine lv_iload hx hb dX1_trimmed_51 (lv_at hl 1 rfl) ?_
              refine lv_iload hx hb dX1_trimmed_53 (lv_at hl 0 rfl) ?_
              refine lv_icmp_le (tgt := 71) hx hb dX1_trimmed_55 (by decide) (fun c122 => ?_) (fun c122 => ?_)
              · have kc122 := jle c122 rfl tx81
                refine lv_iload hx hb dX1_trimmed_71 (lv_at hl 1 rfl) ?_
                refine lv_if_ne (tgt := 84) hx hb dX1_trimmed_73 (by decide) (fun c => absurd (jne c rfl jz_0) (by omega)) (fun c123 => ?_)
                have kc123 := jeq c123 rfl jz_0
                refine lv_iload_n hx hb dX1_trimmed_76 rfl (lv_at hl 3 rfl) ?_
                refine lv_iload hx hb dX1_trimmed_77 (lv_at hl 2 rfl) ?_
                refine lv_iconst (v := 0) hx hb dX1_trimmed_79 (by decide) ?_
                refine jcallS (As := [.int x3, .int x4, .int 0]) (rest := []) ⟨hx, hb, hml, hown, hts⟩ hK hP hA hS hZ (c_X0_withSteps_r l D cI cL ad zz hJ σ τ x3 (x3.toInt) rfl x4 (x4.toInt) rfl 0 (0) jz_0 (by omega) (by omega)) cw_RX1_133 ⟨Nat.le_of_ble_eq_true rfl, Nat.le_of_ble_eq_true rfl⟩ rfl rfl rfl hl.1 rfl (Nat.le_of_ble_eq_true rfl) dX1_trimmed_80 ⟨Nat.zero_le _, Nat.zero_le _⟩ (fun r125 σ124 τ124 H locs h124 hP hS => ?_)
                obtain ⟨⟨rfl, rfl⟩, w126, h124⟩ := h124
                have k127 := congrArg Int32.toInt w126
                have h128 := h124
                obtain ⟨q130, k129⟩ := h128
                refine lv_istore_n (lv' := [(3, .int r125), (6, .int x81), (5, .int r17), (4, .int x4), (0, .ref (ad 31)), (1, .int a1), (2, .int a2)]) hx hb dX1_trimmed_83 rfl hl (by decide) rfl (fun ls hl => ?_)
                obtain ⟨x131, ex131⟩ : ∃ y : Int32, y = x4 + 1 := ⟨_, rfl⟩
                have tx131 : x131.toInt = x4.toInt + 1 := (jadd ex131 rfl jz_1 (by omega) (by omega)).trans (by omega)
                refine lv_iinc (v := x131) (lv' := [(4, .int x131), (3, .int r125), (6, .int x81), (5, .int r17), (0, .ref (ad 31)), (1, .int a1), (2, .int a2)]) hx hb dX1_trimmed_84 hl (k := 3) rfl (by rw [ex131]; rfl) (by decide) rfl (fun ls hl => ?_)
                refine lv_goto (tgt := 5) hx hb dX1_trimmed_87 (by decide) ?_
                exact ihlp1 r125 x131 _ _ ls (by have h91 := tx131; omega) (by have h91 := tx131; omega) (by have h91 := tx131; omega) (by have h91 := tx131; omega) (by have h91 := tx131; omega)   (jTh.stepi (l := r17) (m := x81) (v := x81) (w := 0) q14 rfl (by omega) (by omega) w18 (by unfold jla; omega) (by have h9 := tx81; omega) rfl (Or.inr ⟨by omega, Or.inl ⟨by omega, w126⟩⟩) (by have h9 := tx131; omega)) hP hS (lv_sub hl [0, 1, 4, 5, 6] rfl)
              · have kc122 := jnle c122 rfl tx81
                refine lv_iload hx hb dX1_trimmed_58 (lv_at hl 0 rfl) ?_
                refine lv_istore (lv' := [(5, .int x81), (6, .int x81), (4, .int x4), (3, .int x3), (0, .ref (ad 31)), (1, .int a1), (2, .int a2)]) hx hb dX1_trimmed_60 hl (by decide) rfl (fun ls hl => ?_)
                refine lv_iload_n hx hb dX1_trimmed_62 rfl (lv_at hl 3 rfl) ?_
                refine lv_iload hx hb dX1_trimmed_63 (lv_at hl 2 rfl) ?_
                refine lv_iload hx hb dX1_trimmed_65 (lv_at hl 0 rfl) ?_
                refine jcallS (As := [.int x3, .int x4, .int x81]) (rest := []) ⟨hx, hb, hml, hown, hts⟩ hK hP hA hS hZ (c_X0_withLeft_r l D cI cL ad zz hJ σ τ x3 (x3.toInt) rfl x4 (x4.toInt) rfl x81 ((A2 / 2)) tx81 (by omega) (by omega)) cw_RX1_129 ⟨Nat.le_of_ble_eq_true rfl, Nat.le_of_ble_eq_true rfl⟩ rfl rfl rfl hl.1 rfl (Nat.le_of_ble_eq_true rfl) dX1_trimmed_67 ⟨Nat.zero_le _, Nat.zero_le _⟩ (fun r133 σ132 τ132 H locs h132 hP hS => ?_)
                obtain ⟨⟨rfl, rfl⟩, w134, h132⟩ := h132
                have k135 := congrArg Int32.toInt w134
                have h136 := h132
                obtain ⟨q138, k137⟩ := h136
                refine lv_istore_n (lv' := [(3, .int r133), (5, .int x81), (6, .int x81), (4, .int x4), (0, .ref (ad 31)), (1, .int a1), (2, .int a2)]) hx hb dX1_trimmed_70 rfl hl (by decide) rfl (fun ls hl => ?_)
                refine lv_iload hx hb dX1_trimmed_71 (lv_at hl 1 rfl) ?_
                refine lv_if_ne (tgt := 84) hx hb dX1_trimmed_73 (by decide) (fun c => absurd (jne c tx81 jz_0) (by omega)) (fun c139 => ?_)
                have kc139 := jeq c139 tx81 jz_0
                refine lv_iload_n hx hb dX1_trimmed_76 rfl (lv_at hl 0 rfl) ?_
                refine lv_iload hx hb dX1_trimmed_77 (lv_at hl 3 rfl) ?_
                refine lv_iconst (v := 0) hx hb dX1_trimmed_79 (by decide) ?_
                refine jcallS (As := [.int r133, .int x4, .int 0]) (rest := []) ⟨hx, hb, hml, hown, hts⟩ hK hP hA hS hZ (c_X0_withSteps_r l D cI cL ad zz hJ σ τ r133 (r133.toInt) rfl x4 (x4.toInt) rfl 0 (0) jz_0 (by omega) (by omega)) cw_RX1_133 ⟨Nat.le_of_ble_eq_true rfl, Nat.le_of_ble_eq_true rfl⟩ rfl rfl rfl hl.1 rfl (Nat.le_of_ble_eq_true rfl) dX1_trimmed_80 ⟨Nat.zero_le _, Nat.zero_le _⟩ (fun r141 σ140 τ140 H locs h140 hP hS => ?_)
                obtain ⟨⟨rfl, rfl⟩, w142, h140⟩ := h140
                have k143 := congrArg Int32.toInt w142
                have h144 := h140
                obtain ⟨q146, k145⟩ := h144
                refine lv_istore_n (lv' := [(3, .int r141), (5, .int x81), (6, .int x81), (4, .int x4), (0, .ref (ad 31)), (1, .int a1), (2, .int a2)]) hx hb dX1_trimmed_83 rfl hl (by decide) rfl (fun ls hl => ?_)
                obtain ⟨x147, ex147⟩ : ∃ y : Int32, y = x4 + 1 := ⟨_, rfl⟩
                have tx147 : x147.toInt = x4.toInt + 1 := (jadd ex147 rfl jz_1 (by omega) (by omega)).trans (by omega)
                refine lv_iinc (v := x147) (lv' := [(4, .int x147), (3, .int r141), (5, .int x81), (6, .int x81), (0, .ref (ad 31)), (1, .int a1), (2, .int a2)]) hx hb dX1_trimmed_84 hl (k := 3) rfl (by rw [ex147]; rfl) (by decide) rfl (fun ls hl => ?_)
                refine lv_goto (tgt := 5) hx hb dX1_trimmed_87 (by decide) ?_
                exact ihlp1 r141 x147 _ _ ls (by have h91 := tx147; omega) (by have h91 := tx147; omega) (by have h91 := tx147; omega) (by have h91 := tx147; omega) (by have h91 := tx147; omega)   (jTh.stepi (l := r17) (m := x81) (v := x81) (w := 0) q14 rfl (by omega) (by omega) w18 (by unfold jla; omega) (by have h9 := tx81; omega) rfl (Or.inl ⟨by omega, by omega, rfl, Or.inl ⟨by omega, by rw [w142, w134]⟩⟩) (by have h9 := tx147; omega)) hP hS (lv_sub hl [0, 1, 4, 5, 6] rfl)
  exact lp1 1000000 a1 0 _ _ ls (by have h90 := t1; have h91 := jz_0; omega) (by have h90 := t1; have h91 := jz_0; omega) (by have h90 := t1; have h91 := jz_0; omega) (by have h90 := t1; have h91 := jz_0; omega) (by have h90 := t1; have h91 := jz_0; omega)  (jTh.first rfl (by have h9 := jz_0; omega)) hP hS hl
set_option maxHeartbeats 4000000 in
set_option maxRecDepth 100000 in
theorem c_X1_trimmed_31 (l : Launch) (D : va_G) (cI cL : ClassId) (ad zz : Nat → Nat) (hJ : jD ad) (σ : Nat → Nat → Int32) (τ : Nat → Nat → Int64) (a1 : Int32) (A1 : Int) (t1 : a1.toInt = A1) (a2 : Int32) (A2 : Int) (t2 : a2.toInt = A2) : jM l yX1_trimmed cX1_trimmed 7 (some .int) ({ frames := 1, cells := 0, slots := 0, locals := 23 }) D cI cL ad zz [.ref (ad 31), .int a1, .int a2] σ τ (fun r σ' τ' => (σ = σ' ∧ τ = τ') ∧ True) := by
  refine jM.of hJ (by decide +kernel) (nt := .int) rfl (Nat.le_of_ble_eq_true rfl) ?_
  intro p e s m args below meth c Q ls hC hret hl hP
  obtain ⟨hx, hb, hr, hml, hown, hts, hK, -, hlocks, hZ⟩ := hC
  have hown : s.vm.findClass RX1 = some m.cls := hown
  have hS : va_S (jA ad) s.heap s.heap [] := va_S.rf
  have hA : ∀ q, jA ad q → jA ad q := fun _ h => h
  have hl : lv_has ls 7 [(0, .ref (ad 31)), (1, .int a1), (2, .int a2)] := hl
  have g1 := jrg t1
  have g2 := jrg t2
  refine lv_iload_n hx hb dX1_trimmed_0 rfl (lv_at hl 1 rfl) ?_
  refine lv_istore_n (lv' := [(3, .int a1), (0, .ref (ad 31)), (1, .int a1), (2, .int a2)]) hx hb dX1_trimmed_1 rfl hl (by decide) rfl (fun ls hl => ?_)
  refine lv_iconst (v := 0) hx hb dX1_trimmed_2 (by decide) ?_
  refine lv_istore (lv' := [(4, .int 0), (3, .int a1), (0, .ref (ad 31)), (1, .int a1), (2, .int a2)]) hx hb dX1_trimmed_3 hl (by decide) rfl (fun ls hl => ?_)
  have lp1 : ∀ (n2 : Nat) (x3 : Int32) (x4 : Int32) (H : Heap) (locs : List Loc) (ls : Array Slot), (-x4.toInt + 4 : Int) < n2 → 0 ≤ x4.toInt → x4.toInt ≤ 4 → jH D cI cL ad σ τ H → va_S (jA ad) s.heap H locs → lv_has ls 7 [(4, .int x4), (3, .int x3), (0, .ref (ad 31)), (1, .int a1), (2, .int a2)] → W p l e ({ frames := 1, cells := 0, slots := 0, locals := 23 }) s m args below meth c H locs 0 0 Q (F0 m 5 ls []) := by
    intro n2
    induction n2 with
    | zero => intro x3 x4 H locs ls h8 h9 h10; have gx3 := jrg (rfl : x3.toInt = x3.toInt); exact absurd h8 (by omega)
    | succ n2 ihlp1 =>
      intro x3 x4 H locs ls h8 h9 h10 hP hS hl
      have gx3 := jrg (rfl : x3.toInt = x3.toInt)
      refine lv_iload hx hb dX1_trimmed_5 (lv_at hl 0 rfl) ?_
      refine lv_iconst (v := 4) hx hb dX1_trimmed_7 (by decide) ?_
      refine lv_icmp_ge (tgt := 90) hx hb dX1_trimmed_8 (by decide) (fun c12 => ?_) (fun c12 => ?_)
      · have kc12 := jle c12 jz_4 rfl
        refine lv_iload_n hx hb dX1_trimmed_90 rfl (lv_at hl 1 rfl) ?_
        exact hret x3 σ τ _ _ _ _ rfl ⟨⟨rfl, rfl⟩, trivial⟩ hP hS dX1_trimmed_91
      · have kc12 := jnle c12 jz_4 rfl
        refine lv_iload_n hx hb dX1_trimmed_11 rfl (lv_at hl 3 rfl) ?_
        refine lv_iload hx hb dX1_trimmed_12 (lv_at hl 0 rfl) ?_
        refine jcallS (As := [.int a1, .int x4]) (rest := []) ⟨hx, hb, hml, hown, hts⟩ hK hP hA hS hZ (c_X0_left l D cI cL ad zz hJ σ τ a1 (A1) t1 x4 (x4.toInt) rfl) cw_RX1_123 ⟨Nat.le_of_ble_eq_true rfl, Nat.le_of_ble_eq_true rfl⟩ rfl rfl rfl hl.1 rfl (Nat.le_of_ble_eq_true rfl) dX1_trimmed_14 ⟨Nat.zero_le _, Nat.zero_le _⟩ (fun r14 σ13 τ13 H locs h13 hP hS => ?_)
        obtain ⟨⟨rfl, rfl⟩, w15, h13⟩ := h13
        have k16 := congrArg Int32.toInt w15
        have h17 := h13
        obtain ⟨q19, k18⟩ := h17
        refine lv_istore (lv' := [(5, .int r14), (4, .int x4), (3, .int x3), (0, .ref (ad 31)), (1, .int a1), (2, .int a2)]) hx hb dX1_trimmed_17 hl (by decide) rfl (fun ls hl => ?_)
        refine lv_iload_n hx hb dX1_trimmed_19 rfl (lv_at hl 4 rfl) ?_
        refine jcallS (As := [.int a1]) (rest := []) ⟨hx, hb, hml, hown, hts⟩ hK hP hA hS hZ (c_X0_last l D cI cL ad zz hJ σ τ a1 (A1) t1) cw_RX1_126 ⟨Nat.le_of_ble_eq_true rfl, Nat.le_of_ble_eq_true rfl⟩ rfl rfl rfl hl.1 rfl (Nat.le_of_ble_eq_true rfl) dX1_trimmed_20 ⟨Nat.zero_le _, Nat.zero_le _⟩ (fun r21 σ20 τ20 H locs h20 hP hS => ?_)
        obtain ⟨⟨rfl, rfl⟩, w22, h20⟩ := h20
        refine lv_iload hx hb dX1_trimmed_23 (lv_at hl 1 rfl) ?_
        refine lv_icmp_ne (tgt := 32) hx hb dX1_trimmed_25 (by decide) (fun c23 => ?_) (fun c23 => ?_)
        · have kc23 := jne c23 rfl rfl
          refine lv_iload_n hx hb dX1_trimmed_32 rfl (lv_at hl 5 rfl) ?_
          refine lv_iconst (v := 1) hx hb dX1_trimmed_33 (by decide) ?_
          refine lv_iadd hx hb dX1_trimmed_34 ?_
          refine lv_topi (fun x24 ex24 => ?_)
          have gx24 := jrg (rfl : x24.toInt = x24.toInt)
          refine lv_iconst (v := 2) hx hb dX1_trimmed_35 (by decide) ?_
          refine lv_idiv hx hb dX1_trimmed_36 (by decide) ?_
          refine lv_topi (fun x25 ex25 => ?_)
          have gx25 := jrg (rfl : x25.toInt = x25.toInt)
          refine lv_istore (lv' := [(6, .int x25), (5, .int r14), (4, .int x4), (3, .int x3), (0, .ref (ad 31)), (1, .int a1), (2, .int a2)]) hx hb dX1_trimmed_37 hl (by decide) rfl (fun ls hl => ?_)
          refine lv_aload_n hx hb dX1_trimmed_39 rfl (lv_at hl 4 rfl) ?_
          refine va_get (D := D) hx hb hts inlX1 hown hK hP 31 (jc_31 cI cL ad σ τ) rfl 12 (by decide) (hts _ kw_28_8) (fun _ h9 => h9) rfl dX1_trimmed_40 ?_
          refine lv_if_eq (tgt := 51) hx hb dX1_trimmed_43 (by decide) (fun c26 => ?_) (fun c26 => ?_)
          · have kc26 := jeq c26 rfl jz_0
            refine lv_iload hx hb dX1_trimmed_51 (lv_at hl 1 rfl) ?_
            refine lv_iload hx hb dX1_trimmed_53 (lv_at hl 0 rfl) ?_
            refine lv_icmp_le (tgt := 71) hx hb dX1_trimmed_55 (by decide) (fun c27 => ?_) (fun c27 => ?_)
            · have kc27 := jle c27 rfl rfl
              refine lv_iload hx hb dX1_trimmed_71 (lv_at hl 1 rfl) ?_
              refine lv_if_ne (tgt := 84) hx hb dX1_trimmed_73 (by decide) (fun c28 => ?_) (fun c28 => ?_)
              · have kc28 := jne c28 rfl jz_0
                obtain ⟨x29, ex29⟩ : ∃ y : Int32, y = x4 + 1 := ⟨_, rfl⟩
                have tx29 : x29.toInt = x4.toInt + 1 := (jadd ex29 rfl jz_1 (by omega) (by omega)).trans (by omega)
                refine lv_iinc (v := x29) (lv' := [(4, .int x29), (6, .int x25), (5, .int r14), (3, .int x3), (0, .ref (ad 31)), (1, .int a1), (2, .int a2)]) hx hb dX1_trimmed_84 hl (k := 2) rfl (by rw [ex29]; rfl) (by decide) rfl (fun ls hl => ?_)
                refine lv_goto (tgt := 5) hx hb dX1_trimmed_87 (by decide) ?_
                exact ihlp1 x3 x29 _ _ ls (by have h91 := tx29; omega) (by have h91 := tx29; omega) (by have h91 := tx29; omega)    hP hS (lv_sub hl [0, 3, 4, 5, 6] rfl)
              · have kc28 := jeq c28 rfl jz_0
                refine lv_iload_n hx hb dX1_trimmed_76 rfl (lv_at hl 3 rfl) ?_
                refine lv_iload hx hb dX1_trimmed_77 (lv_at hl 2 rfl) ?_
                refine lv_iconst (v := 0) hx hb dX1_trimmed_79 (by decide) ?_
                refine jcallS (As := [.int x3, .int x4, .int 0]) (rest := []) ⟨hx, hb, hml, hown, hts⟩ hK hP hA hS hZ (c_X0_withSteps l D cI cL ad zz hJ σ τ x3 (x3.toInt) rfl x4 (x4.toInt) rfl 0 (0) jz_0) cw_RX1_133 ⟨Nat.le_of_ble_eq_true rfl, Nat.le_of_ble_eq_true rfl⟩ rfl rfl rfl hl.1 rfl (Nat.le_of_ble_eq_true rfl) dX1_trimmed_80 ⟨Nat.zero_le _, Nat.zero_le _⟩ (fun r31 σ30 τ30 H locs h30 hP hS => ?_)
                obtain ⟨⟨rfl, rfl⟩, w32, h30⟩ := h30
                have k33 := congrArg Int32.toInt w32
                refine lv_istore_n (lv' := [(3, .int r31), (6, .int x25), (5, .int r14), (4, .int x4), (0, .ref (ad 31)), (1, .int a1), (2, .int a2)]) hx hb dX1_trimmed_83 rfl hl (by decide) rfl (fun ls hl => ?_)
                obtain ⟨x34, ex34⟩ : ∃ y : Int32, y = x4 + 1 := ⟨_, rfl⟩
                have tx34 : x34.toInt = x4.toInt + 1 := (jadd ex34 rfl jz_1 (by omega) (by omega)).trans (by omega)
                refine lv_iinc (v := x34) (lv' := [(4, .int x34), (3, .int r31), (6, .int x25), (5, .int r14), (0, .ref (ad 31)), (1, .int a1), (2, .int a2)]) hx hb dX1_trimmed_84 hl (k := 3) rfl (by rw [ex34]; rfl) (by decide) rfl (fun ls hl => ?_)
                refine lv_goto (tgt := 5) hx hb dX1_trimmed_87 (by decide) ?_
                exact ihlp1 r31 x34 _ _ ls (by have h91 := tx34; omega) (by have h91 := tx34; omega) (by have h91 := tx34; omega)    hP hS (lv_sub hl [0, 1, 4, 5, 6] rfl)
            · have kc27 := jnle c27 rfl rfl
              refine lv_iload hx hb dX1_trimmed_58 (lv_at hl 0 rfl) ?_
              refine lv_istore (lv' := [(5, .int x25), (6, .int x25), (4, .int x4), (3, .int x3), (0, .ref (ad 31)), (1, .int a1), (2, .int a2)]) hx hb dX1_trimmed_60 hl (by decide) rfl (fun ls hl => ?_)
              refine lv_iload_n hx hb dX1_trimmed_62 rfl (lv_at hl 3 rfl) ?_
              refine lv_iload hx hb dX1_trimmed_63 (lv_at hl 2 rfl) ?_
              refine lv_iload hx hb dX1_trimmed_65 (lv_at hl 0 rfl) ?_
              refine jcallS (As := [.int x3, .int x4, .int x25]) (rest := []) ⟨hx, hb, hml, hown, hts⟩ hK hP hA hS hZ (c_X0_withLeft l D cI cL ad zz hJ σ τ x3 (x3.toInt) rfl x4 (x4.toInt) rfl x25 (x25.toInt) rfl) cw_RX1_129 ⟨Nat.le_of_ble_eq_true rfl, Nat.le_of_ble_eq_true rfl⟩ rfl rfl rfl hl.1 rfl (Nat.le_of_ble_eq_true rfl) dX1_trimmed_67 ⟨Nat.zero_le _, Nat.zero_le _⟩ (fun r36 σ35 τ35 H locs h35 hP hS => ?_)
              obtain ⟨⟨rfl, rfl⟩, w37, h35⟩ := h35
              have k38 := congrArg Int32.toInt w37
              refine lv_istore_n (lv' := [(3, .int r36), (5, .int x25), (6, .int x25), (4, .int x4), (0, .ref (ad 31)), (1, .int a1), (2, .int a2)]) hx hb dX1_trimmed_70 rfl hl (by decide) rfl (fun ls hl => ?_)
              refine lv_iload hx hb dX1_trimmed_71 (lv_at hl 1 rfl) ?_
              refine lv_if_ne (tgt := 84) hx hb dX1_trimmed_73 (by decide) (fun c39 => ?_) (fun c39 => ?_)
              · have kc39 := jne c39 rfl jz_0
                obtain ⟨x40, ex40⟩ : ∃ y : Int32, y = x4 + 1 := ⟨_, rfl⟩
                have tx40 : x40.toInt = x4.toInt + 1 := (jadd ex40 rfl jz_1 (by omega) (by omega)).trans (by omega)
                refine lv_iinc (v := x40) (lv' := [(4, .int x40), (3, .int r36), (5, .int x25), (6, .int x25), (0, .ref (ad 31)), (1, .int a1), (2, .int a2)]) hx hb dX1_trimmed_84 hl (k := 3) rfl (by rw [ex40]; rfl) (by decide) rfl (fun ls hl => ?_)
                refine lv_goto (tgt := 5) hx hb dX1_trimmed_87 (by decide) ?_
                exact ihlp1 r36 x40 _ _ ls (by have h91 := tx40; omega) (by have h91 := tx40; omega) (by have h91 := tx40; omega)    hP hS (lv_sub hl [0, 1, 4, 5, 6] rfl)
              · have kc39 := jeq c39 rfl jz_0
                refine lv_iload_n hx hb dX1_trimmed_76 rfl (lv_at hl 0 rfl) ?_
                refine lv_iload hx hb dX1_trimmed_77 (lv_at hl 3 rfl) ?_
                refine lv_iconst (v := 0) hx hb dX1_trimmed_79 (by decide) ?_
                refine jcallS (As := [.int r36, .int x4, .int 0]) (rest := []) ⟨hx, hb, hml, hown, hts⟩ hK hP hA hS hZ (c_X0_withSteps l D cI cL ad zz hJ σ τ r36 (r36.toInt) rfl x4 (x4.toInt) rfl 0 (0) jz_0) cw_RX1_133 ⟨Nat.le_of_ble_eq_true rfl, Nat.le_of_ble_eq_true rfl⟩ rfl rfl rfl hl.1 rfl (Nat.le_of_ble_eq_true rfl) dX1_trimmed_80 ⟨Nat.zero_le _, Nat.zero_le _⟩ (fun r42 σ41 τ41 H locs h41 hP hS => ?_)
                obtain ⟨⟨rfl, rfl⟩, w43, h41⟩ := h41
                have k44 := congrArg Int32.toInt w43
                refine lv_istore_n (lv' := [(3, .int r42), (5, .int x25), (6, .int x25), (4, .int x4), (0, .ref (ad 31)), (1, .int a1), (2, .int a2)]) hx hb dX1_trimmed_83 rfl hl (by decide) rfl (fun ls hl => ?_)
                obtain ⟨x45, ex45⟩ : ∃ y : Int32, y = x4 + 1 := ⟨_, rfl⟩
                have tx45 : x45.toInt = x4.toInt + 1 := (jadd ex45 rfl jz_1 (by omega) (by omega)).trans (by omega)
                refine lv_iinc (v := x45) (lv' := [(4, .int x45), (3, .int r42), (5, .int x25), (6, .int x25), (0, .ref (ad 31)), (1, .int a1), (2, .int a2)]) hx hb dX1_trimmed_84 hl (k := 3) rfl (by rw [ex45]; rfl) (by decide) rfl (fun ls hl => ?_)
                refine lv_goto (tgt := 5) hx hb dX1_trimmed_87 (by decide) ?_
                exact ihlp1 r42 x45 _ _ ls (by have h91 := tx45; omega) (by have h91 := tx45; omega) (by have h91 := tx45; omega)    hP hS (lv_sub hl [0, 1, 4, 5, 6] rfl)
          · have kc26 := jne c26 rfl jz_0
            refine lv_iload_n hx hb dX1_trimmed_46 rfl (lv_at hl 6 rfl) ?_
            refine lv_iconst (v := 1) hx hb dX1_trimmed_47 (by decide) ?_
            refine lv_icmp_gt (tgt := 71) hx hb dX1_trimmed_48 (by decide) (fun c46 => ?_) (fun c46 => ?_)
            · have kc46 := jlt c46 jz_1 t2
              refine lv_iload hx hb dX1_trimmed_71 (lv_at hl 1 rfl) ?_
              refine lv_if_ne (tgt := 84) hx hb dX1_trimmed_73 (by decide) (fun c47 => ?_) (fun c47 => ?_)
              · have kc47 := jne c47 rfl jz_0
                obtain ⟨x48, ex48⟩ : ∃ y : Int32, y = x4 + 1 := ⟨_, rfl⟩
                have tx48 : x48.toInt = x4.toInt + 1 := (jadd ex48 rfl jz_1 (by omega) (by omega)).trans (by omega)
                refine lv_iinc (v := x48) (lv' := [(4, .int x48), (6, .int x25), (5, .int r14), (3, .int x3), (0, .ref (ad 31)), (1, .int a1), (2, .int a2)]) hx hb dX1_trimmed_84 hl (k := 2) rfl (by rw [ex48]; rfl) (by decide) rfl (fun ls hl => ?_)
                refine lv_goto (tgt := 5) hx hb dX1_trimmed_87 (by decide) ?_
                exact ihlp1 x3 x48 _ _ ls (by have h91 := tx48; omega) (by have h91 := tx48; omega) (by have h91 := tx48; omega)    hP hS (lv_sub hl [0, 3, 4, 5, 6] rfl)
              · have kc47 := jeq c47 rfl jz_0
                refine lv_iload_n hx hb dX1_trimmed_76 rfl (lv_at hl 3 rfl) ?_
                refine lv_iload hx hb dX1_trimmed_77 (lv_at hl 2 rfl) ?_
                refine lv_iconst (v := 0) hx hb dX1_trimmed_79 (by decide) ?_
                refine jcallS (As := [.int x3, .int x4, .int 0]) (rest := []) ⟨hx, hb, hml, hown, hts⟩ hK hP hA hS hZ (c_X0_withSteps l D cI cL ad zz hJ σ τ x3 (x3.toInt) rfl x4 (x4.toInt) rfl 0 (0) jz_0) cw_RX1_133 ⟨Nat.le_of_ble_eq_true rfl, Nat.le_of_ble_eq_true rfl⟩ rfl rfl rfl hl.1 rfl (Nat.le_of_ble_eq_true rfl) dX1_trimmed_80 ⟨Nat.zero_le _, Nat.zero_le _⟩ (fun r50 σ49 τ49 H locs h49 hP hS => ?_)
                obtain ⟨⟨rfl, rfl⟩, w51, h49⟩ := h49
                have k52 := congrArg Int32.toInt w51
                refine lv_istore_n (lv' := [(3, .int r50), (6, .int x25), (5, .int r14), (4, .int x4), (0, .ref (ad 31)), (1, .int a1), (2, .int a2)]) hx hb dX1_trimmed_83 rfl hl (by decide) rfl (fun ls hl => ?_)
                obtain ⟨x53, ex53⟩ : ∃ y : Int32, y = x4 + 1 := ⟨_, rfl⟩
                have tx53 : x53.toInt = x4.toInt + 1 := (jadd ex53 rfl jz_1 (by omega) (by omega)).trans (by omega)
                refine lv_iinc (v := x53) (lv' := [(4, .int x53), (3, .int r50), (6, .int x25), (5, .int r14), (0, .ref (ad 31)), (1, .int a1), (2, .int a2)]) hx hb dX1_trimmed_84 hl (k := 3) rfl (by rw [ex53]; rfl) (by decide) rfl (fun ls hl => ?_)
                refine lv_goto (tgt := 5) hx hb dX1_trimmed_87 (by decide) ?_
                exact ihlp1 r50 x53 _ _ ls (by have h91 := tx53; omega) (by have h91 := tx53; omega) (by have h91 := tx53; omega)    hP hS (lv_sub hl [0, 1, 4, 5, 6] rfl)
            · have kc46 := jnlt c46 jz_1 t2
              refine lv_iload hx hb dX1_trimmed_51 (lv_at hl 1 rfl) ?_
              refine lv_iload hx hb dX1_trimmed_53 (lv_at hl 0 rfl) ?_
              refine lv_icmp_le (tgt := 71) hx hb dX1_trimmed_55 (by decide) (fun c54 => ?_) (fun c54 => ?_)
              · have kc54 := jle c54 rfl rfl
                refine lv_iload hx hb dX1_trimmed_71 (lv_at hl 1 rfl) ?_
                refine lv_if_ne (tgt := 84) hx hb dX1_trimmed_73 (by decide) (fun c55 => ?_) (fun c55 => ?_)
                · have kc55 := jne c55 rfl jz_0
                  obtain ⟨x56, ex56⟩ : ∃ y : Int32, y = x4 + 1 := ⟨_, rfl⟩
                  have tx56 : x56.toInt = x4.toInt + 1 := (jadd ex56 rfl jz_1 (by omega) (by omega)).trans (by omega)
                  refine lv_iinc (v := x56) (lv' := [(4, .int x56), (6, .int x25), (5, .int r14), (3, .int x3), (0, .ref (ad 31)), (1, .int a1), (2, .int a2)]) hx hb dX1_trimmed_84 hl (k := 2) rfl (by rw [ex56]; rfl) (by decide) rfl (fun ls hl => ?_)
                  refine lv_goto (tgt := 5) hx hb dX1_trimmed_87 (by decide) ?_
                  exact ihlp1 x3 x56 _ _ ls (by have h91 := tx56; omega) (by have h91 := tx56; omega) (by have h91 := tx56; omega)    hP hS (lv_sub hl [0, 3, 4, 5, 6] rfl)
                · have kc55 := jeq c55 rfl jz_0
                  refine lv_iload_n hx hb dX1_trimmed_76 rfl (lv_at hl 3 rfl) ?_
                  refine lv_iload hx hb dX1_trimmed_77 (lv_at hl 2 rfl) ?_
                  refine lv_iconst (v := 0) hx hb dX1_trimmed_79 (by decide) ?_
                  refine jcallS (As := [.int x3, .int x4, .int 0]) (rest := []) ⟨hx, hb, hml, hown, hts⟩ hK hP hA hS hZ (c_X0_withSteps l D cI cL ad zz hJ σ τ x3 (x3.toInt) rfl x4 (x4.toInt) rfl 0 (0) jz_0) cw_RX1_133 ⟨Nat.le_of_ble_eq_true rfl, Nat.le_of_ble_eq_true rfl⟩ rfl rfl rfl hl.1 rfl (Nat.le_of_ble_eq_true rfl) dX1_trimmed_80 ⟨Nat.zero_le _, Nat.zero_le _⟩ (fun r58 σ57 τ57 H locs h57 hP hS => ?_)
                  obtain ⟨⟨rfl, rfl⟩, w59, h57⟩ := h57
                  have k60 := congrArg Int32.toInt w59
                  refine lv_istore_n (lv' := [(3, .int r58), (6, .int x25), (5, .int r14), (4, .int x4), (0, .ref (ad 31)), (1, .int a1), (2, .int a2)]) hx hb dX1_trimmed_83 rfl hl (by decide) rfl (fun ls hl => ?_)
                  obtain ⟨x61, ex61⟩ : ∃ y : Int32, y = x4 + 1 := ⟨_, rfl⟩
                  have tx61 : x61.toInt = x4.toInt + 1 := (jadd ex61 rfl jz_1 (by omega) (by omega)).trans (by omega)
                  refine lv_iinc (v := x61) (lv' := [(4, .int x61), (3, .int r58), (6, .int x25), (5, .int r14), (0, .ref (ad 31)), (1, .int a1), (2, .int a2)]) hx hb dX1_trimmed_84 hl (k := 3) rfl (by rw [ex61]; rfl) (by decide) rfl (fun ls hl => ?_)
                  refine lv_goto (tgt := 5) hx hb dX1_trimmed_87 (by decide) ?_
                  exact ihlp1 r58 x61 _ _ ls (by have h91 := tx61; omega) (by have h91 := tx61; omega) (by have h91 := tx61; omega)    hP hS (lv_sub hl [0, 1, 4, 5, 6] rfl)
              · have kc54 := jnle c54 rfl rfl
                refine lv_iload hx hb dX1_trimmed_58 (lv_at hl 0 rfl) ?_
                refine lv_istore (lv' := [(5, .int x25), (6, .int x25), (4, .int x4), (3, .int x3), (0, .ref (ad 31)), (1, .int a1), (2, .int a2)]) hx hb dX1_trimmed_60 hl (by decide) rfl (fun ls hl => ?_)
                refine lv_iload_n hx hb dX1_trimmed_62 rfl (lv_at hl 3 rfl) ?_
                refine lv_iload hx hb dX1_trimmed_63 (lv_at hl 2 rfl) ?_
                refine lv_iload hx hb dX1_trimmed_65 (lv_at hl 0 rfl) ?_
                refine jcallS (As := [.int x3, .int x4, .int x25]) (rest := []) ⟨hx, hb, hml, hown, hts⟩ hK hP hA hS hZ (c_X0_withLeft l D cI cL ad zz hJ σ τ x3 (x3.toInt) rfl x4 (x4.toInt) rfl x25 (x25.toInt) rfl) cw_RX1_129 ⟨Nat.le_of_ble_eq_true rfl, Nat.le_of_ble_eq_true rfl⟩ rfl rfl rfl hl.1 rfl (Nat.le_of_ble_eq_true rfl) dX1_trimmed_67 ⟨Nat.zero_le _, Nat.zero_le _⟩ (fun r63 σ62 τ62 H locs h62 hP hS => ?_)
                obtain ⟨⟨rfl, rfl⟩, w64, h62⟩ := h62
                have k65 := congrArg Int32.toInt w64
                refine lv_istore_n (lv' := [(3, .int r63), (5, .int x25), (6, .int x25), (4, .int x4), (0, .ref (ad 31)), (1, .int a1), (2, .int a2)]) hx hb dX1_trimmed_70 rfl hl (by decide) rfl (fun ls hl => ?_)
                refine lv_iload hx hb dX1_trimmed_71 (lv_at hl 1 rfl) ?_
                refine lv_if_ne (tgt := 84) hx hb dX1_trimmed_73 (by decide) (fun c66 => ?_) (fun c66 => ?_)
                · have kc66 := jne c66 rfl jz_0
                  obtain ⟨x67, ex67⟩ : ∃ y : Int32, y = x4 + 1 := ⟨_, rfl⟩
                  have tx67 : x67.toInt = x4.toInt + 1 := (jadd ex67 rfl jz_1 (by omega) (by omega)).trans (by omega)
                  refine lv_iinc (v := x67) (lv' := [(4, .int x67), (3, .int r63), (5, .int x25), (6, .int x25), (0, .ref (ad 31)), (1, .int a1), (2, .int a2)]) hx hb dX1_trimmed_84 hl (k := 3) rfl (by rw [ex67]; rfl) (by decide) rfl (fun ls hl => ?_)
                  refine lv_goto (tgt := 5) hx hb dX1_trimmed_87 (by decide) ?_
                  exact ihlp1 r63 x67 _ _ ls (by have h91 := tx67; omega) (by have h91 := tx67; omega) (by have h91 := tx67; omega)    hP hS (lv_sub hl [0, 1, 4, 5, 6] rfl)
                · have kc66 := jeq c66 rfl jz_0
                  refine lv_iload_n hx hb dX1_trimmed_76 rfl (lv_at hl 0 rfl) ?_
                  refine lv_iload hx hb dX1_trimmed_77 (lv_at hl 3 rfl) ?_
                  refine lv_iconst (v := 0) hx hb dX1_trimmed_79 (by decide) ?_
                  refine jcallS (As := [.int r63, .int x4, .int 0]) (rest := []) ⟨hx, hb, hml, hown, hts⟩ hK hP hA hS hZ (c_X0_withSteps l D cI cL ad zz hJ σ τ r63 (r63.toInt) rfl x4 (x4.toInt) rfl 0 (0) jz_0) cw_RX1_133 ⟨Nat.le_of_ble_eq_true rfl, Nat.le_of_ble_eq_true rfl⟩ rfl rfl rfl hl.1 rfl (Nat.le_of_ble_eq_true rfl) dX1_trimmed_80 ⟨Nat.zero_le _, Nat.zero_le _⟩ (fun r69 σ68 τ68 H locs h68 hP hS => ?_)
                  obtain ⟨⟨rfl, rfl⟩, w70, h68⟩ := h68
                  have k71 := congrArg Int32.toInt w70
                  refine lv_istore_n (lv' := [(3, .int r69), (5, .int x25), (6, .int x25), (4, .int x4), (0, .ref (ad 31)), (1, .int a1), (2, .int a2)]) hx hb dX1_trimmed_83 rfl hl (by decide) rfl (fun ls hl => ?_)
                  obtain ⟨x72, ex72⟩ : ∃ y : Int32, y = x4 + 1 := ⟨_, rfl⟩
                  have tx72 : x72.toInt = x4.toInt + 1 := (jadd ex72 rfl jz_1 (by omega) (by omega)).trans (by omega)
                  refine lv_iinc (v := x72) (lv' := [(4, .int x72), (3, .int r69), (5, .int x25), (6, .int x25), (0, .ref (ad 31)), (1, .int a1), (2, .int a2)]) hx hb dX1_trimmed_84 hl (k := 3) rfl (by rw [ex72]; rfl) (by decide) rfl (fun ls hl => ?_)
                  refine lv_goto (tgt := 5) hx hb dX1_trimmed_87 (by decide) ?_
                  exact ihlp1 r69 x72 _ _ ls (by have h91 := tx72; omega) (by have h91 := tx72; omega) (by have h91 := tx72; omega)    hP hS (lv_sub hl [0, 1, 4, 5, 6] rfl)
        · have kc23 := jeq c23 rfl rfl
          refine lv_iload_n hx hb dX1_trimmed_28 rfl (lv_at hl 5 rfl) ?_
          refine lv_goto (tgt := 35) hx hb dX1_trimmed_29 (by decide) ?_
          refine lv_iconst (v := 2) hx hb dX1_trimmed_35 (by decide) ?_
          refine lv_idiv hx hb dX1_trimmed_36 (by decide) ?_
          refine lv_topi (fun x73 ex73 => ?_)
          have gx73 := jrg (rfl : x73.toInt = x73.toInt)
          refine lv_istore (lv' := [(6, .int x73), (5, .int r14), (4, .int x4), (3, .int x3), (0, .ref (ad 31)), (1, .int a1), (2, .int a2)]) hx hb dX1_trimmed_37 hl (by decide) rfl (fun ls hl => ?_)
          refine lv_aload_n hx hb dX1_trimmed_39 rfl (lv_at hl 4 rfl) ?_
          refine va_get (D := D) hx hb hts inlX1 hown hK hP 31 (jc_31 cI cL ad σ τ) rfl 12 (by decide) (hts _ kw_28_8) (fun _ h9 => h9) rfl dX1_trimmed_40 ?_
          refine lv_if_eq (tgt := 51) hx hb dX1_trimmed_43 (by decide) (fun c74 => ?_) (fun c74 => ?_)
          · have kc74 := jeq c74 rfl jz_0
            refine lv_iload hx hb dX1_trimmed_51 (lv_at hl 1 rfl) ?_
            refine lv_iload hx hb dX1_trimmed_53 (lv_at hl 0 rfl) ?_
            refine lv_icmp_le (tgt := 71) hx hb dX1_trimmed_55 (by decide) (fun c75 => ?_) (fun c75 => ?_)
            · have kc75 := jle c75 rfl rfl
              refine lv_iload hx hb dX1_trimmed_71 (lv_at hl 1 rfl) ?_
              refine lv_if_ne (tgt := 84) hx hb dX1_trimmed_73 (by decide) (fun c76 => ?_) (fun c76 => ?_)
              · have kc76 := jne c76 rfl jz_0
                obtain ⟨x77, ex77⟩ : ∃ y : Int32, y = x4 + 1 := ⟨_, rfl⟩
                have tx77 : x77.toInt = x4.toInt + 1 := (jadd ex77 rfl jz_1 (by omega) (by omega)).trans (by omega)
                refine lv_iinc (v := x77) (lv' := [(4, .int x77), (6, .int x73), (5, .int r14), (3, .int x3), (0, .ref (ad 31)), (1, .int a1), (2, .int a2)]) hx hb dX1_trimmed_84 hl (k := 2) rfl (by rw [ex77]; rfl) (by decide) rfl (fun ls hl => ?_)
                refine lv_goto (tgt := 5) hx hb dX1_trimmed_87 (by decide) ?_
                exact ihlp1 x3 x77 _ _ ls (by have h91 := tx77; omega) (by have h91 := tx77; omega) (by have h91 := tx77; omega)    hP hS (lv_sub hl [0, 3, 4, 5, 6] rfl)
              · have kc76 := jeq c76 rfl jz_0
                refine lv_iload_n hx hb dX1_trimmed_76 rfl (lv_at hl 3 rfl) ?_
                refine lv_iload hx hb dX1_trimmed_77 (lv_at hl 2 rfl) ?_
                refine lv_iconst (v := 0) hx hb dX1_trimmed_79 (by decide) ?_
                refine jcallS (As := [.int x3, .int x4, .int 0]) (rest := []) ⟨hx, hb, hml, hown, hts⟩ hK hP hA hS hZ (c_X0_withSteps l D cI cL ad zz hJ σ τ x3 (x3.toInt) rfl x4 (x4.toInt) rfl 0 (0) jz_0) cw_RX1_133 ⟨Nat.le_of_ble_eq_true rfl, Nat.le_of_ble_eq_true rfl⟩ rfl rfl rfl hl.1 rfl (Nat.le_of_ble_eq_true rfl) dX1_trimmed_80 ⟨Nat.zero_le _, Nat.zero_le _⟩ (fun r79 σ78 τ78 H locs h78 hP hS => ?_)
                obtain ⟨⟨rfl, rfl⟩, w80, h78⟩ := h78
                have k81 := congrArg Int32.toInt w80
                refine lv_istore_n (lv' := [(3, .int r79), (6, .int x73), (5, .int r14), (4, .int x4), (0, .ref (ad 31)), (1, .int a1), (2, .int a2)]) hx hb dX1_trimmed_83 rfl hl (by decide) rfl (fun ls hl => ?_)
                obtain ⟨x82, ex82⟩ : ∃ y : Int32, y = x4 + 1 := ⟨_, rfl⟩
                have tx82 : x82.toInt = x4.toInt + 1 := (jadd ex82 rfl jz_1 (by omega) (by omega)).trans (by omega)
                refine lv_iinc (v := x82) (lv' := [(4, .int x82), (3, .int r79), (6, .int x73), (5, .int r14), (0, .ref (ad 31)), (1, .int a1), (2, .int a2)]) hx hb dX1_trimmed_84 hl (k := 3) rfl (by rw [ex82]; rfl) (by decide) rfl (fun ls hl => ?_)
                refine lv_goto (tgt := 5) hx hb dX1_trimmed_87 (by decide) ?_
                exact ihlp1 r79 x82 _ _ ls (by have h91 := tx82; omega) (by have h91 := tx82; omega) (by have h91 := tx82; omega)    hP hS (lv_sub hl [0, 1, 4, 5, 6] rfl)
            · have kc75 := jnle c75 rfl rfl
              refine lv_iload hx hb dX1_trimmed_58 (lv_at hl 0 rfl) ?_
              refine lv_istore (lv' := [(5, .int x73), (6, .int x73), (4, .int x4), (3, .int x3), (0, .ref (ad 31)), (1, .int a1), (2, .int a2)]) hx hb dX1_trimmed_60 hl (by decide) rfl (fun ls hl => ?_)
              refine lv_iload_n hx hb dX1_trimmed_62 rfl (lv_at hl 3 rfl) ?_
              refine lv_iload hx hb dX1_trimmed_63 (lv_at hl 2 rfl) ?_
              refine lv_iload hx hb dX1_trimmed_65 (lv_at hl 0 rfl) ?_
              refine jcallS (As := [.int x3, .int x4, .int x73]) (rest := []) ⟨hx, hb, hml, hown, hts⟩ hK hP hA hS hZ (c_X0_withLeft l D cI cL ad zz hJ σ τ x3 (x3.toInt) rfl x4 (x4.toInt) rfl x73 (x73.toInt) rfl) cw_RX1_129 ⟨Nat.le_of_ble_eq_true rfl, Nat.le_of_ble_eq_true rfl⟩ rfl rfl rfl hl.1 rfl (Nat.le_of_ble_eq_true rfl) dX1_trimmed_67 ⟨Nat.zero_le _, Nat.zero_le _⟩ (fun r84 σ83 τ83 H locs h83 hP hS => ?_)
              obtain ⟨⟨rfl, rfl⟩, w85, h83⟩ := h83
              have k86 := congrArg Int32.toInt w85
              refine lv_istore_n (lv' := [(3, .int r84), (5, .int x73), (6, .int x73), (4, .int x4), (0, .ref (ad 31)), (1, .int a1), (2, .int a2)]) hx hb dX1_trimmed_70 rfl hl (by decide) rfl (fun ls hl => ?_)
              refine lv_iload hx hb dX1_trimmed_71 (lv_at hl 1 rfl) ?_
              refine lv_if_ne (tgt := 84) hx hb dX1_trimmed_73 (by decide) (fun c87 => ?_) (fun c87 => ?_)
              · have kc87 := jne c87 rfl jz_0
                obtain ⟨x88, ex88⟩ : ∃ y : Int32, y = x4 + 1 := ⟨_, rfl⟩
                have tx88 : x88.toInt = x4.toInt + 1 := (jadd ex88 rfl jz_1 (by omega) (by omega)).trans (by omega)
                refine lv_iinc (v := x88) (lv' := [(4, .int x88), (3, .int r84), (5, .int x73), (6, .int x73), (0, .ref (ad 31)), (1, .int a1), (2, .int a2)]) hx hb dX1_trimmed_84 hl (k := 3) rfl (by rw [ex88]; rfl) (by decide) rfl (fun ls hl => ?_)
                refine lv_goto (tgt := 5) hx hb dX1_trimmed_87 (by decide) ?_
                exact ihlp1 r84 x88 _ _ ls (by have h91 := tx88; omega) (by have h91 := tx88; omega) (by have h91 := tx88; omega)    hP hS (lv_sub hl [0, 1, 4, 5, 6] rfl)
              · have kc87 := jeq c87 rfl jz_0
                refine lv_iload_n hx hb dX1_trimmed_76 rfl (lv_at hl 0 rfl) ?_
                refine lv_iload hx hb dX1_trimmed_77 (lv_at hl 3 rfl) ?_
                refine lv_iconst (v := 0) hx hb dX1_trimmed_79 (by decide) ?_
                refine jcallS (As := [.int r84, .int x4, .int 0]) (rest := []) ⟨hx, hb, hml, hown, hts⟩ hK hP hA hS hZ (c_X0_withSteps l D cI cL ad zz hJ σ τ r84 (r84.toInt) rfl x4 (x4.toInt) rfl 0 (0) jz_0) cw_RX1_133 ⟨Nat.le_of_ble_eq_true rfl, Nat.le_of_ble_eq_true rfl⟩ rfl rfl rfl hl.1 rfl (Nat.le_of_ble_eq_true rfl) dX1_trimmed_80 ⟨Nat.zero_le _, Nat.zero_le _⟩ (fun r90 σ89 τ89 H locs h89 hP hS => ?_)
                obtain ⟨⟨rfl, rfl⟩, w91, h89⟩ := h89
                have k92 := congrArg Int32.toInt w91
                refine lv_istore_n (lv' := [(3, .int r90), (5, .int x73), (6, .int x73), (4, .int x4), (0, .ref (ad 31)), (1, .int a1), (2, .int a2)]) hx hb dX1_trimmed_83 rfl hl (by decide) rfl (fun ls hl => ?_)
                obtain ⟨x93, ex93⟩ : ∃ y : Int32, y = x4 + 1 := ⟨_, rfl⟩
                have tx93 : x93.toInt = x4.toInt + 1 := (jadd ex93 rfl jz_1 (by omega) (by omega)).trans (by omega)
                refine lv_iinc (v := x93) (lv' := [(4, .int x93), (3, .int r90), (5, .int x73), (6, .int x73), (0, .ref (ad 31)), (1, .int a1), (2, .int a2)]) hx hb dX1_trimmed_84 hl (k := 3) rfl (by rw [ex93]; rfl) (by decide) rfl (fun ls hl => ?_)
                refine lv_goto (tgt := 5) hx hb dX1_trimmed_87 (by decide) ?_
                exact ihlp1 r90 x93 _ _ ls (by have h91 := tx93; omega) (by have h91 := tx93; omega) (by have h91 := tx93; omega)    hP hS (lv_sub hl [0, 1, 4, 5, 6] rfl)
          · have kc74 := jne c74 rfl jz_0
            refine lv_iload_n hx hb dX1_trimmed_46 rfl (lv_at hl 6 rfl) ?_
            refine lv_iconst (v := 1) hx hb dX1_trimmed_47 (by decide) ?_
            refine lv_icmp_gt (tgt := 71) hx hb dX1_trimmed_48 (by decide) (fun c94 => ?_) (fun c94 => ?_)
            · have kc94 := jlt c94 jz_1 t2
              refine lv_iload hx hb dX1_trimmed_71 (lv_at hl 1 rfl) ?_
              refine lv_if_ne (tgt := 84) hx hb dX1_trimmed_73 (by decide) (fun c95 => ?_) (fun c95 => ?_)
              · have kc95 := jne c95 rfl jz_0
                obtain ⟨x96, ex96⟩ : ∃ y : Int32, y = x4 + 1 := ⟨_, rfl⟩
                have tx96 : x96.toInt = x4.toInt + 1 := (jadd ex96 rfl jz_1 (by omega) (by omega)).trans (by omega)
                refine lv_iinc (v := x96) (lv' := [(4, .int x96), (6, .int x73), (5, .int r14), (3, .int x3), (0, .ref (ad 31)), (1, .int a1), (2, .int a2)]) hx hb dX1_trimmed_84 hl (k := 2) rfl (by rw [ex96]; rfl) (by decide) rfl (fun ls hl => ?_)
                refine lv_goto (tgt := 5) hx hb dX1_trimmed_87 (by decide) ?_
                exact ihlp1 x3 x96 _ _ ls (by have h91 := tx96; omega) (by have h91 := tx96; omega) (by have h91 := tx96; omega)    hP hS (lv_sub hl [0, 3, 4, 5, 6] rfl)
              · have kc95 := jeq c95 rfl jz_0
                refine lv_iload_n hx hb dX1_trimmed_76 rfl (lv_at hl 3 rfl) ?_
                refine lv_iload hx hb dX1_trimmed_77 (lv_at hl 2 rfl) ?_
                refine lv_iconst (v := 0) hx hb dX1_trimmed_79 (by decide) ?_
                refine jcallS (As := [.int x3, .int x4, .int 0]) (rest := []) ⟨hx, hb, hml, hown, hts⟩ hK hP hA hS hZ (c_X0_withSteps l D cI cL ad zz hJ σ τ x3 (x3.toInt) rfl x4 (x4.toInt) rfl 0 (0) jz_0) cw_RX1_133 ⟨Nat.le_of_ble_eq_true rfl, Nat.le_of_ble_eq_true rfl⟩ rfl rfl rfl hl.1 rfl (Nat.le_of_ble_eq_true rfl) dX1_trimmed_80 ⟨Nat.zero_le _, Nat.zero_le _⟩ (fun r98 σ97 τ97 H locs h97 hP hS => ?_)
                obtain ⟨⟨rfl, rfl⟩, w99, h97⟩ := h97
                have k100 := congrArg Int32.toInt w99
                refine lv_istore_n (lv' := [(3, .int r98), (6, .int x73), (5, .int r14), (4, .int x4), (0, .ref (ad 31)), (1, .int a1), (2, .int a2)]) hx hb dX1_trimmed_83 rfl hl (by decide) rfl (fun ls hl => ?_)
                obtain ⟨x101, ex101⟩ : ∃ y : Int32, y = x4 + 1 := ⟨_, rfl⟩
                have tx101 : x101.toInt = x4.toInt + 1 := (jadd ex101 rfl jz_1 (by omega) (by omega)).trans (by omega)
                refine lv_iinc (v := x101) (lv' := [(4, .int x101), (3, .int r98), (6, .int x73), (5, .int r14), (0, .ref (ad 31)), (1, .int a1), (2, .int a2)]) hx hb dX1_trimmed_84 hl (k := 3) rfl (by rw [ex101]; rfl) (by decide) rfl (fun ls hl => ?_)
                refine lv_goto (tgt := 5) hx hb dX1_trimmed_87 (by decide) ?_
                exact ihlp1 r98 x101 _ _ ls (by have h91 := tx101; omega) (by have h91 := tx101; omega) (by have h91 := tx101; omega)    hP hS (lv_sub hl [0, 1, 4, 5, 6] rfl)
            · have kc94 := jnlt c94 jz_1 t2
              refine lv_iload hx hb dX1_trimmed_51 (lv_at hl 1 rfl) ?_
              refine lv_iload hx hb dX1_trimmed_53 (lv_at hl 0 rfl) ?_
              refine lv_icmp_le (tgt := 71) hx hb dX1_trimmed_55 (by decide) (fun c102 => ?_) (fun c102 => ?_)
              · have kc102 := jle c102 rfl rfl
                refine lv_iload hx hb dX1_trimmed_71 (lv_at hl 1 rfl) ?_
                refine lv_if_ne (tgt := 84) hx hb dX1_trimmed_73 (by decide) (fun c103 => ?_) (fun c103 => ?_)
                · have kc103 := jne c103 rfl jz_0
                  obtain ⟨x104, ex104⟩ : ∃ y : Int32, y = x4 + 1 := ⟨_, rfl⟩
                  have tx104 : x104.toInt = x4.toInt + 1 := (jadd ex104 rfl jz_1 (by omega) (by omega)).trans (by omega)
                  refine lv_iinc (v := x104) (lv' := [(4, .int x104), (6, .int x73), (5, .int r14), (3, .int x3), (0, .ref (ad 31)), (1, .int a1), (2, .int a2)]) hx hb dX1_trimmed_84 hl (k := 2) rfl (by rw [ex104]; rfl) (by decide) rfl (fun ls hl => ?_)
                  refine lv_goto (tgt := 5) hx hb dX1_trimmed_87 (by decide) ?_
                  exact ihlp1 x3 x104 _ _ ls (by have h91 := tx104; omega) (by have h91 := tx104; omega) (by have h91 := tx104; omega)    hP hS (lv_sub hl [0, 3, 4, 5, 6] rfl)
                · have kc103 := jeq c103 rfl jz_0
                  refine lv_iload_n hx hb dX1_trimmed_76 rfl (lv_at hl 3 rfl) ?_
                  refine lv_iload hx hb dX1_trimmed_77 (lv_at hl 2 rfl) ?_
                  refine lv_iconst (v := 0) hx hb dX1_trimmed_79 (by decide) ?_
                  refine jcallS (As := [.int x3, .int x4, .int 0]) (rest := []) ⟨hx, hb, hml, hown, hts⟩ hK hP hA hS hZ (c_X0_withSteps l D cI cL ad zz hJ σ τ x3 (x3.toInt) rfl x4 (x4.toInt) rfl 0 (0) jz_0) cw_RX1_133 ⟨Nat.le_of_ble_eq_true rfl, Nat.le_of_ble_eq_true rfl⟩ rfl rfl rfl hl.1 rfl (Nat.le_of_ble_eq_true rfl) dX1_trimmed_80 ⟨Nat.zero_le _, Nat.zero_le _⟩ (fun r106 σ105 τ105 H locs h105 hP hS => ?_)
                  obtain ⟨⟨rfl, rfl⟩, w107, h105⟩ := h105
                  have k108 := congrArg Int32.toInt w107
                  refine lv_istore_n (lv' := [(3, .int r106), (6, .int x73), (5, .int r14), (4, .int x4), (0, .ref (ad 31)), (1, .int a1), (2, .int a2)]) hx hb dX1_trimmed_83 rfl hl (by decide) rfl (fun ls hl => ?_)
                  obtain ⟨x109, ex109⟩ : ∃ y : Int32, y = x4 + 1 := ⟨_, rfl⟩
                  have tx109 : x109.toInt = x4.toInt + 1 := (jadd ex109 rfl jz_1 (by omega) (by omega)).trans (by omega)
                  refine lv_iinc (v := x109) (lv' := [(4, .int x109), (3, .int r106), (6, .int x73), (5, .int r14), (0, .ref (ad 31)), (1, .int a1), (2, .int a2)]) hx hb dX1_trimmed_84 hl (k := 3) rfl (by rw [ex109]; rfl) (by decide) rfl (fun ls hl => ?_)
                  refine lv_goto (tgt := 5) hx hb dX1_trimmed_87 (by decide) ?_
                  exact ihlp1 r106 x109 _ _ ls (by have h91 := tx109; omega) (by have h91 := tx109; omega) (by have h91 := tx109; omega)    hP hS (lv_sub hl [0, 1, 4, 5, 6] rfl)
              · have kc102 := jnle c102 rfl rfl
                refine lv_iload hx hb dX1_trimmed_58 (lv_at hl 0 rfl) ?_
                refine lv_istore (lv' := [(5, .int x73), (6, .int x73), (4, .int x4), (3, .int x3), (0, .ref (ad 31)), (1, .int a1), (2, .int a2)]) hx hb dX1_trimmed_60 hl (by decide) rfl (fun ls hl => ?_)
                refine lv_iload_n hx hb dX1_trimmed_62 rfl (lv_at hl 3 rfl) ?_
                refine lv_iload hx hb dX1_trimmed_63 (lv_at hl 2 rfl) ?_
                refine lv_iload hx hb dX1_trimmed_65 (lv_at hl 0 rfl) ?_
                refine jcallS (As := [.int x3, .int x4, .int x73]) (rest := []) ⟨hx, hb, hml, hown, hts⟩ hK hP hA hS hZ (c_X0_withLeft l D cI cL ad zz hJ σ τ x3 (x3.toInt) rfl x4 (x4.toInt) rfl x73 (x73.toInt) rfl) cw_RX1_129 ⟨Nat.le_of_ble_eq_true rfl, Nat.le_of_ble_eq_true rfl⟩ rfl rfl rfl hl.1 rfl (Nat.le_of_ble_eq_true rfl) dX1_trimmed_67 ⟨Nat.zero_le _, Nat.zero_le _⟩ (fun r111 σ110 τ110 H locs h110 hP hS => ?_)
                obtain ⟨⟨rfl, rfl⟩, w112, h110⟩ := h110
                have k113 := congrArg Int32.toInt w112
                refine lv_istore_n (lv' := [(3, .int r111), (5, .int x73), (6, .int x73), (4, .int x4), (0, .ref (ad 31)), (1, .int a1), (2, .int a2)]) hx hb dX1_trimmed_70 rfl hl (by decide) rfl (fun ls hl => ?_)
                refine lv_iload hx hb dX1_trimmed_71 (lv_at hl 1 rfl) ?_
                refine lv_if_ne (tgt := 84) hx hb dX1_trimmed_73 (by decide) (fun c114 => ?_) (fun c114 => ?_)
                · have kc114 := jne c114 rfl jz_0
                  obtain ⟨x115, ex115⟩ : ∃ y : Int32, y = x4 + 1 := ⟨_, rfl⟩
                  have tx115 : x115.toInt = x4.toInt + 1 := (jadd ex115 rfl jz_1 (by omega) (by omega)).trans (by omega)
                  refine lv_iinc (v := x115) (lv' := [(4, .int x115), (3, .int r111), (5, .int x73), (6, .int x73), (0, .ref (ad 31)), (1, .int a1), (2, .int a2)]) hx hb dX1_trimmed_84 hl (k := 3) rfl (by rw [ex115]; rfl) (by decide) rfl (fun ls hl => ?_)
                  refine lv_goto (tgt := 5) hx hb dX1_trimmed_87 (by decide) ?_
                  exact ihlp1 r111 x115 _ _ ls (by have h91 := tx115; omega) (by have h91 := tx115; omega) (by have h91 := tx115; omega)    hP hS (lv_sub hl [0, 1, 4, 5, 6] rfl)
                · have kc114 := jeq c114 rfl jz_0
                  refine lv_iload_n hx hb dX1_trimmed_76 rfl (lv_at hl 0 rfl) ?_
                  refine lv_iload hx hb dX1_trimmed_77 (lv_at hl 3 rfl) ?_
                  refine lv_iconst (v := 0) hx hb dX1_trimmed_79 (by decide) ?_
                  refine jcallS (As := [.int r111, .int x4, .int 0]) (rest := []) ⟨hx, hb, hml, hown, hts⟩ hK hP hA hS hZ (c_X0_withSteps l D cI cL ad zz hJ σ τ r111 (r111.toInt) rfl x4 (x4.toInt) rfl 0 (0) jz_0) cw_RX1_133 ⟨Nat.le_of_ble_eq_true rfl, Nat.le_of_ble_eq_true rfl⟩ rfl rfl rfl hl.1 rfl (Nat.le_of_ble_eq_true rfl) dX1_trimmed_80 ⟨Nat.zero_le _, Nat.zero_le _⟩ (fun r117 σ116 τ116 H locs h116 hP hS => ?_)
                  obtain ⟨⟨rfl, rfl⟩, w118, h116⟩ := h116
                  have k119 := congrArg Int32.toInt w118
                  refine lv_istore_n (lv' := [(3, .int r117), (5, .int x73), (6, .int x73), (4, .int x4), (0, .ref (ad 31)), (1, .int a1), (2, .int a2)]) hx hb dX1_trimmed_83 rfl hl (by decide) rfl (fun ls hl => ?_)
                  obtain ⟨x120, ex120⟩ : ∃ y : Int32, y = x4 + 1 := ⟨_, rfl⟩
                  have tx120 : x120.toInt = x4.toInt + 1 := (jadd ex120 rfl jz_1 (by omega) (by omega)).trans (by omega)
                  refine lv_iinc (v := x120) (lv' := [(4, .int x120), (3, .int r117), (5, .int x73), (6, .int x73), (0, .ref (ad 31)), (1, .int a1), (2, .int a2)]) hx hb dX1_trimmed_84 hl (k := 3) rfl (by rw [ex120]; rfl) (by decide) rfl (fun ls hl => ?_)
                  refine lv_goto (tgt := 5) hx hb dX1_trimmed_87 (by decide) ?_
                  exact ihlp1 r117 x120 _ _ ls (by have h91 := tx120; omega) (by have h91 := tx120; omega) (by have h91 := tx120; omega)    hP hS (lv_sub hl [0, 1, 4, 5, 6] rfl)
  exact lp1 1000000 a1 0 _ _ ls (by have h90 := t1; have h91 := jz_0; omega) (by have h90 := t1; have h91 := jz_0; omega) (by have h90 := t1; have h91 := jz_0; omega)   hP hS hl
set_option maxHeartbeats 4000000 in
set_option maxRecDepth 100000 in
theorem c_X1_add_31 (l : Launch) (D : va_G) (cI cL : ClassId) (ad zz : Nat → Nat) (hJ : jD ad) (σ : Nat → Nat → Int32) (τ : Nat → Nat → Int64) (a1 : Int32) (A1 : Int) (t1 : a1.toInt = A1) (a2 : Int32) (A2 : Int) (t2 : a2.toInt = A2) (hI31 : jI31 σ) (hs_jKb : jKb σ) (hs_jKh : jKh σ) (hp0 : 0 ≤ A1 ∧ A1 ≤ 134217727) (hp1 : 0 ≤ A2 ∧ A2 ≤ 8) : jM l yX1_add cX1_add 5 (some .int) ({ frames := 2, cells := 0, slots := 0, locals := 49 }) D cI cL ad zz [.ref (ad 31), .int a1, .int a2] σ τ (fun r σ' τ' => τ = τ' ∧ (∀ i : Nat, (i < 31 ∨ 32 < i) ∧ (i < 36 ∨ 37 < i) → σ' i = σ i) ∧ (∀ k : Nat, (k < 8 ∨ 8 < k) → σ' 31 k = σ 31 k) ∧ (jI31 σ') ∧ (jKb σ') ∧ (jKh σ') ∧ (jqAd (σ 31 8).toInt (σ' 31 8).toInt (σ 32) (σ' 32) (σ 31 11).toInt (A2) (decide ((σ 31 12).toInt ≠ 0)) a1 r.toInt) ∧ ((True ∧ (0 ≤ r.toInt ∧ r.toInt ≤ 350)))) := by
  refine jM.of hJ (by decide +kernel) (nt := .int) rfl (Nat.le_of_ble_eq_true rfl) ?_
  intro p e s m args below meth c Q ls hC hret hl hP
  obtain ⟨hx, hb, hr, hml, hown, hts, hK, -, hlocks, hZ⟩ := hC
  have hown : s.vm.findClass RX1 = some m.cls := hown
  have hS : va_S (jA ad) s.heap s.heap [] := va_S.rf
  have hA : ∀ q, jA ad q → jA ad q := fun _ h => h
  have hl : lv_has ls 5 [(0, .ref (ad 31)), (1, .int a1), (2, .int a2)] := hl
  have g1 := jrg t1
  have g2 := jrg t2
  obtain ⟨i1, i2, i3, i4, w5, w6, w7⟩ : (0 ≤ (σ 31 8).toInt ∧ (σ 31 8).toInt ≤ 350) ∧ (0 ≤ (σ 31 10).toInt ∧ (σ 31 10).toInt ≤ 12) ∧ (0 ≤ (σ 31 11).toInt ∧ (σ 31 11).toInt ≤ 8) ∧ ((σ 31 10).toInt + (σ 31 11).toInt ≤ 12) ∧ (∀ k : Nat, k < 1400 → (-1) ≤ (σ 33 k).toInt ∧ (σ 33 k).toInt ≤ 350) ∧ (∀ k : Nat, k < 3159 → (-1) ≤ (σ 35 k).toInt ∧ (σ 35 k).toInt ≤ 3) ∧ (∀ k : Nat, k < 1024 → 0 ≤ (σ 36 k).toInt ∧ (σ 36 k).toInt ≤ 349) := id hI31
  refine lv_iload_n hx hb dX1_add_0 rfl (lv_at hl 2 rfl) ?_
  refine lv_aload_n hx hb dX1_add_1 rfl (lv_at hl 0 rfl) ?_
  refine va_get (D := D) hx hb hts inlX1 hown hK hP 31 (jc_31 cI cL ad σ τ) rfl 11 (by decide) (hts _ kw_28_7) (fun _ h9 => h9) rfl dX1_add_2 ?_
  refine lv_icmp_lt (tgt := 12) hx hb dX1_add_5 (by decide) (fun c8 => ?_) (fun c8 => ?_)
  · have kc8 := jlt c8 t2 rfl
    refine lv_aload_n hx hb dX1_add_12 rfl (lv_at hl 0 rfl) ?_
    refine lv_iload_n hx hb dX1_add_13 rfl (lv_at hl 1 rfl) ?_
    refine lv_aload_n hx hb dX1_add_14 rfl (lv_at hl 0 rfl) ?_
    refine va_get (D := D) hx hb hts inlX1 hown hK hP 31 (jc_31 cI cL ad σ τ) rfl 11 (by decide) (hts _ kw_28_7) (fun _ h9 => h9) rfl dX1_add_15 ?_
    refine lv_iload_n hx hb dX1_add_18 rfl (lv_at hl 2 rfl) ?_
    have g9 := jrg (rfl : (σ 31 11).toInt = (σ 31 11).toInt)
    refine lv_isub hx hb dX1_add_19 ?_
    refine lv_topi (fun x10 ex10 => ?_)
    have tx10 : x10.toInt = (σ 31 11).toInt - A2 := (jsub ex10 rfl t2 (by omega) (by omega)).trans (by omega)
    refine jcallV (As := [.int a1, .int x10]) (rest := []) ⟨hx, hb, hml, hown, hts⟩ hK hP hA hS hZ (c_X1_trimmed_r l D cI cL ad zz hJ σ τ a1 (A1) t1 x10 ((σ 31 11).toInt - A2) tx10 (by omega) (by omega)) cw_RX1_71 (jc_31 cI cL ad σ τ) rfl ⟨Nat.le_of_ble_eq_true rfl, Nat.le_of_ble_eq_true rfl⟩ rfl rfl rfl hl.1 rfl (Nat.le_of_ble_eq_true rfl) dX1_add_20 ⟨Nat.zero_le _, Nat.zero_le _⟩ (fun r12 σ11 τ11 H locs h11 hP hS => ?_)
    obtain ⟨⟨rfl, rfl⟩, w13, h11⟩ := h11
    have h14 := h11
    obtain ⟨q16, k15⟩ := h14
    refine lv_iload_n hx hb dX1_add_23 rfl (lv_at hl 2 rfl) ?_
    refine lv_bipush (v := 27) hx hb dX1_add_24 (by decide) ?_
    refine lv_ishl hx hb dX1_add_26 ?_
    refine lv_topi (fun x17 ex17 => ?_)
    have gx17 := jrg (rfl : x17.toInt = x17.toInt)
    refine lv_ior hx hb dX1_add_27 ?_
    refine lv_topi (fun x18 ex18 => ?_)
    have gx18 := jrg (rfl : x18.toInt = x18.toInt)
    have k19 := jor27 (x := x18) (a := r12) (d := a2) (by rw [ex18, ex17]) (by omega) (by omega) (by have h9 := t2; omega) (by have h9 := t2; omega)
    rw [t2] at k19
    refine lv_istore_n (lv' := [(3, .int x18), (0, .ref (ad 31)), (1, .int a1), (2, .int a2)]) hx hb dX1_add_28 rfl hl (by decide) rfl (fun ls hl => ?_)
    refine lv_aload_n hx hb dX1_add_29 rfl (lv_at hl 1 rfl) ?_
    refine lv_iload_n hx hb dX1_add_30 rfl (lv_at hl 0 rfl) ?_
    refine jcallV (As := [.int x18]) (rest := []) ⟨hx, hb, hml, hown, hts⟩ hK hP hA hS hZ (c_X1_slotFor_31 l D cI cL ad zz hJ σ τ x18 (x18.toInt) rfl hI31) cw_RX1_77 (jc_31 cI cL ad σ τ) rfl ⟨Nat.le_of_ble_eq_true rfl, Nat.le_of_ble_eq_true rfl⟩ rfl rfl rfl hl.1 rfl (Nat.le_of_ble_eq_true rfl) dX1_add_31 ⟨Nat.zero_le _, Nat.zero_le _⟩ (fun r21 σ20 τ20 H locs h20 hP hS => ?_)
    obtain ⟨⟨rfl, rfl⟩, w22, h20⟩ := h20
    have h23 := h20
    obtain ⟨q25, k24⟩ := h23
    refine lv_istore (lv' := [(4, .int r21), (3, .int x18), (0, .ref (ad 31)), (1, .int a1), (2, .int a2)]) hx hb dX1_add_34 hl (by decide) rfl (fun ls hl => ?_)
    refine lv_iload hx hb dX1_add_36 (lv_at hl 0 rfl) ?_
    refine lv_if_ge (tgt := 45) hx hb dX1_add_38 (by decide) (fun c26 => ?_) (fun c26 => ?_)
    · have kc26 := jle c26 jz_0 rfl
      refine lv_aload_n hx hb dX1_add_45 rfl (lv_at hl 2 rfl) ?_
      refine lv_iload hx hb dX1_add_46 (lv_at hl 0 rfl) ?_
      refine jcallV (As := [.int r21]) (rest := []) ⟨hx, hb, hml, hown, hts⟩ hK hP hA hS hZ (c_X1_isTaken_31 l D cI cL ad zz hJ σ τ r21 (r21.toInt) rfl hI31 (by omega)) cw_RX1_81 (jc_31 cI cL ad σ τ) rfl ⟨Nat.le_of_ble_eq_true rfl, Nat.le_of_ble_eq_true rfl⟩ rfl rfl rfl hl.1 rfl (Nat.le_of_ble_eq_true rfl) dX1_add_48 ⟨Nat.zero_le _, Nat.zero_le _⟩ (fun r28 σ27 τ27 H locs h27 hP hS => ?_)
      obtain ⟨⟨rfl, rfl⟩, h27⟩ := h27
      rcases h27 with h29 | h30
      · obtain ⟨q32, k31⟩ := h29
        have q32 := q32.symm
        subst q32
        refine lv_if_eq (tgt := 62) hx hb dX1_add_51 (by decide) (fun c => absurd c (by decide)) (fun _ => ?_)
        refine lv_aload_n hx hb dX1_add_54 rfl (lv_at hl 2 rfl) ?_
        refine va_get (D := D) hx hb hts inlX1 hown hK hP 31 (jc_31 cI cL ad σ τ) rfl 6 (by decide) (hts _ kw_5_7) (fun _ h9 => h9) rfl dX1_add_55 ?_
        refine lv_iload hx hb dX1_add_58 (lv_at hl 0 rfl) ?_
        refine jald hx hb hK hP (jc_36 cI cL ad σ τ) (jin rfl (by omega) (by omega)) dX1_add_60 ?_
        have g33 := w7 _ (jnat (x := r21) rfl (n := 1024) (by omega) (by decide))
        refine jtopr (y := (σ 36 r21.toNatClampNeg)) rfl ?_
        exact hret (σ 36 r21.toNatClampNeg) σ τ _ _ _ _ rfl ⟨rfl, (fun _ _ => rfl), (fun _ _ => rfl), hI31, hs_jKb, hs_jKh, (jqAd.old (t := r12) (y := x18) (by omega) (by omega) w13 (by omega) (by omega) w22 (by omega) k31 rfl (by omega)), ⟨trivial, (by omega)⟩⟩ hP hS dX1_add_61
      · obtain ⟨q35, k34⟩ := h30
        have q35 := q35.symm
        subst q35
        refine lv_if_eq (tgt := 62) hx hb dX1_add_51 (by decide) (fun _ => ?_) (fun c => absurd (by decide) c)
        refine lv_aload_n hx hb dX1_add_62 rfl (lv_at hl 2 rfl) ?_
        refine va_get (D := D) hx hb hts inlX1 hown hK hP 31 (jc_31 cI cL ad σ τ) rfl 8 (by decide) (hts _ kw_27_22) (fun _ h9 => h9) rfl dX1_add_63 ?_
        refine lv_sipush (v := 350) hx hb dX1_add_66 (by decide) ?_
        refine lv_icmp_lt (tgt := 76) hx hb dX1_add_69 (by decide) (fun c36 => ?_) (fun c36 => ?_)
        · have kc36 := jlt c36 rfl jz_350
          refine lv_aload_n hx hb dX1_add_76 rfl (lv_at hl 2 rfl) ?_
          refine va_get (D := D) hx hb hts inlX1 hown hK hP 31 (jc_31 cI cL ad σ τ) rfl 2 (by decide) (hts _ kw_5_3) (fun _ h9 => h9) rfl dX1_add_77 ?_
          refine lv_aload_n hx hb dX1_add_80 rfl (lv_at hl 2 rfl) ?_
          refine va_get (D := D) hx hb hts inlX1 hown hK hP 31 (jc_31 cI cL ad σ τ) rfl 8 (by decide) (hts _ kw_27_22) (fun _ h9 => h9) rfl dX1_add_81 ?_
          refine lv_iload_n hx hb dX1_add_84 rfl (lv_at hl 1 rfl) ?_
          refine jast hx hb hK hP hJ hA hS (jc_32 cI cL ad σ τ) (ja_32 cI cL ad σ τ _ _) (jin rfl (by omega) (by omega)) dX1_add_85 (fun σ37 H locs eσ37 hP hS => ?_)
          refine lv_aload_n hx hb dX1_add_86 rfl (lv_at hl 2 rfl) ?_
          refine va_get (D := D) hx hb hts inlX1 hown hK hP 31 (jc_31 cI cL ad σ37 τ) rfl 7 (by decide) (hts _ kw_5_8) (fun _ h9 => h9) rfl dX1_add_87 ?_
          refine lv_aload_n hx hb dX1_add_90 rfl (lv_at hl 2 rfl) ?_
          refine va_get (D := D) hx hb hts inlX1 hown hK hP 31 (jc_31 cI cL ad σ37 τ) rfl 8 (by decide) (hts _ kw_27_22) (fun _ h9 => h9) rfl dX1_add_91 ?_
          have m38 : σ37 31 8 = (σ 31 8) := (congrFun (jnp 31 eσ37 (by decide)) 8)
          refine jtopr m38 ?_
          refine lv_iload hx hb dX1_add_94 (lv_at hl 0 rfl) ?_
          refine jast hx hb hK hP hJ hA hS (jc_37 cI cL ad σ37 τ) (ja_37 cI cL ad σ37 τ _ _) (jin rfl (by omega) (by omega)) dX1_add_96 (fun σ39 H locs eσ39 hP hS => ?_)
          refine lv_aload_n hx hb dX1_add_97 rfl (lv_at hl 2 rfl) ?_
          refine va_get (D := D) hx hb hts inlX1 hown hK hP 31 (jc_31 cI cL ad σ39 τ) rfl 6 (by decide) (hts _ kw_5_7) (fun _ h9 => h9) rfl dX1_add_98 ?_
          refine lv_iload hx hb dX1_add_101 (lv_at hl 0 rfl) ?_
          refine lv_aload_n hx hb dX1_add_103 rfl (lv_at hl 2 rfl) ?_
          refine va_get (D := D) hx hb hts inlX1 hown hK hP 31 (jc_31 cI cL ad σ39 τ) rfl 8 (by decide) (hts _ kw_27_22) (fun _ h9 => h9) rfl dX1_add_104 ?_
          have m40 : σ39 31 8 = (σ 31 8) := ((congrFun (jnp 31 eσ39 (by decide)) 8).trans m38)
          refine jtopr m40 ?_
          refine jast hx hb hK hP hJ hA hS (jc_36 cI cL ad σ39 τ) (ja_36 cI cL ad σ39 τ _ _) (jin rfl (by omega) (by omega)) dX1_add_107 (fun σ41 H locs eσ41 hP hS => ?_)
          refine lv_aload_n hx hb dX1_add_108 rfl (lv_at hl 2 rfl) ?_
          refine lv_dup hx hb dX1_add_109 rfl ?_
          refine va_get (D := D) hx hb hts inlX1 hown hK hP 31 (jc_31 cI cL ad σ41 τ) rfl 8 (by decide) (hts _ kw_27_22) (fun _ h9 => h9) rfl dX1_add_110 ?_
          have m42 : σ41 31 8 = (σ 31 8) := ((congrFun (jnp 31 eσ41 (by decide)) 8).trans m40)
          refine jtopr m42 ?_
          refine lv_dup_x1 hx hb dX1_add_113 rfl rfl ?_
          refine lv_iconst (v := 1) hx hb dX1_add_114 (by decide) ?_
          have g43 := jrg (rfl : (σ 31 8).toInt = (σ 31 8).toInt)
          refine lv_iadd hx hb dX1_add_115 ?_
          refine lv_topi (fun x44 ex44 => ?_)
          have tx44 : x44.toInt = (σ 31 8).toInt + 1 := (jadd ex44 rfl jz_1 (by omega) (by omega)).trans (by omega)
          refine jput (ty := .int) hx hb hts inlX1 tyX1 tyX1_ok nmX1 hown hK hP hJ hA hS (jc_31 cI cL ad σ41 τ) rfl (k := 8) (by decide) (Nat.le_of_ble_eq_true rfl) (jp_31_8 cI cL ad σ41 τ x44) (hts _ kw_27_22) (fun _ h9 => h9) rfl (by decide +kernel) rfl rfl dX1_add_116 (fun σ45 H locs eσ45 hP hS => ?_)
          have z46 : (σ45 31 8).toInt = (σ 31 8).toInt + 1 := ((congrArg Int32.toInt (show σ45 31 8 = x44 from (jsp eσ45))).trans tx44)
          have z47 : (σ45 31 11).toInt = (σ 31 11).toInt := (congrArg Int32.toInt (show σ45 31 11 = (σ 31 11) from ((jkp 11 eσ45 (by decide)).trans ((congrFun (jnp 31 eσ41 (by decide)) 11).trans ((congrFun (jnp 31 eσ39 (by decide)) 11).trans (congrFun (jnp 31 eσ37 (by decide)) 11))))))
          have p48 : jKb σ45 := (jKb.add hs_jKb (by rw [eσ45, jup_n (by decide), eσ41, jup_n (by decide), eσ39, jup_n (by decide), eσ37, jup_row, jnc (show (σ 31 8).toInt = (σ 31 8).toInt by omega)]) (by omega) ((jkp 11 eσ45 (by decide)).trans ((congrFun (jnp 31 eσ41 (by decide)) 11).trans ((congrFun (jnp 31 eσ39 (by decide)) 11).trans (congrFun (jnp 31 eσ37 (by decide)) 11)))) (by omega) (by omega) (by omega))
          have p49 : jKh σ45 := (show jqHs (σ45 31 8).toInt _ _ _ from jqHs.add hs_jKh w22 (by omega) k34 (by omega) (by rw [eσ45, jup_n (by decide), eσ41, jup_n (by decide), eσ39, jup_n (by decide), eσ37, jup_row, jnc (show (σ 31 8).toInt = (σ 31 8).toInt by omega)]) (by rw [eσ45, jup_n (by decide), eσ41, jup_row, eσ39, jup_n (by decide), eσ37, jup_n (by decide), jnc (show r21.toInt = r21.toInt by omega)]) (by omega) (by rw [eσ45, jup_n (by decide), eσ41, jup_n (by decide), eσ39, jup_row, eσ37, jup_n (by decide), jnc (show (σ 31 8).toInt = (σ 31 8).toInt by omega)]) (by omega) (by omega))
          have z50 : (σ45 31 10).toInt = (σ 31 10).toInt := (congrArg Int32.toInt (show σ45 31 10 = (σ 31 10) from ((jkp 10 eσ45 (by decide)).trans ((congrFun (jnp 31 eσ41 (by decide)) 10).trans ((congrFun (jnp 31 eσ39 (by decide)) 10).trans (congrFun (jnp 31 eσ37 (by decide)) 10))))))
          have w51 : ∀ k : Nat, k < 1400 → (-1) ≤ (σ45 33 k).toInt ∧ (σ45 33 k).toInt ≤ 350 := (jrr_fr (jnp 33 eσ45 (by decide)) (jrr_fr (jnp 33 eσ41 (by decide)) (jrr_fr (jnp 33 eσ39 (by decide)) (jrr_fr (jnp 33 eσ37 (by decide)) w5))))
          have w52 : ∀ k : Nat, k < 3159 → (-1) ≤ (σ45 35 k).toInt ∧ (σ45 35 k).toInt ≤ 3 := (jrr_fr (jnp 35 eσ45 (by decide)) (jrr_fr (jnp 35 eσ41 (by decide)) (jrr_fr (jnp 35 eσ39 (by decide)) (jrr_fr (jnp 35 eσ37 (by decide)) w6))))
          have w53 : ∀ k : Nat, k < 1024 → 0 ≤ (σ45 36 k).toInt ∧ (σ45 36 k).toInt ≤ 349 := (jrr_fr (jnp 36 eσ45 (by decide)) (by rw [eσ41]; exact jrr_up (jrr_fr (jnp 36 eσ39 (by decide)) (jrr_fr (jnp 36 eσ37 (by decide)) w7)) (by omega) (by omega)))
          have I54 : jI31 σ45 := ⟨(by omega), (by omega), (by omega), (by omega), w51, w52, w53⟩
          exact hret (σ 31 8) σ45 τ _ _ _ _ rfl ⟨rfl, (fun i hi => ((jnp i eσ45 (imp_81 i hi)).trans ((jnp i eσ41 (imp_82 i hi)).trans ((jnp i eσ39 (imp_83 i hi)).trans (jnp i eσ37 (imp_84 i hi)))))), (fun i hi => ((jkp i eσ45 (imp_85 i hi)).trans ((congrFun (jnp 31 eσ41 (by decide)) i).trans ((congrFun (jnp 31 eσ39 (by decide)) i).trans (congrFun (jnp 31 eσ37 (by decide)) i))))), I54, p48, p49, (jqAd.new (t := r12) (y := x18) (by omega) (by omega) w13 (by omega) (by omega) (by omega) (by rw [eσ45, jup_n (by decide), eσ41, jup_n (by decide), eσ39, jup_n (by decide), eσ37, jup_row, jnc (show (σ 31 8).toInt = (σ 31 8).toInt by omega)]) (by omega) (by omega) (by omega)), ⟨trivial, (by omega)⟩⟩ hP hS dX1_add_119
        · have kc36 := jnlt c36 rfl jz_350
          refine lv_sipush (v := 350) hx hb dX1_add_72 (by decide) ?_
          exact hret 350 σ τ _ _ _ _ rfl ⟨rfl, (fun _ _ => rfl), (fun _ _ => rfl), hI31, hs_jKb, hs_jKh, (by rw [show (350 : Int32).toInt = 350 from by decide]; exact jqAd.full (t := r12) (by omega) (by omega) w13 (by omega) (by omega) (by omega)), ⟨trivial, (by have h9 := jz_350; omega)⟩⟩ hP hS dX1_add_75
    · have kc26 := jnle c26 jz_0 rfl
      refine lv_sipush (v := 350) hx hb dX1_add_41 (by decide) ?_
      exact hret 350 σ τ _ _ _ _ rfl ⟨rfl, (fun _ _ => rfl), (fun _ _ => rfl), hI31, hs_jKb, hs_jKh, (absurd (w22.full (by omega)) (by omega)), ⟨trivial, (by have h9 := jz_350; omega)⟩⟩ hP hS dX1_add_44
  · have kc8 := jnlt c8 t2 rfl
    refine lv_sipush (v := 350) hx hb dX1_add_8 (by decide) ?_
    exact hret 350 σ τ _ _ _ _ rfl ⟨rfl, (fun _ _ => rfl), (fun _ _ => rfl), hI31, hs_jKb, hs_jKh, (by rw [show (350 : Int32).toInt = 350 from by decide]; exact jqAd.out (by omega)), ⟨trivial, (by have h9 := jz_350; omega)⟩⟩ hP hS dX1_add_11
set_option maxHeartbeats 4000000 in
set_option maxRecDepth 100000 in
theorem c_X1_nodeOf_31 (l : Launch) (D : va_G) (cI cL : ClassId) (ad zz : Nat → Nat) (hJ : jD ad) (σ : Nat → Nat → Int32) (τ : Nat → Nat → Int64) (a1 : Int32) (A1 : Int) (t1 : a1.toInt = A1) (a2 : Int32) (A2 : Int) (t2 : a2.toInt = A2) (hI31 : jI31 σ) : jM l yX1_nodeOf cX1_nodeOf 5 (some .int) ({ frames := 2, cells := 0, slots := 0, locals := 49 }) D cI cL ad zz [.ref (ad 31), .int a1, .int a2] σ τ (fun r σ' τ' => (σ = σ' ∧ τ = τ') ∧ ((True ∧ ((-1) ≤ r.toInt ∧ r.toInt ≤ 349)))) := by
  refine jM.of hJ (by decide +kernel) (nt := .int) rfl (Nat.le_of_ble_eq_true rfl) ?_
  intro p e s m args below meth c Q ls hC hret hl hP
  obtain ⟨hx, hb, hr, hml, hown, hts, hK, -, hlocks, hZ⟩ := hC
  have hown : s.vm.findClass RX1 = some m.cls := hown
  have hS : va_S (jA ad) s.heap s.heap [] := va_S.rf
  have hA : ∀ q, jA ad q → jA ad q := fun _ h => h
  have hl : lv_has ls 5 [(0, .ref (ad 31)), (1, .int a1), (2, .int a2)] := hl
  have g1 := jrg t1
  have g2 := jrg t2
  obtain ⟨i1, i2, i3, i4, w5, w6, w7⟩ : (0 ≤ (σ 31 8).toInt ∧ (σ 31 8).toInt ≤ 350) ∧ (0 ≤ (σ 31 10).toInt ∧ (σ 31 10).toInt ≤ 12) ∧ (0 ≤ (σ 31 11).toInt ∧ (σ 31 11).toInt ≤ 8) ∧ ((σ 31 10).toInt + (σ 31 11).toInt ≤ 12) ∧ (∀ k : Nat, k < 1400 → (-1) ≤ (σ 33 k).toInt ∧ (σ 33 k).toInt ≤ 350) ∧ (∀ k : Nat, k < 3159 → (-1) ≤ (σ 35 k).toInt ∧ (σ 35 k).toInt ≤ 3) ∧ (∀ k : Nat, k < 1024 → 0 ≤ (σ 36 k).toInt ∧ (σ 36 k).toInt ≤ 349) := id hI31
  refine lv_iload_n hx hb dX1_nodeOf_0 rfl (lv_at hl 2 rfl) ?_
  refine lv_aload_n hx hb dX1_nodeOf_1 rfl (lv_at hl 0 rfl) ?_
  refine va_get (D := D) hx hb hts inlX1 hown hK hP 31 (jc_31 cI cL ad σ τ) rfl 10 (by decide) (hts _ kw_28_9) (fun _ h9 => h9) rfl dX1_nodeOf_2 ?_
  have g8 := jrg (rfl : (σ 31 10).toInt = (σ 31 10).toInt)
  refine lv_isub hx hb dX1_nodeOf_5 ?_
  refine lv_topi (fun x9 ex9 => ?_)
  have gx9 := jrg (rfl : x9.toInt = x9.toInt)
  refine lv_istore_n (lv' := [(3, .int x9), (0, .ref (ad 31)), (1, .int a1), (2, .int a2)]) hx hb dX1_nodeOf_6 rfl hl (by decide) rfl (fun ls hl => ?_)
  refine lv_iload_n hx hb dX1_nodeOf_7 rfl (lv_at hl 0 rfl) ?_
  refine lv_if_lt (tgt := 19) hx hb dX1_nodeOf_8 (by decide) (fun c10 => ?_) (fun c10 => ?_)
  · have kc10 := jlt c10 rfl jz_0
    refine lv_iconst (v := (-1)) hx hb dX1_nodeOf_19 (by decide) ?_
    exact hret (-1) σ τ _ _ _ _ rfl ⟨⟨rfl, rfl⟩, ⟨trivial, (by have h9 := jz_m1; omega)⟩⟩ hP hS dX1_nodeOf_20
  · have kc10 := jnlt c10 rfl jz_0
    refine lv_iload_n hx hb dX1_nodeOf_11 rfl (lv_at hl 0 rfl) ?_
    refine lv_aload_n hx hb dX1_nodeOf_12 rfl (lv_at hl 1 rfl) ?_
    refine va_get (D := D) hx hb hts inlX1 hown hK hP 31 (jc_31 cI cL ad σ τ) rfl 11 (by decide) (hts _ kw_28_7) (fun _ h9 => h9) rfl dX1_nodeOf_13 ?_
    refine lv_icmp_lt (tgt := 21) hx hb dX1_nodeOf_16 (by decide) (fun c11 => ?_) (fun c11 => ?_)
    · have kc11 := jlt c11 rfl rfl
      refine lv_aload_n hx hb dX1_nodeOf_21 rfl (lv_at hl 1 rfl) ?_
      refine lv_aload_n hx hb dX1_nodeOf_22 rfl (lv_at hl 1 rfl) ?_
      refine lv_iload_n hx hb dX1_nodeOf_23 rfl (lv_at hl 2 rfl) ?_
      refine lv_aload_n hx hb dX1_nodeOf_24 rfl (lv_at hl 1 rfl) ?_
      refine va_get (D := D) hx hb hts inlX1 hown hK hP 31 (jc_31 cI cL ad σ τ) rfl 11 (by decide) (hts _ kw_28_7) (fun _ h9 => h9) rfl dX1_nodeOf_25 ?_
      refine lv_iload_n hx hb dX1_nodeOf_28 rfl (lv_at hl 0 rfl) ?_
      have g12 := jrg (rfl : (σ 31 11).toInt = (σ 31 11).toInt)
      have g13 := jrg (rfl : x9.toInt = x9.toInt)
      refine lv_isub hx hb dX1_nodeOf_29 ?_
      refine lv_topi (fun x14 ex14 => ?_)
      have tx14 : x14.toInt = (σ 31 11).toInt - x9.toInt := (jsub ex14 rfl rfl (by omega) (by omega)).trans (by omega)
      refine jcallV (As := [.int a1, .int x14]) (rest := [.ref (ad 31)]) ⟨hx, hb, hml, hown, hts⟩ hK hP hA hS hZ (c_X1_trimmed_31 l D cI cL ad zz hJ σ τ a1 (A1) t1 x14 ((σ 31 11).toInt - x9.toInt) tx14) cw_RX1_71 (jc_31 cI cL ad σ τ) rfl ⟨Nat.le_of_ble_eq_true rfl, Nat.le_of_ble_eq_true rfl⟩ rfl rfl rfl hl.1 rfl (Nat.le_of_ble_eq_true rfl) dX1_nodeOf_30 ⟨Nat.zero_le _, Nat.zero_le _⟩ (fun r16 σ15 τ15 H locs h15 hP hS => ?_)
      obtain ⟨⟨rfl, rfl⟩, h15⟩ := h15
      refine lv_iload_n hx hb dX1_nodeOf_33 rfl (lv_at hl 0 rfl) ?_
      refine lv_bipush (v := 27) hx hb dX1_nodeOf_34 (by decide) ?_
      refine lv_ishl hx hb dX1_nodeOf_36 ?_
      refine lv_topi (fun x17 ex17 => ?_)
      have gx17 := jrg (rfl : x17.toInt = x17.toInt)
      refine lv_ior hx hb dX1_nodeOf_37 ?_
      refine lv_topi (fun x18 ex18 => ?_)
      have gx18 := jrg (rfl : x18.toInt = x18.toInt)
      refine jcallV (As := [.int x18]) (rest := []) ⟨hx, hb, hml, hown, hts⟩ hK hP hA hS hZ (c_X1_slotFor_31 l D cI cL ad zz hJ σ τ x18 (x18.toInt) rfl hI31) cw_RX1_77 (jc_31 cI cL ad σ τ) rfl ⟨Nat.le_of_ble_eq_true rfl, Nat.le_of_ble_eq_true rfl⟩ rfl rfl rfl hl.1 rfl (Nat.le_of_ble_eq_true rfl) dX1_nodeOf_38 ⟨Nat.zero_le _, Nat.zero_le _⟩ (fun r20 σ19 τ19 H locs h19 hP hS => ?_)
      obtain ⟨⟨rfl, rfl⟩, w21, h19⟩ := h19
      have h22 := h19
      obtain ⟨q24, k23⟩ := h22
      refine lv_istore (lv' := [(4, .int r20), (3, .int x9), (0, .ref (ad 31)), (1, .int a1), (2, .int a2)]) hx hb dX1_nodeOf_41 hl (by decide) rfl (fun ls hl => ?_)
      refine lv_iload hx hb dX1_nodeOf_43 (lv_at hl 0 rfl) ?_
      refine lv_if_lt (tgt := 57) hx hb dX1_nodeOf_45 (by decide) (fun c25 => ?_) (fun c25 => ?_)
      · have kc25 := jlt c25 rfl jz_0
        refine lv_iconst (v := (-1)) hx hb dX1_nodeOf_57 (by decide) ?_
        refine lv_goto (tgt := 68) hx hb dX1_nodeOf_58 (by decide) ?_
        exact hret (-1) σ τ _ _ _ _ rfl ⟨⟨rfl, rfl⟩, ⟨trivial, (by have h9 := jz_m1; omega)⟩⟩ hP hS dX1_nodeOf_68
      · have kc25 := jnlt c25 rfl jz_0
        refine lv_aload_n hx hb dX1_nodeOf_48 rfl (lv_at hl 2 rfl) ?_
        refine lv_iload hx hb dX1_nodeOf_49 (lv_at hl 0 rfl) ?_
        refine jcallV (As := [.int r20]) (rest := []) ⟨hx, hb, hml, hown, hts⟩ hK hP hA hS hZ (c_X1_isTaken_31 l D cI cL ad zz hJ σ τ r20 (r20.toInt) rfl hI31 (by omega)) cw_RX1_81 (jc_31 cI cL ad σ τ) rfl ⟨Nat.le_of_ble_eq_true rfl, Nat.le_of_ble_eq_true rfl⟩ rfl rfl rfl hl.1 rfl (Nat.le_of_ble_eq_true rfl) dX1_nodeOf_51 ⟨Nat.zero_le _, Nat.zero_le _⟩ (fun r27 σ26 τ26 H locs h26 hP hS => ?_)
        obtain ⟨⟨rfl, rfl⟩, h26⟩ := h26
        rcases h26 with h28 | h29
        · obtain ⟨q31, k30⟩ := h28
          have q31 := q31.symm
          subst q31
          refine lv_if_ne (tgt := 61) hx hb dX1_nodeOf_54 (by decide) (fun _ => ?_) (fun c => absurd c (by decide))
          refine lv_aload_n hx hb dX1_nodeOf_61 rfl (lv_at hl 2 rfl) ?_
          refine va_get (D := D) hx hb hts inlX1 hown hK hP 31 (jc_31 cI cL ad σ τ) rfl 6 (by decide) (hts _ kw_5_7) (fun _ h9 => h9) rfl dX1_nodeOf_62 ?_
          refine lv_iload hx hb dX1_nodeOf_65 (lv_at hl 0 rfl) ?_
          refine jald hx hb hK hP (jc_36 cI cL ad σ τ) (jin rfl (by omega) (by omega)) dX1_nodeOf_67 ?_
          have g32 := w7 _ (jnat (x := r20) rfl (n := 1024) (by omega) (by decide))
          refine lv_topi (fun x33 ex33 => ?_)
          rw [← ex33] at g32
          exact hret x33 σ τ _ _ _ _ rfl ⟨⟨rfl, rfl⟩, ⟨trivial, (by omega)⟩⟩ hP hS dX1_nodeOf_68
        · obtain ⟨q35, k34⟩ := h29
          have q35 := q35.symm
          subst q35
          refine lv_if_ne (tgt := 61) hx hb dX1_nodeOf_54 (by decide) (fun c => absurd (by decide) c) (fun _ => ?_)
          refine lv_iconst (v := (-1)) hx hb dX1_nodeOf_57 (by decide) ?_
          refine lv_goto (tgt := 68) hx hb dX1_nodeOf_58 (by decide) ?_
          exact hret (-1) σ τ _ _ _ _ rfl ⟨⟨rfl, rfl⟩, ⟨trivial, (by have h9 := jz_m1; omega)⟩⟩ hP hS dX1_nodeOf_68
    · have kc11 := jnlt c11 rfl rfl
      refine lv_iconst (v := (-1)) hx hb dX1_nodeOf_19 (by decide) ?_
      exact hret (-1) σ τ _ _ _ _ rfl ⟨⟨rfl, rfl⟩, ⟨trivial, (by have h9 := jz_m1; omega)⟩⟩ hP hS dX1_nodeOf_20
set_option maxHeartbeats 4000000 in
set_option maxRecDepth 100000 in
theorem c_X1_grow_31 (l : Launch) (D : va_G) (cI cL : ClassId) (ad zz : Nat → Nat) (hJ : jD ad) (σ : Nat → Nat → Int32) (τ : Nat → Nat → Int64) (a1 : Int32) (A1 : Int) (t1 : a1.toInt = A1) (a2 : Int32) (A2 : Int) (t2 : a2.toInt = A2) (hI16 : jI16 σ) (hI31 : jI31 σ) (hs_jKb : jKb σ) (hs_jKh : jKh σ) (hs_jKg : jKg σ) (hp0 : 0 ≤ A1 ∧ A1 ≤ 134217727) (hp1 : 0 ≤ A2 ∧ A2 ≤ 12) : jMv l yX1_grow cX1_grow 9 none ({ frames := 3, cells := 0, slots := 0, locals := 73 }) D cI cL ad zz [.ref (ad 31), .int a1, .int a2] σ τ (fun σ' τ' => τ = τ' ∧ (∀ i : Nat, (i < 31 ∨ 33 < i) ∧ (i < 36 ∨ 37 < i) → σ' i = σ i) ∧ (∀ k : Nat, (k < 8 ∨ 8 < k) ∧ (k < 9 ∨ 9 < k) ∧ (k < 10 ∨ 10 < k) ∧ (k < 11 ∨ 11 < k) ∧ (k < 12 ∨ 12 < k) → σ' 31 k = σ 31 k) ∧ (jI31 σ') ∧ (jKb σ') ∧ (jKh σ') ∧ (jKg σ') ∧ True) := by
  refine jMv.of hJ (by decide +kernel) rfl (Nat.le_of_ble_eq_true rfl) ?_
  intro p e s m args below meth c Q ls hC hret hl hP
  obtain ⟨hx, hb, hr, hml, hown, hts, hK, -, hlocks, hZ⟩ := hC
  have hown : s.vm.findClass RX1 = some m.cls := hown
  have hS : va_S (jA ad) s.heap s.heap [] := va_S.rf
  have hA : ∀ q, jA ad q → jA ad q := fun _ h => h
  have hl : lv_has ls 9 [(0, .ref (ad 31)), (1, .int a1), (2, .int a2)] := hl
  have g1 := jrg t1
  have g2 := jrg t2
  obtain ⟨i1, i2, i3, w4⟩ : (1 ≤ (σ 16 0).toInt ∧ (σ 16 0).toInt ≤ 8) ∧ (1 ≤ (σ 16 1).toInt ∧ (σ 16 1).toInt ≤ 12) ∧ (0 ≤ (σ 16 2).toInt ∧ (σ 16 2).toInt ≤ 999) ∧ (∀ k : Nat, k < 8 → 0 ≤ (σ 17 k).toInt ∧ (σ 17 k).toInt ≤ 3) := id hI16
  obtain ⟨i5, i6, i7, i8, w9, w10, w11⟩ : (0 ≤ (σ 31 8).toInt ∧ (σ 31 8).toInt ≤ 350) ∧ (0 ≤ (σ 31 10).toInt ∧ (σ 31 10).toInt ≤ 12) ∧ (0 ≤ (σ 31 11).toInt ∧ (σ 31 11).toInt ≤ 8) ∧ ((σ 31 10).toInt + (σ 31 11).toInt ≤ 12) ∧ (∀ k : Nat, k < 1400 → (-1) ≤ (σ 33 k).toInt ∧ (σ 33 k).toInt ≤ 350) ∧ (∀ k : Nat, k < 3159 → (-1) ≤ (σ 35 k).toInt ∧ (σ 35 k).toInt ≤ 3) ∧ (∀ k : Nat, k < 1024 → 0 ≤ (σ 36 k).toInt ∧ (σ 36 k).toInt ≤ 349) := id hI31
  refine lv_iconst (v := 0) hx hb dX1_grow_0 (by decide) ?_
  refine lv_bipush (v := 8) hx hb dX1_grow_1 (by decide) ?_
  refine lv_aload_n hx hb dX1_grow_3 rfl (lv_at hl 0 rfl) ?_
  refine va_get (D := D) hx hb hts inlX1 hown hK hP 31 (jc_31 cI cL ad σ τ) rfl 1 (by decide) (hts _ kw_5_11) (fun _ h9 => h9) rfl dX1_grow_4 ?_
  refine va_get (D := D) hx hb hts inlX6 hown hK hP 16 (jc_16 cI cL ad σ τ) rfl 1 (by decide) (hts _ kw_28_3) (fun _ h9 => h9) rfl dX1_grow_7 ?_
  refine lv_iload_n hx hb dX1_grow_10 rfl (lv_at hl 2 rfl) ?_
  have g12 := jrg (rfl : (σ 16 1).toInt = (σ 16 1).toInt)
  refine lv_isub hx hb dX1_grow_11 ?_
  refine lv_topi (fun x13 ex13 => ?_)
  have tx13 : x13.toInt = (σ 16 1).toInt - A2 := (jsub ex13 rfl t2 (by omega) (by omega)).trans (by omega)
  refine va_mmin hx hb (hml.trans hl.1.symm) hown (hts _ kw_28_4) (hts _ kw_22_11) (hts _ kw_21_1) (hts _ kw_22_12) (Nat.le_of_ble_eq_true rfl) (Nat.le_of_ble_eq_true rfl) (Nat.le_of_ble_eq_true rfl) (Nat.le_of_ble_eq_true rfl) dX1_grow_12 ?_
  refine lv_topi (fun x14 ex14 => ?_)
  have g15 := jmin ex14 jz_8 tx13
  refine va_mmax hx hb (hml.trans hl.1.symm) hown (hts _ kw_28_5) (hts _ kw_21_0) (hts _ kw_21_1) (hts _ kw_21_2) (Nat.le_of_ble_eq_true rfl) (Nat.le_of_ble_eq_true rfl) (Nat.le_of_ble_eq_true rfl) (Nat.le_of_ble_eq_true rfl) dX1_grow_15 ?_
  refine lv_topi (fun x16 ex16 => ?_)
  have g17 := jmax ex16 jz_0 rfl
  refine lv_istore_n (lv' := [(3, .int x16), (0, .ref (ad 31)), (1, .int a1), (2, .int a2)]) hx hb dX1_grow_18 rfl hl (by decide) rfl (fun ls hl => ?_)
  refine lv_aload_n hx hb dX1_grow_19 rfl (lv_at hl 1 rfl) ?_
  refine va_get (D := D) hx hb hts inlX1 hown hK hP 31 (jc_31 cI cL ad σ τ) rfl 0 (by decide) (hts _ kw_5_10) (fun _ h9 => h9) rfl dX1_grow_20 ?_
  refine va_get (D := D) hx hb hts inlX5 hown hK hP 26 (jc_26 cI cL ad σ τ) rfl 0 (by decide) (hts _ kw_28_6) (fun _ h9 => h9) rfl dX1_grow_23 ?_
  refine lv_iconst (v := 5) hx hb dX1_grow_26 (by decide) ?_
  refine jcallV (As := [.int 5]) (rest := []) ⟨hx, hb, hml, hown, hts⟩ hK hP hA hS hZ (c_X10_uses_22 l D cI cL ad zz hJ σ τ 5 (5) jz_5 (by omega)) cw_RX1_104 (jc_22 cI cL ad σ τ) rfl ⟨Nat.le_of_ble_eq_true rfl, Nat.le_of_ble_eq_true rfl⟩ rfl rfl rfl hl.1 rfl (Nat.le_of_ble_eq_true rfl) dX1_grow_27 ⟨Nat.zero_le _, Nat.zero_le _⟩ (fun r19 σ18 τ18 H locs h18 hP hS => ?_)
  obtain ⟨⟨rfl, rfl⟩, w20, h18⟩ := h18
  rcases h18 with h21 | h22
  · obtain ⟨q24, k23⟩ := h21
    have q24 := q24.symm
    subst q24
    refine lv_istore (lv' := [(4, .int 1), (3, .int x16), (0, .ref (ad 31)), (1, .int a1), (2, .int a2)]) hx hb dX1_grow_30 hl (by decide) rfl (fun ls hl => ?_)
    refine lv_aload_n hx hb dX1_grow_32 rfl (lv_at hl 2 rfl) ?_
    refine va_get (D := D) hx hb hts inlX1 hown hK hP 31 (jc_31 cI cL ad σ τ) rfl 9 (by decide) (hts _ kw_5_9) (fun _ h9 => h9) rfl dX1_grow_33 ?_
    refine lv_iload_n hx hb dX1_grow_36 rfl (lv_at hl 3 rfl) ?_
    refine lv_icmp_ne (tgt := 63) hx hb dX1_grow_37 (by decide) (fun c25 => ?_) (fun c25 => ?_)
    · have kc25 := jne c25 rfl t1
      refine lv_aload_n hx hb dX1_grow_63 rfl (lv_at hl 2 rfl) ?_
      refine lv_iload_n hx hb dX1_grow_64 rfl (lv_at hl 3 rfl) ?_
      refine jput (ty := .int) hx hb hts inlX1 tyX1 tyX1_ok nmX1 hown hK hP hJ hA hS (jc_31 cI cL ad σ τ) rfl (k := 9) (by decide) (Nat.le_of_ble_eq_true rfl) (jp_31_9 cI cL ad σ τ a1) (hts _ kw_5_9) (fun _ h9 => h9) rfl (by decide +kernel) rfl rfl dX1_grow_65 (fun σ26 H locs eσ26 hP hS => ?_)
      refine lv_aload_n hx hb dX1_grow_68 rfl (lv_at hl 2 rfl) ?_
      refine lv_iload_n hx hb dX1_grow_69 rfl (lv_at hl 4 rfl) ?_
      refine jput (ty := .int) hx hb hts inlX1 tyX1 tyX1_ok nmX1 hown hK hP hJ hA hS (jc_31 cI cL ad σ26 τ) rfl (k := 10) (by decide) (Nat.le_of_ble_eq_true rfl) (jp_31_10 cI cL ad σ26 τ a2) (hts _ kw_28_9) (fun _ h9 => h9) rfl (by decide +kernel) rfl rfl dX1_grow_70 (fun σ27 H locs eσ27 hP hS => ?_)
      refine lv_aload_n hx hb dX1_grow_73 rfl (lv_at hl 2 rfl) ?_
      refine lv_iload_n hx hb dX1_grow_74 rfl (lv_at hl 1 rfl) ?_
      refine jput (ty := .int) hx hb hts inlX1 tyX1 tyX1_ok nmX1 hown hK hP hJ hA hS (jc_31 cI cL ad σ27 τ) rfl (k := 11) (by decide) (Nat.le_of_ble_eq_true rfl) (jp_31_11 cI cL ad σ27 τ x16) (hts _ kw_28_7) (fun _ h9 => h9) rfl (by decide +kernel) rfl rfl dX1_grow_75 (fun σ28 H locs eσ28 hP hS => ?_)
      refine lv_aload_n hx hb dX1_grow_78 rfl (lv_at hl 2 rfl) ?_
      refine lv_iload hx hb dX1_grow_79 (lv_at hl 0 rfl) ?_
      refine jput (ty := .boolean) hx hb hts inlX1 tyX1 tyX1_ok nmX1 hown hK hP hJ hA hS (jc_31 cI cL ad σ28 τ) rfl (k := 12) (by decide) (Nat.le_of_ble_eq_true rfl) (jp_31_12 cI cL ad σ28 τ 1) (hts _ kw_28_8) (fun _ h9 => h9) rfl (by decide +kernel) rfl rfl dX1_grow_81 (fun σ29 H locs eσ29 hP hS => ?_)
      refine lv_aload_n hx hb dX1_grow_84 rfl (lv_at hl 2 rfl) ?_
      refine lv_iconst (v := 0) hx hb dX1_grow_85 (by decide) ?_
      refine jput (ty := .int) hx hb hts inlX1 tyX1 tyX1_ok nmX1 hown hK hP hJ hA hS (jc_31 cI cL ad σ29 τ) rfl (k := 8) (by decide) (Nat.le_of_ble_eq_true rfl) (jp_31_8 cI cL ad σ29 τ 0) (hts _ kw_27_22) (fun _ h9 => h9) rfl (by decide +kernel) rfl rfl dX1_grow_86 (fun σ30 H locs eσ30 hP hS => ?_)
      have z31 : (σ30 31 8).toInt = 0 := ((congrArg Int32.toInt (show σ30 31 8 = 0 from (jsp eσ30))).trans jz_0)
      have p32 : jKb σ30 := (jKb.nil (by omega))
      have p33 : jKh σ30 := (jKh.nil (by omega))
      refine lv_aload_n hx hb dX1_grow_89 rfl (lv_at hl 2 rfl) ?_
      refine lv_iload_n hx hb dX1_grow_90 rfl (lv_at hl 3 rfl) ?_
      refine lv_iconst (v := 0) hx hb dX1_grow_91 (by decide) ?_
      have z34 : (σ30 31 10).toInt = A2 := ((congrArg Int32.toInt (show σ30 31 10 = a2 from ((jkp 10 eσ30 (by decide)).trans ((jkp 10 eσ29 (by decide)).trans ((jkp 10 eσ28 (by decide)).trans (jsp eσ27)))))).trans t2)
      have z35 : (σ30 31 11).toInt = x16.toInt := (congrArg Int32.toInt (show σ30 31 11 = x16 from ((jkp 11 eσ30 (by decide)).trans ((jkp 11 eσ29 (by decide)).trans (jsp eσ28)))))
      have w36 : ∀ k : Nat, k < 1400 → (-1) ≤ (σ30 33 k).toInt ∧ (σ30 33 k).toInt ≤ 350 := (jrr_fr (jnp 33 eσ30 (by decide)) (jrr_fr (jnp 33 eσ29 (by decide)) (jrr_fr (jnp 33 eσ28 (by decide)) (jrr_fr (jnp 33 eσ27 (by decide)) (jrr_fr (jnp 33 eσ26 (by decide)) w9)))))
      have w37 : ∀ k : Nat, k < 3159 → (-1) ≤ (σ30 35 k).toInt ∧ (σ30 35 k).toInt ≤ 3 := (jrr_fr (jnp 35 eσ30 (by decide)) (jrr_fr (jnp 35 eσ29 (by decide)) (jrr_fr (jnp 35 eσ28 (by decide)) (jrr_fr (jnp 35 eσ27 (by decide)) (jrr_fr (jnp 35 eσ26 (by decide)) w10)))))
      have w38 : ∀ k : Nat, k < 1024 → 0 ≤ (σ30 36 k).toInt ∧ (σ30 36 k).toInt ≤ 349 := (jrr_fr (jnp 36 eσ30 (by decide)) (jrr_fr (jnp 36 eσ29 (by decide)) (jrr_fr (jnp 36 eσ28 (by decide)) (jrr_fr (jnp 36 eσ27 (by decide)) (jrr_fr (jnp 36 eσ26 (by decide)) w11)))))
      have I39 : jI31 σ30 := ⟨(by omega), (by omega), (by omega), (by omega), w36, w37, w38⟩
      refine jcallV (As := [.int a1, .int 0]) (rest := []) ⟨hx, hb, hml, hown, hts⟩ hK hP hA hS hZ (c_X1_add_31 l D cI cL ad zz hJ σ30 τ a1 (A1) t1 0 (0) jz_0 I39 p32 p33 (by omega) (by omega)) cw_RX1_111 (jc_31 cI cL ad σ30 τ) rfl ⟨Nat.le_of_ble_eq_true rfl, Nat.le_of_ble_eq_true rfl⟩ rfl rfl rfl hl.1 rfl (Nat.le_of_ble_eq_true rfl) dX1_grow_92 ⟨Nat.zero_le _, Nat.zero_le _⟩ (fun r41 σ40 τ40 H locs h40 hP hS => ?_)
      obtain ⟨rfl, f42, f43, I44, p45, p46, w47, h40⟩ := h40
      obtain ⟨i49, i50, i51, i52, w53, w54, w55⟩ : (0 ≤ (σ40 31 8).toInt ∧ (σ40 31 8).toInt ≤ 350) ∧ (0 ≤ (σ40 31 10).toInt ∧ (σ40 31 10).toInt ≤ 12) ∧ (0 ≤ (σ40 31 11).toInt ∧ (σ40 31 11).toInt ≤ 8) ∧ ((σ40 31 10).toInt + (σ40 31 11).toInt ≤ 12) ∧ (∀ k : Nat, k < 1400 → (-1) ≤ (σ40 33 k).toInt ∧ (σ40 33 k).toInt ≤ 350) ∧ (∀ k : Nat, k < 3159 → (-1) ≤ (σ40 35 k).toInt ∧ (σ40 35 k).toInt ≤ 3) ∧ (∀ k : Nat, k < 1024 → 0 ≤ (σ40 36 k).toInt ∧ (σ40 36 k).toInt ≤ 349) := id I44
      have z56 : (σ40 31 10).toInt = A2 := ((congrArg Int32.toInt (show σ40 31 10 = a2 from ((f43 10 (by decide)).trans ((jkp 10 eσ30 (by decide)).trans ((jkp 10 eσ29 (by decide)).trans ((jkp 10 eσ28 (by decide)).trans (jsp eσ27))))))).trans t2)
      have z57 : (σ40 31 11).toInt = x16.toInt := (congrArg Int32.toInt (show σ40 31 11 = x16 from ((f43 11 (by decide)).trans ((jkp 11 eσ30 (by decide)).trans ((jkp 11 eσ29 (by decide)).trans (jsp eσ28))))))
      have h58 := h40
      obtain ⟨q60, k59⟩ := h58
      refine lv_pop hx hb dX1_grow_95 rfl ?_
      refine lv_iconst (v := 0) hx hb dX1_grow_96 (by decide) ?_
      refine lv_istore (lv' := [(5, .int 0), (4, .int 1), (3, .int x16), (0, .ref (ad 31)), (1, .int a1), (2, .int a2)]) hx hb dX1_grow_97 hl (by decide) rfl (fun ls hl => ?_)
      have lp61 : ∀ (n62 : Nat) (x63 : Int32) (σ67 : Nat → Nat → Int32) (H : Heap) (locs : List Loc) (ls : Array Slot), (-x63.toInt + 350 : Int) < n62 → 0 ≤ x63.toInt → x63.toInt ≤ 350 → (∀ i : Nat, (i < 31 ∨ 33 < i) ∧ (i < 36 ∨ 37 < i) → σ67 i = σ40 i) → (∀ k : Nat, (k < 8 ∨ 8 < k) → σ67 31 k = σ40 31 k) → jKb σ67 → jKh σ67 → jI31 σ67 → (jFm a1 → jqGo a1 (decide ((σ67 31 12).toInt ≠ 0)) (σ67 31 11).toInt (σ67 31 8).toInt (σ67 32) (σ67 33) x63.toInt 0) → jH D cI cL ad σ67 τ H → va_S (jA ad) s.heap H locs → lv_has ls 9 [(5, .int x63), (4, .int 1), (3, .int x16), (0, .ref (ad 31)), (1, .int a1), (2, .int a2)] → W p l e ({ frames := 3, cells := 0, slots := 0, locals := 73 }) s m args below meth c H locs 0 0 Q (F0 m 99 ls []) := by
        intro n62
        induction n62 with
        | zero => intro x63 σ67 H locs ls h69 h70 h71; exact absurd h69 (by omega)
        | succ n62 ihlp61 =>
          intro x63 σ67 H locs ls h69 h70 h71 f72 f73 p74 p75 p76 q77 hP hS hl
          obtain ⟨i78, i79, i80, i81, w82, w83, w84⟩ : (0 ≤ (σ67 31 8).toInt ∧ (σ67 31 8).toInt ≤ 350) ∧ (0 ≤ (σ67 31 10).toInt ∧ (σ67 31 10).toInt ≤ 12) ∧ (0 ≤ (σ67 31 11).toInt ∧ (σ67 31 11).toInt ≤ 8) ∧ ((σ67 31 10).toInt + (σ67 31 11).toInt ≤ 12) ∧ (∀ k : Nat, k < 1400 → (-1) ≤ (σ67 33 k).toInt ∧ (σ67 33 k).toInt ≤ 350) ∧ (∀ k : Nat, k < 3159 → (-1) ≤ (σ67 35 k).toInt ∧ (σ67 35 k).toInt ≤ 3) ∧ (∀ k : Nat, k < 1024 → 0 ≤ (σ67 36 k).toInt ∧ (σ67 36 k).toInt ≤ 349) := id p76
          have z85 : (σ67 31 10).toInt = A2 := ((congrArg Int32.toInt (show σ67 31 10 = a2 from ((f73 10 (by decide)).trans ((f43 10 (by decide)).trans ((jkp 10 eσ30 (by decide)).trans ((jkp 10 eσ29 (by decide)).trans ((jkp 10 eσ28 (by decide)).trans (jsp eσ27)))))))).trans t2)
          have z86 : (σ67 31 11).toInt = x16.toInt := (congrArg Int32.toInt (show σ67 31 11 = x16 from ((f73 11 (by decide)).trans ((f43 11 (by decide)).trans ((jkp 11 eσ30 (by decide)).trans ((jkp 11 eσ29 (by decide)).trans (jsp eσ28)))))))
          refine lv_iload hx hb dX1_grow_99 (lv_at hl 0 rfl) ?_
          refine lv_aload_n hx hb dX1_grow_101 rfl (lv_at hl 3 rfl) ?_
          refine va_get (D := D) hx hb hts inlX1 hown hK hP 31 (jc_31 cI cL ad σ67 τ) rfl 8 (by decide) (hts _ kw_27_22) (fun _ h9 => h9) rfl dX1_grow_102 ?_
          refine lv_icmp_ge (tgt := 202) hx hb dX1_grow_105 (by decide) (fun c87 => ?_) (fun c87 => ?_)
          · have kc87 := jle c87 rfl rfl
            have p88 : jKg σ67 := (show jFm (σ67 31 9) → _ from by rw [show σ67 31 9 = a1 from ((f73 9 (by decide)).trans ((f43 9 (by decide)).trans ((jkp 9 eσ30 (by decide)).trans ((jkp 9 eσ29 (by decide)).trans ((jkp 9 eσ28 (by decide)).trans ((jkp 9 eσ27 (by decide)).trans (jsp eσ26)))))))]; exact fun hm => (q77 hm).fin (by omega))
            exact hret σ67 τ _ _ _ _ ⟨rfl, (fun i hi => ((f72 i hi).trans ((f42 i (imp_86 i hi)).trans ((jnp i eσ30 (imp_87 i hi)).trans ((jnp i eσ29 (imp_87 i hi)).trans ((jnp i eσ28 (imp_87 i hi)).trans ((jnp i eσ27 (imp_87 i hi)).trans (jnp i eσ26 (imp_87 i hi))))))))), (fun i hi => ((f73 i (imp_88 i hi)).trans ((f43 i (imp_88 i hi)).trans ((jkp i eσ30 (imp_89 i hi)).trans ((jkp i eσ29 (imp_90 i hi)).trans ((jkp i eσ28 (imp_91 i hi)).trans ((jkp i eσ27 (imp_92 i hi)).trans (jkp i eσ26 (imp_93 i hi))))))))), p76, p74, p75, p88, trivial⟩ hP hS dX1_grow_202
          · have kc87 := jnle c87 rfl rfl
            refine lv_iload hx hb dX1_grow_108 (lv_at hl 0 rfl) ?_
            refine lv_sipush (v := 350) hx hb dX1_grow_110 (by decide) ?_
            refine lv_icmp_ge (tgt := 202) hx hb dX1_grow_113 (by decide) (fun c => absurd (jle c jz_350 rfl) (by omega)) (fun c89 => ?_)
            have kc89 := jnle c89 jz_350 rfl
            refine lv_aload_n hx hb dX1_grow_116 rfl (lv_at hl 3 rfl) ?_
            refine va_get (D := D) hx hb hts inlX1 hown hK hP 31 (jc_31 cI cL ad σ67 τ) rfl 2 (by decide) (hts _ kw_5_3) (fun _ h9 => h9) rfl dX1_grow_117 ?_
            refine lv_iload hx hb dX1_grow_120 (lv_at hl 0 rfl) ?_
            refine jald hx hb hK hP (jc_32 cI cL ad σ67 τ) (jin rfl (by omega) (by omega)) dX1_grow_122 ?_
            refine jtopr (y := (σ67 32 x63.toNatClampNeg)) rfl ?_
            refine lv_ldc (v := 134217727) hx hb hown (hts _ kw_28_10) dX1_grow_123 ?_
            refine lv_iand hx hb dX1_grow_125 ?_
            refine lv_topi (fun x90 ex90 => ?_)
            have gx90 := jrg (rfl : x90.toInt = x90.toInt)
            have g91 : 0 ≤ x90.toInt ∧ x90.toInt ≤ 134217727 := jmask ex90 27 (by decide) (by decide)
            refine lv_istore (lv' := [(6, .int x90), (5, .int x63), (4, .int 1), (3, .int x16), (0, .ref (ad 31)), (1, .int a1), (2, .int a2)]) hx hb dX1_grow_126 hl (by decide) rfl (fun ls hl => ?_)
            refine lv_aload_n hx hb dX1_grow_128 rfl (lv_at hl 4 rfl) ?_
            refine va_get (D := D) hx hb hts inlX1 hown hK hP 31 (jc_31 cI cL ad σ67 τ) rfl 2 (by decide) (hts _ kw_5_3) (fun _ h9 => h9) rfl dX1_grow_129 ?_
            refine lv_iload hx hb dX1_grow_132 (lv_at hl 1 rfl) ?_
            refine jald hx hb hK hP (jc_32 cI cL ad σ67 τ) (jin rfl (by omega) (by omega)) dX1_grow_134 ?_
            refine jtopr (y := (σ67 32 x63.toNatClampNeg)) rfl ?_
            refine lv_bipush (v := 27) hx hb dX1_grow_135 (by decide) ?_
            refine lv_ishr hx hb dX1_grow_137 ?_
            refine lv_topi (fun x92 ex92 => ?_)
            have gx92 := jrg (rfl : x92.toInt = x92.toInt)
            have k93 := jshr27 (x := x92) (k := (σ67 32 x63.toNatClampNeg)) (by rw [ex92])
            have k94 := p74 x63.toNatClampNeg (by rw [jnc (rfl : x63.toInt = x63.toInt)]; omega)
            refine lv_istore (lv' := [(7, .int x92), (6, .int x90), (5, .int x63), (4, .int 1), (3, .int x16), (0, .ref (ad 31)), (1, .int a1), (2, .int a2)]) hx hb dX1_grow_138 hl (by decide) rfl (fun ls hl => ?_)
            refine lv_iconst (v := 0) hx hb dX1_grow_140 (by decide) ?_
            refine lv_istore (lv' := [(8, .int 0), (7, .int x92), (6, .int x90), (5, .int x63), (4, .int 1), (3, .int x16), (0, .ref (ad 31)), (1, .int a1), (2, .int a2)]) hx hb dX1_grow_141 hl (by decide) rfl (fun ls hl => ?_)
            have lp95 : ∀ (n96 : Nat) (x97 : Int32) (σ98 : Nat → Nat → Int32) (H : Heap) (locs : List Loc) (ls : Array Slot), (-x97.toInt + 4 : Int) < n96 → 0 ≤ x97.toInt → x97.toInt ≤ 4 → (∀ i : Nat, (i < 31 ∨ 33 < i) ∧ (i < 36 ∨ 37 < i) → σ98 i = σ67 i) → (∀ k : Nat, (k < 8 ∨ 8 < k) → σ98 31 k = σ67 31 k) → jKb σ98 → jKh σ98 → jI31 σ98 → ((jFm a1 → jqGo a1 (decide ((σ98 31 12).toInt ≠ 0)) (σ98 31 11).toInt (σ98 31 8).toInt (σ98 32) (σ98 33) x63.toInt x97.toInt) ∧ jqNo (σ98 32 x63.toInt.toNat) x90 x92.toInt ∧ x63.toInt < (σ98 31 8).toInt) → jH D cI cL ad σ98 τ H → va_S (jA ad) s.heap H locs → lv_has ls 9 [(8, .int x97), (7, .int x92), (6, .int x90), (5, .int x63), (4, .int 1), (3, .int x16), (0, .ref (ad 31)), (1, .int a1), (2, .int a2)] → W p l e ({ frames := 3, cells := 0, slots := 0, locals := 73 }) s m args below meth c H locs 0 0 Q (F0 m 143 ls []) := by
              intro n96
              induction n96 with
              | zero => intro x97 σ98 H locs ls h100 h101 h102; exact absurd h100 (by omega)
              | succ n96 ihlp95 =>
                intro x97 σ98 H locs ls h100 h101 h102 f103 f104 p105 p106 p107 q108 hP hS hl
                obtain ⟨i109, i110, i111, i112, w113, w114, w115⟩ : (0 ≤ (σ98 31 8).toInt ∧ (σ98 31 8).toInt ≤ 350) ∧ (0 ≤ (σ98 31 10).toInt ∧ (σ98 31 10).toInt ≤ 12) ∧ (0 ≤ (σ98 31 11).toInt ∧ (σ98 31 11).toInt ≤ 8) ∧ ((σ98 31 10).toInt + (σ98 31 11).toInt ≤ 12) ∧ (∀ k : Nat, k < 1400 → (-1) ≤ (σ98 33 k).toInt ∧ (σ98 33 k).toInt ≤ 350) ∧ (∀ k : Nat, k < 3159 → (-1) ≤ (σ98 35 k).toInt ∧ (σ98 35 k).toInt ≤ 3) ∧ (∀ k : Nat, k < 1024 → 0 ≤ (σ98 36 k).toInt ∧ (σ98 36 k).toInt ≤ 349) := id p107
                have z116 : (σ98 31 10).toInt = A2 := ((congrArg Int32.toInt (show σ98 31 10 = a2 from ((f104 10 (by decide)).trans ((f73 10 (by decide)).trans ((f43 10 (by decide)).trans ((jkp 10 eσ30 (by decide)).trans ((jkp 10 eσ29 (by decide)).trans ((jkp 10 eσ28 (by decide)).trans (jsp eσ27))))))))).trans t2)
                have z117 : (σ98 31 11).toInt = x16.toInt := (congrArg Int32.toInt (show σ98 31 11 = x16 from ((f104 11 (by decide)).trans ((f73 11 (by decide)).trans ((f43 11 (by decide)).trans ((jkp 11 eσ30 (by decide)).trans ((jkp 11 eσ29 (by decide)).trans (jsp eσ28))))))))
                refine lv_iload hx hb dX1_grow_143 (lv_at hl 0 rfl) ?_
                refine lv_iconst (v := 4) hx hb dX1_grow_145 (by decide) ?_
                refine lv_icmp_ge (tgt := 196) hx hb dX1_grow_146 (by decide) (fun c118 => ?_) (fun c118 => ?_)
                · have kc118 := jle c118 jz_4 rfl
                  obtain ⟨x119, ex119⟩ : ∃ y : Int32, y = x63 + 1 := ⟨_, rfl⟩
                  have tx119 : x119.toInt = x63.toInt + 1 := (jadd ex119 rfl jz_1 (by omega) (by omega)).trans (by omega)
                  refine lv_iinc (v := x119) (lv' := [(5, .int x119), (8, .int x97), (7, .int x92), (6, .int x90), (4, .int 1), (3, .int x16), (0, .ref (ad 31)), (1, .int a1), (2, .int a2)]) hx hb dX1_grow_196 hl (k := 3) rfl (by rw [ex119]; rfl) (by decide) rfl (fun ls hl => ?_)
                  refine lv_goto (tgt := 99) hx hb dX1_grow_199 (by decide) ?_
                  exact ihlp61 x119 σ98 _ _ ls (by have h90 := tx119; omega) (by have h90 := tx119; omega) (by have h90 := tx119; omega) (fun i hi => ((f103 i hi).trans (f72 i hi))) (fun i hi => ((f104 i hi).trans (f73 i hi)))  p105 p106 p107 (fun hm => jqGo.row (q108.1 hm) (by omega) (by have h9 := tx119; omega) (by omega) q108.2.2) hP hS (lv_sub hl [0, 4, 5, 6, 7, 8] rfl)
                · have kc118 := jnle c118 jz_4 rfl
                  refine lv_aload_n hx hb dX1_grow_149 rfl (lv_at hl 6 rfl) ?_
                  refine va_get (D := D) hx hb hts inlX1 hown hK hP 31 (jc_31 cI cL ad σ98 τ) rfl 3 (by decide) (hts _ kw_5_4) (fun _ h9 => h9) rfl dX1_grow_150 ?_
                  refine lv_iload hx hb dX1_grow_153 (lv_at hl 3 rfl) ?_
                  refine lv_iconst (v := 4) hx hb dX1_grow_155 (by decide) ?_
                  have g120 := jrg (rfl : x63.toInt = x63.toInt)
                  refine lv_imul hx hb dX1_grow_156 ?_
                  refine lv_topi (fun x121 ex121 => ?_)
                  have tx121 : x121.toInt = 4 * x63.toInt := (jmul ex121 rfl jz_4 (by omega) (by omega)).trans (by omega)
                  refine lv_iload hx hb dX1_grow_157 (lv_at hl 0 rfl) ?_
                  have g122 := jrg (rfl : x97.toInt = x97.toInt)
                  refine lv_iadd hx hb dX1_grow_159 ?_
                  refine lv_topi (fun x123 ex123 => ?_)
                  have tx123 : x123.toInt = 4 * x63.toInt + x97.toInt := (jadd ex123 tx121 rfl (by omega) (by omega)).trans (by omega)
                  refine lv_iload hx hb dX1_grow_160 (lv_at hl 2 rfl) ?_
                  refine lv_iload hx hb dX1_grow_162 (lv_at hl 0 rfl) ?_
                  refine jcallS (As := [.int x90, .int x97]) (rest := [.int x123, .ref (ad 33)]) ⟨hx, hb, hml, hown, hts⟩ hK hP hA hS hZ (c_X0_mayBowl l D cI cL ad zz hJ σ98 τ x90 (x90.toInt) rfl x97 (x97.toInt) rfl) cw_RX1_115 ⟨Nat.le_of_ble_eq_true rfl, Nat.le_of_ble_eq_true rfl⟩ rfl rfl rfl hl.1 rfl (Nat.le_of_ble_eq_true rfl) dX1_grow_164 ⟨Nat.zero_le _, Nat.zero_le _⟩ (fun r125 σ124 τ124 H locs h124 hP hS => ?_)
                  obtain ⟨⟨rfl, rfl⟩, w126, h124⟩ := h124
                  rcases h124 with h127 | h128
                  · obtain ⟨q130, k129⟩ := h127
                    have q130 := q130.symm
                    subst q130
                    refine lv_if_eq (tgt := 188) hx hb dX1_grow_167 (by decide) (fun c => absurd c (by decide)) (fun _ => ?_)
                    refine lv_aload_n hx hb dX1_grow_170 rfl (lv_at hl 6 rfl) ?_
                    refine lv_iload hx hb dX1_grow_171 (lv_at hl 2 rfl) ?_
                    refine lv_iload hx hb dX1_grow_173 (lv_at hl 0 rfl) ?_
                    refine jcallS (As := [.int x90, .int x97]) (rest := [.ref (ad 31), .int x123, .ref (ad 33)]) ⟨hx, hb, hml, hown, hts⟩ hK hP hA hS hZ (c_X0_after_r l D cI cL ad zz hJ σ98 τ x90 (x90.toInt) rfl x97 (x97.toInt) rfl (by omega)) cw_RX1_119 ⟨Nat.le_of_ble_eq_true rfl, Nat.le_of_ble_eq_true rfl⟩ rfl rfl rfl hl.1 rfl (Nat.le_of_ble_eq_true rfl) dX1_grow_175 ⟨Nat.zero_le _, Nat.zero_le _⟩ (fun r132 σ131 τ131 H locs h131 hP hS => ?_)
                    obtain ⟨⟨rfl, rfl⟩, w133, w134, h131⟩ := h131
                    have h135 := h131
                    obtain ⟨q137, k136⟩ := h135
                    refine lv_iload hx hb dX1_grow_178 (lv_at hl 1 rfl) ?_
                    refine lv_iconst (v := 1) hx hb dX1_grow_180 (by decide) ?_
                    have g138 := jrg (rfl : x92.toInt = x92.toInt)
                    refine lv_iadd hx hb dX1_grow_181 ?_
                    refine lv_topi (fun x139 ex139 => ?_)
                    have tx139 : x139.toInt = x92.toInt + 1 := (jadd ex139 rfl jz_1 (by omega) (by omega)).trans (by omega)
                    refine jcallV (As := [.int r132, .int x139]) (rest := [.int x123, .ref (ad 33)]) ⟨hx, hb, hml, hown, hts⟩ hK hP hA hS hZ (c_X1_add_31 l D cI cL ad zz hJ σ98 τ r132 (r132.toInt) rfl x139 (x92.toInt + 1) tx139 p107 p105 p106 (by omega) (by omega)) cw_RX1_111 (jc_31 cI cL ad σ98 τ) rfl ⟨Nat.le_of_ble_eq_true rfl, Nat.le_of_ble_eq_true rfl⟩ rfl rfl rfl hl.1 rfl (Nat.le_of_ble_eq_true rfl) dX1_grow_182 ⟨Nat.zero_le _, Nat.zero_le _⟩ (fun r141 σ140 τ140 H locs h140 hP hS => ?_)
                    obtain ⟨rfl, f142, f143, I144, p145, p146, w147, h140⟩ := h140
                    obtain ⟨i149, i150, i151, i152, w153, w154, w155⟩ : (0 ≤ (σ140 31 8).toInt ∧ (σ140 31 8).toInt ≤ 350) ∧ (0 ≤ (σ140 31 10).toInt ∧ (σ140 31 10).toInt ≤ 12) ∧ (0 ≤ (σ140 31 11).toInt ∧ (σ140 31 11).toInt ≤ 8) ∧ ((σ140 31 10).toInt + (σ140 31 11).toInt ≤ 12) ∧ (∀ k : Nat, k < 1400 → (-1) ≤ (σ140 33 k).toInt ∧ (σ140 33 k).toInt ≤ 350) ∧ (∀ k : Nat, k < 3159 → (-1) ≤ (σ140 35 k).toInt ∧ (σ140 35 k).toInt ≤ 3) ∧ (∀ k : Nat, k < 1024 → 0 ≤ (σ140 36 k).toInt ∧ (σ140 36 k).toInt ≤ 349) := id I144
                    have z156 : (σ140 31 10).toInt = A2 := ((congrArg Int32.toInt (show σ140 31 10 = a2 from ((f143 10 (by decide)).trans ((f104 10 (by decide)).trans ((f73 10 (by decide)).trans ((f43 10 (by decide)).trans ((jkp 10 eσ30 (by decide)).trans ((jkp 10 eσ29 (by decide)).trans ((jkp 10 eσ28 (by decide)).trans (jsp eσ27)))))))))).trans t2)
                    have z157 : (σ140 31 11).toInt = x16.toInt := (congrArg Int32.toInt (show σ140 31 11 = x16 from ((f143 11 (by decide)).trans ((f104 11 (by decide)).trans ((f73 11 (by decide)).trans ((f43 11 (by decide)).trans ((jkp 11 eσ30 (by decide)).trans ((jkp 11 eσ29 (by decide)).trans (jsp eσ28)))))))))
                    have h158 := h140
                    obtain ⟨q160, k159⟩ := h158
                    refine lv_goto (tgt := 189) hx hb dX1_grow_185 (by decide) ?_
                    refine jast hx hb hK hP hJ hA hS (jc_33 cI cL ad σ140 τ) (ja_33 cI cL ad σ140 τ _ _) (jin tx123 (by omega) (by omega)) dX1_grow_189 (fun σ161 H locs eσ161 hP hS => ?_)
                    obtain ⟨x162, ex162⟩ : ∃ y : Int32, y = x97 + 1 := ⟨_, rfl⟩
                    have tx162 : x162.toInt = x97.toInt + 1 := (jadd ex162 rfl jz_1 (by omega) (by omega)).trans (by omega)
                    refine lv_iinc (v := x162) (lv' := [(8, .int x162), (7, .int x92), (6, .int x90), (5, .int x63), (4, .int 1), (3, .int x16), (0, .ref (ad 31)), (1, .int a1), (2, .int a2)]) hx hb dX1_grow_190 hl (k := 0) rfl (by rw [ex162]; rfl) (by decide) rfl (fun ls hl => ?_)
                    refine lv_goto (tgt := 143) hx hb dX1_grow_193 (by decide) ?_
                    have p163 : jKb σ161 := jKb.fr (congrFun (jnp 31 eσ161 (by decide)) 8) (congrFun (jnp 31 eσ161 (by decide)) 11) (jnp 32 eσ161 (by decide)) p145
                    have p164 : jKh σ161 := jKh.fr (congrFun (jnp 31 eσ161 (by decide)) 8) (jnp 32 eσ161 (by decide)) (jnp 36 eσ161 (by decide)) (jnp 37 eσ161 (by decide)) p146
                    have z165 : (σ161 31 8).toInt = (σ140 31 8).toInt := (congrArg Int32.toInt (show σ161 31 8 = (σ140 31 8) from (congrFun (jnp 31 eσ161 (by decide)) 8)))
                    have z166 : (σ161 31 10).toInt = A2 := ((congrArg Int32.toInt (show σ161 31 10 = a2 from ((congrFun (jnp 31 eσ161 (by decide)) 10).trans ((f143 10 (by decide)).trans ((f104 10 (by decide)).trans ((f73 10 (by decide)).trans ((f43 10 (by decide)).trans ((jkp 10 eσ30 (by decide)).trans ((jkp 10 eσ29 (by decide)).trans ((jkp 10 eσ28 (by decide)).trans (jsp eσ27))))))))))).trans t2)
                    have z167 : (σ161 31 11).toInt = x16.toInt := (congrArg Int32.toInt (show σ161 31 11 = x16 from ((congrFun (jnp 31 eσ161 (by decide)) 11).trans ((f143 11 (by decide)).trans ((f104 11 (by decide)).trans ((f73 11 (by decide)).trans ((f43 11 (by decide)).trans ((jkp 11 eσ30 (by decide)).trans ((jkp 11 eσ29 (by decide)).trans (jsp eσ28))))))))))
                    have w168 : ∀ k : Nat, k < 1400 → (-1) ≤ (σ161 33 k).toInt ∧ (σ161 33 k).toInt ≤ 350 := (by rw [eσ161]; exact jrr_up w153 (by omega) (by omega))
                    have w169 : ∀ k : Nat, k < 3159 → (-1) ≤ (σ161 35 k).toInt ∧ (σ161 35 k).toInt ≤ 3 := (jrr_fr (jnp 35 eσ161 (by decide)) w154)
                    have w170 : ∀ k : Nat, k < 1024 → 0 ≤ (σ161 36 k).toInt ∧ (σ161 36 k).toInt ≤ 349 := (jrr_fr (jnp 36 eσ161 (by decide)) w155)
                    have I171 : jI31 σ161 := ⟨(by omega), (by omega), (by omega), (by omega), w168, w169, w170⟩
                    exact ihlp95 x162 σ161 _ _ ls (by have h90 := tx162; omega) (by have h90 := tx162; omega) (by have h90 := tx162; omega) (fun i hi => ((jnp i eσ161 (imp_94 i hi)).trans ((f142 i (imp_86 i hi)).trans (f103 i hi)))) (fun i hi => ((congrFun (jnp 31 eσ161 (by decide)) i).trans ((f143 i hi).trans (f104 i hi))))  p163 p164 I171 (by rw [show σ161 31 8 = σ140 31 8 from (congrFun (jnp 31 eσ161 (by decide)) 8), show σ161 32 = σ140 32 from (jnp 32 eσ161 (by decide)), show σ161 31 11 = σ98 31 11 from ((congrFun (jnp 31 eσ161 (by decide)) 11).trans (f143 11 (by decide))), show σ161 31 12 = σ98 31 12 from ((congrFun (jnp 31 eσ161 (by decide)) 12).trans (f143 12 (by decide)))]; exact ⟨(fun hm => jqGo.put (q108.1 hm) (by omega) (by omega) (by omega) (by omega) q108.2.1 ((jqMy_iff (by omega) (by omega)).mpr ((w126).elim (fun w => w.2) (fun w => absurd w.1 (by decide)))) (w134 (by omega) (by omega)) w147 (by omega) p106 (by omega) (by rw [eσ161, jup_row, f142 33 (by decide), jnc (show x123.toInt = 4 * x63.toInt + x97.toInt by have h9 := tx123; omega)]) rfl (by have h9 := tx162; omega)), (by rw [(w147).1 x63.toInt.toNat (by omega)]; exact q108.2.1), (by have w8 := jqAd.le w147; have w9 := q108.2.2; omega)⟩) hP hS (lv_sub hl [0, 1, 2, 3, 4, 5, 6, 7, 8] rfl)
                  · obtain ⟨q173, k172⟩ := h128
                    have q173 := q173.symm
                    subst q173
                    refine lv_if_eq (tgt := 188) hx hb dX1_grow_167 (by decide) (fun _ => ?_) (fun c => absurd (by decide) c)
                    refine lv_iconst (v := (-1)) hx hb dX1_grow_188 (by decide) ?_
                    refine jast hx hb hK hP hJ hA hS (jc_33 cI cL ad σ98 τ) (ja_33 cI cL ad σ98 τ _ _) (jin tx123 (by omega) (by omega)) dX1_grow_189 (fun σ174 H locs eσ174 hP hS => ?_)
                    obtain ⟨x175, ex175⟩ : ∃ y : Int32, y = x97 + 1 := ⟨_, rfl⟩
                    have tx175 : x175.toInt = x97.toInt + 1 := (jadd ex175 rfl jz_1 (by omega) (by omega)).trans (by omega)
                    refine lv_iinc (v := x175) (lv' := [(8, .int x175), (7, .int x92), (6, .int x90), (5, .int x63), (4, .int 1), (3, .int x16), (0, .ref (ad 31)), (1, .int a1), (2, .int a2)]) hx hb dX1_grow_190 hl (k := 0) rfl (by rw [ex175]; rfl) (by decide) rfl (fun ls hl => ?_)
                    refine lv_goto (tgt := 143) hx hb dX1_grow_193 (by decide) ?_
                    have p176 : jKb σ174 := jKb.fr (congrFun (jnp 31 eσ174 (by decide)) 8) (congrFun (jnp 31 eσ174 (by decide)) 11) (jnp 32 eσ174 (by decide)) p105
                    have p177 : jKh σ174 := jKh.fr (congrFun (jnp 31 eσ174 (by decide)) 8) (jnp 32 eσ174 (by decide)) (jnp 36 eσ174 (by decide)) (jnp 37 eσ174 (by decide)) p106
                    have z178 : (σ174 31 8).toInt = (σ98 31 8).toInt := (congrArg Int32.toInt (show σ174 31 8 = (σ98 31 8) from (congrFun (jnp 31 eσ174 (by decide)) 8)))
                    have z179 : (σ174 31 10).toInt = A2 := ((congrArg Int32.toInt (show σ174 31 10 = a2 from ((congrFun (jnp 31 eσ174 (by decide)) 10).trans ((f104 10 (by decide)).trans ((f73 10 (by decide)).trans ((f43 10 (by decide)).trans ((jkp 10 eσ30 (by decide)).trans ((jkp 10 eσ29 (by decide)).trans ((jkp 10 eσ28 (by decide)).trans (jsp eσ27)))))))))).trans t2)
                    have z180 : (σ174 31 11).toInt = x16.toInt := (congrArg Int32.toInt (show σ174 31 11 = x16 from ((congrFun (jnp 31 eσ174 (by decide)) 11).trans ((f104 11 (by decide)).trans ((f73 11 (by decide)).trans ((f43 11 (by decide)).trans ((jkp 11 eσ30 (by decide)).trans ((jkp 11 eσ29 (by decide)).trans (jsp eσ28)))))))))
                    have w181 : ∀ k : Nat, k < 1400 → (-1) ≤ (σ174 33 k).toInt ∧ (σ174 33 k).toInt ≤ 350 := (by rw [eσ174]; exact jrr_up w113 (by have h9 := jz_m1; omega) (by have h9 := jz_m1; omega))
                    have w182 : ∀ k : Nat, k < 3159 → (-1) ≤ (σ174 35 k).toInt ∧ (σ174 35 k).toInt ≤ 3 := (jrr_fr (jnp 35 eσ174 (by decide)) w114)
                    have w183 : ∀ k : Nat, k < 1024 → 0 ≤ (σ174 36 k).toInt ∧ (σ174 36 k).toInt ≤ 349 := (jrr_fr (jnp 36 eσ174 (by decide)) w115)
                    have I184 : jI31 σ174 := ⟨(by omega), (by omega), (by omega), (by omega), w181, w182, w183⟩
                    exact ihlp95 x175 σ174 _ _ ls (by have h90 := tx175; omega) (by have h90 := tx175; omega) (by have h90 := tx175; omega) (fun i hi => ((jnp i eσ174 (imp_94 i hi)).trans (f103 i hi))) (fun i hi => ((congrFun (jnp 31 eσ174 (by decide)) i).trans (f104 i hi)))  p176 p177 I184 (by rw [show σ174 31 8 = σ98 31 8 from (congrFun (jnp 31 eσ174 (by decide)) 8), show σ174 31 11 = σ98 31 11 from (congrFun (jnp 31 eσ174 (by decide)) 11), show σ174 31 12 = σ98 31 12 from (congrFun (jnp 31 eσ174 (by decide)) 12), show σ174 32 = σ98 32 from (jnp 32 eσ174 (by decide))]; exact ⟨(fun hm => jqGo.none (q108.1 hm) (by omega) (by omega) (by omega) (by omega) q108.2.1 (fun w => ((w126).elim (fun w => absurd w.1 (by decide)) (fun w => w.2)) ((jqMy_iff (by omega) (by omega)).mp w)) (by rw [eσ174, jup_row, jnc (show x123.toInt = 4 * x63.toInt + x97.toInt by have h9 := tx123; omega)]) (by decide) (by have h9 := tx175; omega)), q108.2.1, q108.2.2⟩) hP hS (lv_sub hl [0, 1, 2, 3, 4, 5, 6, 7, 8] rfl)
            exact lp95 1000000 0 σ67 _ _ ls (by have h90 := jz_0; omega) (by have h90 := jz_0; omega) (by have h90 := jz_0; omega) (fun _ _ => rfl) (fun _ _ => rfl)  p74 p75 p76 ⟨(by rw [show (0 : Int32).toInt = 0 from by decide]; exact q77), ⟨(by have w := jandm (x := (σ67 32 x63.toNatClampNeg)) (y := x90) (m := 134217727) (k := 27) (M := 134217728) (by rw [ex90]) rfl rfl (by decide); show (σ67 32 x63.toNatClampNeg).toInt = _; omega), ⟨by omega, by omega⟩, (by omega)⟩, by omega⟩ hP hS hl
      exact lp61 1000000 0 σ40 _ _ ls (by have h90 := jz_0; omega) (by have h90 := jz_0; omega) (by have h90 := jz_0; omega) (fun _ _ => rfl) (fun _ _ => rfl)  p45 p46 I44 (by rw [show σ40 31 11 = σ30 31 11 from (f43 11 (by decide)), show σ40 31 12 = σ30 31 12 from (f43 12 (by decide))]; exact (fun hm => jqGo.first hm (by have w := w47; rw [show (σ30 31 8).toInt = 0 from by omega] at w; exact w) rfl (by have h9 := jz_0; omega))) hP hS hl
    · have kc25 := jeq c25 rfl t1
      refine lv_aload_n hx hb dX1_grow_40 rfl (lv_at hl 2 rfl) ?_
      refine va_get (D := D) hx hb hts inlX1 hown hK hP 31 (jc_31 cI cL ad σ τ) rfl 11 (by decide) (hts _ kw_28_7) (fun _ h9 => h9) rfl dX1_grow_41 ?_
      refine lv_iload_n hx hb dX1_grow_44 rfl (lv_at hl 1 rfl) ?_
      refine lv_icmp_ne (tgt := 63) hx hb dX1_grow_45 (by decide) (fun c185 => ?_) (fun c185 => ?_)
      · have kc185 := jne c185 rfl rfl
        refine lv_aload_n hx hb dX1_grow_63 rfl (lv_at hl 2 rfl) ?_
        refine lv_iload_n hx hb dX1_grow_64 rfl (lv_at hl 3 rfl) ?_
        refine jput (ty := .int) hx hb hts inlX1 tyX1 tyX1_ok nmX1 hown hK hP hJ hA hS (jc_31 cI cL ad σ τ) rfl (k := 9) (by decide) (Nat.le_of_ble_eq_true rfl) (jp_31_9 cI cL ad σ τ a1) (hts _ kw_5_9) (fun _ h9 => h9) rfl (by decide +kernel) rfl rfl dX1_grow_65 (fun σ186 H locs eσ186 hP hS => ?_)
        refine lv_aload_n hx hb dX1_grow_68 rfl (lv_at hl 2 rfl) ?_
        refine lv_iload_n hx hb dX1_grow_69 rfl (lv_at hl 4 rfl) ?_
        refine jput (ty := .int) hx hb hts inlX1 tyX1 tyX1_ok nmX1 hown hK hP hJ hA hS (jc_31 cI cL ad σ186 τ) rfl (k := 10) (by decide) (Nat.le_of_ble_eq_true rfl) (jp_31_10 cI cL ad σ186 τ a2) (hts _ kw_28_9) (fun _ h9 => h9) rfl (by decide +kernel) rfl rfl dX1_grow_70 (fun σ187 H locs eσ187 hP hS => ?_)
        refine lv_aload_n hx hb dX1_grow_73 rfl (lv_at hl 2 rfl) ?_
        refine lv_iload_n hx hb dX1_grow_74 rfl (lv_at hl 1 rfl) ?_
        refine jput (ty := .int) hx hb hts inlX1 tyX1 tyX1_ok nmX1 hown hK hP hJ hA hS (jc_31 cI cL ad σ187 τ) rfl (k := 11) (by decide) (Nat.le_of_ble_eq_true rfl) (jp_31_11 cI cL ad σ187 τ x16) (hts _ kw_28_7) (fun _ h9 => h9) rfl (by decide +kernel) rfl rfl dX1_grow_75 (fun σ188 H locs eσ188 hP hS => ?_)
        refine lv_aload_n hx hb dX1_grow_78 rfl (lv_at hl 2 rfl) ?_
        refine lv_iload hx hb dX1_grow_79 (lv_at hl 0 rfl) ?_
        refine jput (ty := .boolean) hx hb hts inlX1 tyX1 tyX1_ok nmX1 hown hK hP hJ hA hS (jc_31 cI cL ad σ188 τ) rfl (k := 12) (by decide) (Nat.le_of_ble_eq_true rfl) (jp_31_12 cI cL ad σ188 τ 1) (hts _ kw_28_8) (fun _ h9 => h9) rfl (by decide +kernel) rfl rfl dX1_grow_81 (fun σ189 H locs eσ189 hP hS => ?_)
        refine lv_aload_n hx hb dX1_grow_84 rfl (lv_at hl 2 rfl) ?_
        refine lv_iconst (v := 0) hx hb dX1_grow_85 (by decide) ?_
        refine jput (ty := .int) hx hb hts inlX1 tyX1 tyX1_ok nmX1 hown hK hP hJ hA hS (jc_31 cI cL ad σ189 τ) rfl (k := 8) (by decide) (Nat.le_of_ble_eq_true rfl) (jp_31_8 cI cL ad σ189 τ 0) (hts _ kw_27_22) (fun _ h9 => h9) rfl (by decide +kernel) rfl rfl dX1_grow_86 (fun σ190 H locs eσ190 hP hS => ?_)
        have z191 : (σ190 31 8).toInt = 0 := ((congrArg Int32.toInt (show σ190 31 8 = 0 from (jsp eσ190))).trans jz_0)
        have p192 : jKb σ190 := (jKb.nil (by omega))
        have p193 : jKh σ190 := (jKh.nil (by omega))
        refine lv_aload_n hx hb dX1_grow_89 rfl (lv_at hl 2 rfl) ?_
        refine lv_iload_n hx hb dX1_grow_90 rfl (lv_at hl 3 rfl) ?_
        refine lv_iconst (v := 0) hx hb dX1_grow_91 (by decide) ?_
        have z194 : (σ190 31 10).toInt = A2 := ((congrArg Int32.toInt (show σ190 31 10 = a2 from ((jkp 10 eσ190 (by decide)).trans ((jkp 10 eσ189 (by decide)).trans ((jkp 10 eσ188 (by decide)).trans (jsp eσ187)))))).trans t2)
        have z195 : (σ190 31 11).toInt = x16.toInt := (congrArg Int32.toInt (show σ190 31 11 = x16 from ((jkp 11 eσ190 (by decide)).trans ((jkp 11 eσ189 (by decide)).trans (jsp eσ188)))))
        have w196 : ∀ k : Nat, k < 1400 → (-1) ≤ (σ190 33 k).toInt ∧ (σ190 33 k).toInt ≤ 350 := (jrr_fr (jnp 33 eσ190 (by decide)) (jrr_fr (jnp 33 eσ189 (by decide)) (jrr_fr (jnp 33 eσ188 (by decide)) (jrr_fr (jnp 33 eσ187 (by decide)) (jrr_fr (jnp 33 eσ186 (by decide)) w9)))))
        have w197 : ∀ k : Nat, k < 3159 → (-1) ≤ (σ190 35 k).toInt ∧ (σ190 35 k).toInt ≤ 3 := (jrr_fr (jnp 35 eσ190 (by decide)) (jrr_fr (jnp 35 eσ189 (by decide)) (jrr_fr (jnp 35 eσ188 (by decide)) (jrr_fr (jnp 35 eσ187 (by decide)) (jrr_fr (jnp 35 eσ186 (by decide)) w10)))))
        have w198 : ∀ k : Nat, k < 1024 → 0 ≤ (σ190 36 k).toInt ∧ (σ190 36 k).toInt ≤ 349 := (jrr_fr (jnp 36 eσ190 (by decide)) (jrr_fr (jnp 36 eσ189 (by decide)) (jrr_fr (jnp 36 eσ188 (by decide)) (jrr_fr (jnp 36 eσ187 (by decide)) (jrr_fr (jnp 36 eσ186 (by decide)) w11)))))
        have I199 : jI31 σ190 := ⟨(by omega), (by omega), (by omega), (by omega), w196, w197, w198⟩
        refine jcallV (As := [.int a1, .int 0]) (rest := []) ⟨hx, hb, hml, hown, hts⟩ hK hP hA hS hZ (c_X1_add_31 l D cI cL ad zz hJ σ190 τ a1 (A1) t1 0 (0) jz_0 I199 p192 p193 (by omega) (by omega)) cw_RX1_111 (jc_31 cI cL ad σ190 τ) rfl ⟨Nat.le_of_ble_eq_true rfl, Nat.le_of_ble_eq_true rfl⟩ rfl rfl rfl hl.1 rfl (Nat.le_of_ble_eq_true rfl) dX1_grow_92 ⟨Nat.zero_le _, Nat.zero_le _⟩ (fun r201 σ200 τ200 H locs h200 hP hS => ?_)
        obtain ⟨rfl, f202, f203, I204, p205, p206, w207, h200⟩ := h200
        obtain ⟨i209, i210, i211, i212, w213, w214, w215⟩ : (0 ≤ (σ200 31 8).toInt ∧ (σ200 31 8).toInt ≤ 350) ∧ (0 ≤ (σ200 31 10).toInt ∧ (σ200 31 10).toInt ≤ 12) ∧ (0 ≤ (σ200 31 11).toInt ∧ (σ200 31 11).toInt ≤ 8) ∧ ((σ200 31 10).toInt + (σ200 31 11).toInt ≤ 12) ∧ (∀ k : Nat, k < 1400 → (-1) ≤ (σ200 33 k).toInt ∧ (σ200 33 k).toInt ≤ 350) ∧ (∀ k : Nat, k < 3159 → (-1) ≤ (σ200 35 k).toInt ∧ (σ200 35 k).toInt ≤ 3) ∧ (∀ k : Nat, k < 1024 → 0 ≤ (σ200 36 k).toInt ∧ (σ200 36 k).toInt ≤ 349) := id I204
        have z216 : (σ200 31 10).toInt = A2 := ((congrArg Int32.toInt (show σ200 31 10 = a2 from ((f203 10 (by decide)).trans ((jkp 10 eσ190 (by decide)).trans ((jkp 10 eσ189 (by decide)).trans ((jkp 10 eσ188 (by decide)).trans (jsp eσ187))))))).trans t2)
        have z217 : (σ200 31 11).toInt = x16.toInt := (congrArg Int32.toInt (show σ200 31 11 = x16 from ((f203 11 (by decide)).trans ((jkp 11 eσ190 (by decide)).trans ((jkp 11 eσ189 (by decide)).trans (jsp eσ188))))))
        have h218 := h200
        obtain ⟨q220, k219⟩ := h218
        refine lv_pop hx hb dX1_grow_95 rfl ?_
        refine lv_iconst (v := 0) hx hb dX1_grow_96 (by decide) ?_
        refine lv_istore (lv' := [(5, .int 0), (4, .int 1), (3, .int x16), (0, .ref (ad 31)), (1, .int a1), (2, .int a2)]) hx hb dX1_grow_97 hl (by decide) rfl (fun ls hl => ?_)
        have lp221 : ∀ (n222 : Nat) (x223 : Int32) (σ227 : Nat → Nat → Int32) (H : Heap) (locs : List Loc) (ls : Array Slot), (-x223.toInt + 350 : Int) < n222 → 0 ≤ x223.toInt → x223.toInt ≤ 350 → (∀ i : Nat, (i < 31 ∨ 33 < i) ∧ (i < 36 ∨ 37 < i) → σ227 i = σ200 i) → (∀ k : Nat, (k < 8 ∨ 8 < k) → σ227 31 k = σ200 31 k) → jKb σ227 → jKh σ227 → jI31 σ227 → (jFm a1 → jqGo a1 (decide ((σ227 31 12).toInt ≠ 0)) (σ227 31 11).toInt (σ227 31 8).toInt (σ227 32) (σ227 33) x223.toInt 0) → jH D cI cL ad σ227 τ H → va_S (jA ad) s.heap H locs → lv_has ls 9 [(5, .int x223), (4, .int 1), (3, .int x16), (0, .ref (ad 31)), (1, .int a1), (2, .int a2)] → W p l e ({ frames := 3, cells := 0, slots := 0, locals := 73 }) s m args below meth c H locs 0 0 Q (F0 m 99 ls []) := by
          intro n222
          induction n222 with
          | zero => intro x223 σ227 H locs ls h229 h230 h231; exact absurd h229 (by omega)
          | succ n222 ihlp221 =>
            intro x223 σ227 H locs ls h229 h230 h231 f232 f233 p234 p235 p236 q237 hP hS hl
            obtain ⟨i238, i239, i240, i241, w242, w243, w244⟩ : (0 ≤ (σ227 31 8).toInt ∧ (σ227 31 8).toInt ≤ 350) ∧ (0 ≤ (σ227 31 10).toInt ∧ (σ227 31 10).toInt ≤ 12) ∧ (0 ≤ (σ227 31 11).toInt ∧ (σ227 31 11).toInt ≤ 8) ∧ ((σ227 31 10).toInt + (σ227 31 11).toInt ≤ 12) ∧ (∀ k : Nat, k < 1400 → (-1) ≤ (σ227 33 k).toInt ∧ (σ227 33 k).toInt ≤ 350) ∧ (∀ k : Nat, k < 3159 → (-1) ≤ (σ227 35 k).toInt ∧ (σ227 35 k).toInt ≤ 3) ∧ (∀ k : Nat, k < 1024 → 0 ≤ (σ227 36 k).toInt ∧ (σ227 36 k).toInt ≤ 349) := id p236
            have z245 : (σ227 31 10).toInt = A2 := ((congrArg Int32.toInt (show σ227 31 10 = a2 from ((f233 10 (by decide)).trans ((f203 10 (by decide)).trans ((jkp 10 eσ190 (by decide)).trans ((jkp 10 eσ189 (by decide)).trans ((jkp 10 eσ188 (by decide)).trans (jsp eσ187)))))))).trans t2)
            have z246 : (σ227 31 11).toInt = x16.toInt := (congrArg Int32.toInt (show σ227 31 11 = x16 from ((f233 11 (by decide)).trans ((f203 11 (by decide)).trans ((jkp 11 eσ190 (by decide)).trans ((jkp 11 eσ189 (by decide)).trans (jsp eσ188)))))))
            refine lv_iload hx hb dX1_grow_99 (lv_at hl 0 rfl) ?_
            refine lv_aload_n hx hb dX1_grow_101 rfl (lv_at hl 3 rfl) ?_
            refine va_get (D := D) hx hb hts inlX1 hown hK hP 31 (jc_31 cI cL ad σ227 τ) rfl 8 (by decide) (hts _ kw_27_22) (fun _ h9 => h9) rfl dX1_grow_102 ?_
            refine lv_icmp_ge (tgt := 202) hx hb dX1_grow_105 (by decide) (fun c247 => ?_) (fun c247 => ?_)
            · have kc247 := jle c247 rfl rfl
              have p248 : jKg σ227 := (show jFm (σ227 31 9) → _ from by rw [show σ227 31 9 = a1 from ((f233 9 (by decide)).trans ((f203 9 (by decide)).trans ((jkp 9 eσ190 (by decide)).trans ((jkp 9 eσ189 (by decide)).trans ((jkp 9 eσ188 (by decide)).trans ((jkp 9 eσ187 (by decide)).trans (jsp eσ186)))))))]; exact fun hm => (q237 hm).fin (by omega))
              exact hret σ227 τ _ _ _ _ ⟨rfl, (fun i hi => ((f232 i hi).trans ((f202 i (imp_86 i hi)).trans ((jnp i eσ190 (imp_87 i hi)).trans ((jnp i eσ189 (imp_87 i hi)).trans ((jnp i eσ188 (imp_87 i hi)).trans ((jnp i eσ187 (imp_87 i hi)).trans (jnp i eσ186 (imp_87 i hi))))))))), (fun i hi => ((f233 i (imp_88 i hi)).trans ((f203 i (imp_88 i hi)).trans ((jkp i eσ190 (imp_89 i hi)).trans ((jkp i eσ189 (imp_90 i hi)).trans ((jkp i eσ188 (imp_91 i hi)).trans ((jkp i eσ187 (imp_92 i hi)).trans (jkp i eσ186 (imp_93 i hi))))))))), p236, p234, p235, p248, trivial⟩ hP hS dX1_grow_202
            · have kc247 := jnle c247 rfl rfl
              refine lv_iload hx hb dX1_grow_108 (lv_at hl 0 rfl) ?_
              refine lv_sipush (v := 350) hx hb dX1_grow_110 (by decide) ?_
              refine lv_icmp_ge (tgt := 202) hx hb dX1_grow_113 (by decide) (fun c => absurd (jle c jz_350 rfl) (by omega)) (fun c249 => ?_)
              have kc249 := jnle c249 jz_350 rfl
              refine lv_aload_n hx hb dX1_grow_116 rfl (lv_at hl 3 rfl) ?_
              refine va_get (D := D) hx hb hts inlX1 hown hK hP 31 (jc_31 cI cL ad σ227 τ) rfl 2 (by decide) (hts _ kw_5_3) (fun _ h9 => h9) rfl dX1_grow_117 ?_
              refine lv_iload hx hb dX1_grow_120 (lv_at hl 0 rfl) ?_
              refine jald hx hb hK hP (jc_32 cI cL ad σ227 τ) (jin rfl (by omega) (by omega)) dX1_grow_122 ?_
              refine jtopr (y := (σ227 32 x223.toNatClampNeg)) rfl ?_
              refine lv_ldc (v := 134217727) hx hb hown (hts _ kw_28_10) dX1_grow_123 ?_
              refine lv_iand hx hb dX1_grow_125 ?_
              refine lv_topi (fun x250 ex250 => ?_)
              have gx250 := jrg (rfl : x250.toInt = x250.toInt)
              have g251 : 0 ≤ x250.toInt ∧ x250.toInt ≤ 134217727 := jmask ex250 27 (by decide) (by decide)
              refine lv_istore (lv' := [(6, .int x250), (5, .int x223), (4, .int 1), (3, .int x16), (0, .ref (ad 31)), (1, .int a1), (2, .int a2)]) hx hb dX1_grow_126 hl (by decide) rfl (fun ls hl => ?_)
              refine lv_aload_n hx hb dX1_grow_128 rfl (lv_at hl 4 rfl) ?_
              refine va_get (D := D) hx hb hts inlX1 hown hK hP 31 (jc_31 cI cL ad σ227 τ) rfl 2 (by decide) (hts _ kw_5_3) (fun _ h9 => h9) rfl dX1_grow_129 ?_
              refine lv_iload hx hb dX1_grow_132 (lv_at hl 1 rfl) ?_
              refine jald hx hb hK hP (jc_32 cI cL ad σ227 τ) (jin rfl (by omega) (by omega)) dX1_grow_134 ?_
              refine jtopr (y := (σ227 32 x223.toNatClampNeg)) rfl ?_
              refine lv_bipush (v := 27) hx hb dX1_grow_135 (by decide) ?_
              refine lv_ishr hx hb dX1_grow_137 ?_
              refine lv_topi (fun x252 ex252 => ?_)
              have gx252 := jrg (rfl : x252.toInt = x252.toInt)
              have k253 := jshr27 (x := x252) (k := (σ227 32 x223.toNatClampNeg)) (by rw [ex252])
              have k254 := p234 x223.toNatClampNeg (by rw [jnc (rfl : x223.toInt = x223.toInt)]; omega)
              refine lv_istore (lv' := [(7, .int x252), (6, .int x250), (5, .int x223), (4, .int 1), (3, .int x16), (0, .ref (ad 31)), (1, .int a1), (2, .int a2)]) hx hb dX1_grow_138 hl (by decide) rfl (fun ls hl => ?_)
              refine lv_iconst (v := 0) hx hb dX1_grow_140 (by decide) ?_
              refine lv_istore (lv' := [(8, .int 0), (7, .int x252), (6, .int x250), (5, .int x223), (4, .int 1), (3, .int x16), (0, .ref (ad 31)), (1, .int a1), (2, .int a2)]) hx hb dX1_grow_141 hl (by decide) rfl (fun ls hl => ?_)
              have lp255 : ∀ (n256 : Nat) (x257 : Int32) (σ258 : Nat → Nat → Int32) (H : Heap) (locs : List Loc) (ls : Array Slot), (-x257.toInt + 4 : Int) < n256 → 0 ≤ x257.toInt → x257.toInt ≤ 4 → (∀ i : Nat, (i < 31 ∨ 33 < i) ∧ (i < 36 ∨ 37 < i) → σ258 i = σ227 i) → (∀ k : Nat, (k < 8 ∨ 8 < k) → σ258 31 k = σ227 31 k) → jKb σ258 → jKh σ258 → jI31 σ258 → ((jFm a1 → jqGo a1 (decide ((σ258 31 12).toInt ≠ 0)) (σ258 31 11).toInt (σ258 31 8).toInt (σ258 32) (σ258 33) x223.toInt x257.toInt) ∧ jqNo (σ258 32 x223.toInt.toNat) x250 x252.toInt ∧ x223.toInt < (σ258 31 8).toInt) → jH D cI cL ad σ258 τ H → va_S (jA ad) s.heap H locs → lv_has ls 9 [(8, .int x257), (7, .int x252), (6, .int x250), (5, .int x223), (4, .int 1), (3, .int x16), (0, .ref (ad 31)), (1, .int a1), (2, .int a2)] → W p l e ({ frames := 3, cells := 0, slots := 0, locals := 73 }) s m args below meth c H locs 0 0 Q (F0 m 143 ls []) := by
                intro n256
                induction n256 with
                | zero => intro x257 σ258 H locs ls h260 h261 h262; exact absurd h260 (by omega)
                | succ n256 ihlp255 =>
                  intro x257 σ258 H locs ls h260 h261 h262 f263 f264 p265 p266 p267 q268 hP hS hl
                  obtain ⟨i269, i270, i271, i272, w273, w274, w275⟩ : (0 ≤ (σ258 31 8).toInt ∧ (σ258 31 8).toInt ≤ 350) ∧ (0 ≤ (σ258 31 10).toInt ∧ (σ258 31 10).toInt ≤ 12) ∧ (0 ≤ (σ258 31 11).toInt ∧ (σ258 31 11).toInt ≤ 8) ∧ ((σ258 31 10).toInt + (σ258 31 11).toInt ≤ 12) ∧ (∀ k : Nat, k < 1400 → (-1) ≤ (σ258 33 k).toInt ∧ (σ258 33 k).toInt ≤ 350) ∧ (∀ k : Nat, k < 3159 → (-1) ≤ (σ258 35 k).toInt ∧ (σ258 35 k).toInt ≤ 3) ∧ (∀ k : Nat, k < 1024 → 0 ≤ (σ258 36 k).toInt ∧ (σ258 36 k).toInt ≤ 349) := id p267
                  have z276 : (σ258 31 10).toInt = A2 := ((congrArg Int32.toInt (show σ258 31 10 = a2 from ((f264 10 (by decide)).trans ((f233 10 (by decide)).trans ((f203 10 (by decide)).trans ((jkp 10 eσ190 (by decide)).trans ((jkp 10 eσ189 (by decide)).trans ((jkp 10 eσ188 (by decide)).trans (jsp eσ187))))))))).trans t2)
                  have z277 : (σ258 31 11).toInt = x16.toInt := (congrArg Int32.toInt (show σ258 31 11 = x16 from ((f264 11 (by decide)).trans ((f233 11 (by decide)).trans ((f203 11 (by decide)).trans ((jkp 11 eσ190 (by decide)).trans ((jkp 11 eσ189 (by decide)).trans (jsp eσ188))))))))
                  refine lv_iload hx hb dX1_grow_143 (lv_at hl 0 rfl) ?_
                  refine lv_iconst (v := 4) hx hb dX1_grow_145 (by decide) ?_
                  refine lv_icmp_ge (tgt := 196) hx hb dX1_grow_146 (by decide) (fun c278 => ?_) (fun c278 => ?_)
                  · have kc278 := jle c278 jz_4 rfl
                    obtain ⟨x279, ex279⟩ : ∃ y : Int32, y = x223 + 1 := ⟨_, rfl⟩
                    have tx279 : x279.toInt = x223.toInt + 1 := (jadd ex279 rfl jz_1 (by omega) (by omega)).trans (by omega)
                    refine lv_iinc (v := x279) (lv' := [(5, .int x279), (8, .int x257), (7, .int x252), (6, .int x250), (4, .int 1), (3, .int x16), (0, .ref (ad 31)), (1, .int a1), (2, .int a2)]) hx hb dX1_grow_196 hl (k := 3) rfl (by rw [ex279]; rfl) (by decide) rfl (fun ls hl => ?_)
                    refine lv_goto (tgt := 99) hx hb dX1_grow_199 (by decide) ?_
                    exact ihlp221 x279 σ258 _ _ ls (by have h90 := tx279; omega) (by have h90 := tx279; omega) (by have h90 := tx279; omega) (fun i hi => ((f263 i hi).trans (f232 i hi))) (fun i hi => ((f264 i hi).trans (f233 i hi)))  p265 p266 p267 (fun hm => jqGo.row (q268.1 hm) (by omega) (by have h9 := tx279; omega) (by omega) q268.2.2) hP hS (lv_sub hl [0, 4, 5, 6, 7, 8] rfl)
                  · have kc278 := jnle c278 jz_4 rfl
                    refine lv_aload_n hx hb dX1_grow_149 rfl (lv_at hl 6 rfl) ?_
                    refine va_get (D := D) hx hb hts inlX1 hown hK hP 31 (jc_31 cI cL ad σ258 τ) rfl 3 (by decide) (hts _ kw_5_4) (fun _ h9 => h9) rfl dX1_grow_150 ?_
                    refine lv_iload hx hb dX1_grow_153 (lv_at hl 3 rfl) ?_
                    refine lv_iconst (v := 4) hx hb dX1_grow_155 (by decide) ?_
                    have g280 := jrg (rfl : x223.toInt = x223.toInt)
                    refine lv_imul hx hb dX1_grow_156 ?_
                    refine lv_topi (fun x281 ex281 => ?_)
                    have tx281 : x281.toInt = 4 * x223.toInt := (jmul ex281 rfl jz_4 (by omega) (by omega)).trans (by omega)
                    refine lv_iload hx hb dX1_grow_157 (lv_at hl 0 rfl) ?_
                    have g282 := jrg (rfl : x257.toInt = x257.toInt)
                    refine lv_iadd hx hb dX1_grow_159 ?_
                    refine lv_topi (fun x283 ex283 => ?_)
                    have tx283 : x283.toInt = 4 * x223.toInt + x257.toInt := (jadd ex283 tx281 rfl (by omega) (by omega)).trans (by omega)
                    refine lv_iload hx hb dX1_grow_160 (lv_at hl 2 rfl) ?_
                    refine lv_iload hx hb dX1_grow_162 (lv_at hl 0 rfl) ?_
                    refine jcallS (As := [.int x250, .int x257]) (rest := [.int x283, .ref (ad 33)]) ⟨hx, hb, hml, hown, hts⟩ hK hP hA hS hZ (c_X0_mayBowl l D cI cL ad zz hJ σ258 τ x250 (x250.toInt) rfl x257 (x257.toInt) rfl) cw_RX1_115 ⟨Nat.le_of_ble_eq_true rfl, Nat.le_of_ble_eq_true rfl⟩ rfl rfl rfl hl.1 rfl (Nat.le_of_ble_eq_true rfl) dX1_grow_164 ⟨Nat.zero_le _, Nat.zero_le _⟩ (fun r285 σ284 τ284 H locs h284 hP hS => ?_)
                    obtain ⟨⟨rfl, rfl⟩, w286, h284⟩ := h284
                    rcases h284 with h287 | h288
                    · obtain ⟨q290, k289⟩ := h287
                      have q290 := q290.symm
                      subst q290
                      refine lv_if_eq (tgt := 188) hx hb dX1_grow_167 (by decide) (fun c => absurd c (by decide)) (fun _ => ?_)
                      refine lv_aload_n hx hb dX1_grow_170 rfl (lv_at hl 6 rfl) ?_
                      refine lv_iload hx hb dX1_grow_171 (lv_at hl 2 rfl) ?_
                      refine lv_iload hx hb dX1_grow_173 (lv_at hl 0 rfl) ?_
                      refine jcallS (As := [.int x250, .int x257]) (rest := [.ref (ad 31), .int x283, .ref (ad 33)]) ⟨hx, hb, hml, hown, hts⟩ hK hP hA hS hZ (c_X0_after_r l D cI cL ad zz hJ σ258 τ x250 (x250.toInt) rfl x257 (x257.toInt) rfl (by omega)) cw_RX1_119 ⟨Nat.le_of_ble_eq_true rfl, Nat.le_of_ble_eq_true rfl⟩ rfl rfl rfl hl.1 rfl (Nat.le_of_ble_eq_true rfl) dX1_grow_175 ⟨Nat.zero_le _, Nat.zero_le _⟩ (fun r292 σ291 τ291 H locs h291 hP hS => ?_)
                      obtain ⟨⟨rfl, rfl⟩, w293, w294, h291⟩ := h291
                      have h295 := h291
                      obtain ⟨q297, k296⟩ := h295
                      refine lv_iload hx hb dX1_grow_178 (lv_at hl 1 rfl) ?_
                      refine lv_iconst (v := 1) hx hb dX1_grow_180 (by decide) ?_
                      have g298 := jrg (rfl : x252.toInt = x252.toInt)
                      refine lv_iadd hx hb dX1_grow_181 ?_
                      refine lv_topi (fun x299 ex299 => ?_)
                      have tx299 : x299.toInt = x252.toInt + 1 := (jadd ex299 rfl jz_1 (by omega) (by omega)).trans (by omega)
                      refine jcallV (As := [.int r292, .int x299]) (rest := [.int x283, .ref (ad 33)]) ⟨hx, hb, hml, hown, hts⟩ hK hP hA hS hZ (c_X1_add_31 l D cI cL ad zz hJ σ258 τ r292 (r292.toInt) rfl x299 (x252.toInt + 1) tx299 p267 p265 p266 (by omega) (by omega)) cw_RX1_111 (jc_31 cI cL ad σ258 τ) rfl ⟨Nat.le_of_ble_eq_true rfl, Nat.le_of_ble_eq_true rfl⟩ rfl rfl rfl hl.1 rfl (Nat.le_of_ble_eq_true rfl) dX1_grow_182 ⟨Nat.zero_le _, Nat.zero_le _⟩ (fun r301 σ300 τ300 H locs h300 hP hS => ?_)
                      obtain ⟨rfl, f302, f303, I304, p305, p306, w307, h300⟩ := h300
                      obtain ⟨i309, i310, i311, i312, w313, w314, w315⟩ : (0 ≤ (σ300 31 8).toInt ∧ (σ300 31 8).toInt ≤ 350) ∧ (0 ≤ (σ300 31 10).toInt ∧ (σ300 31 10).toInt ≤ 12) ∧ (0 ≤ (σ300 31 11).toInt ∧ (σ300 31 11).toInt ≤ 8) ∧ ((σ300 31 10).toInt + (σ300 31 11).toInt ≤ 12) ∧ (∀ k : Nat, k < 1400 → (-1) ≤ (σ300 33 k).toInt ∧ (σ300 33 k).toInt ≤ 350) ∧ (∀ k : Nat, k < 3159 → (-1) ≤ (σ300 35 k).toInt ∧ (σ300 35 k).toInt ≤ 3) ∧ (∀ k : Nat, k < 1024 → 0 ≤ (σ300 36 k).toInt ∧ (σ300 36 k).toInt ≤ 349) := id I304
                      have z316 : (σ300 31 10).toInt = A2 := ((congrArg Int32.toInt (show σ300 31 10 = a2 from ((f303 10 (by decide)).trans ((f264 10 (by decide)).trans ((f233 10 (by decide)).trans ((f203 10 (by decide)).trans ((jkp 10 eσ190 (by decide)).trans ((jkp 10 eσ189 (by decide)).trans ((jkp 10 eσ188 (by decide)).trans (jsp eσ187)))))))))).trans t2)
                      have z317 : (σ300 31 11).toInt = x16.toInt := (congrArg Int32.toInt (show σ300 31 11 = x16 from ((f303 11 (by decide)).trans ((f264 11 (by decide)).trans ((f233 11 (by decide)).trans ((f203 11 (by decide)).trans ((jkp 11 eσ190 (by decide)).trans ((jkp 11 eσ189 (by decide)).trans (jsp eσ188)))))))))
                      have h318 := h300
                      obtain ⟨q320, k319⟩ := h318
                      refine lv_goto (tgt := 189) hx hb dX1_grow_185 (by decide) ?_
                      refine jast hx hb hK hP hJ hA hS (jc_33 cI cL ad σ300 τ) (ja_33 cI cL ad σ300 τ _ _) (jin tx283 (by omega) (by omega)) dX1_grow_189 (fun σ321 H locs eσ321 hP hS => ?_)
                      obtain ⟨x322, ex322⟩ : ∃ y : Int32, y = x257 + 1 := ⟨_, rfl⟩
                      have tx322 : x322.toInt = x257.toInt + 1 := (jadd ex322 rfl jz_1 (by omega) (by omega)).trans (by omega)
                      refine lv_iinc (v := x322) (lv' := [(8, .int x322), (7, .int x252), (6, .int x250), (5, .int x223), (4, .int 1), (3, .int x16), (0, .ref (ad 31)), (1, .int a1), (2, .int a2)]) hx hb dX1_grow_190 hl (k := 0) rfl (by rw [ex322]; rfl) (by decide) rfl (fun ls hl => ?_)
                      refine lv_goto (tgt := 143) hx hb dX1_grow_193 (by decide) ?_
                      have p323 : jKb σ321 := jKb.fr (congrFun (jnp 31 eσ321 (by decide)) 8) (congrFun (jnp 31 eσ321 (by decide)) 11) (jnp 32 eσ321 (by decide)) p305
                      have p324 : jKh σ321 := jKh.fr (congrFun (jnp 31 eσ321 (by decide)) 8) (jnp 32 eσ321 (by decide)) (jnp 36 eσ321 (by decide)) (jnp 37 eσ321 (by decide)) p306
                      have z325 : (σ321 31 8).toInt = (σ300 31 8).toInt := (congrArg Int32.toInt (show σ321 31 8 = (σ300 31 8) from (congrFun (jnp 31 eσ321 (by decide)) 8)))
                      have z326 : (σ321 31 10).toInt = A2 := ((congrArg Int32.toInt (show σ321 31 10 = a2 from ((congrFun (jnp 31 eσ321 (by decide)) 10).trans ((f303 10 (by decide)).trans ((f264 10 (by decide)).trans ((f233 10 (by decide)).trans ((f203 10 (by decide)).trans ((jkp 10 eσ190 (by decide)).trans ((jkp 10 eσ189 (by decide)).trans ((jkp 10 eσ188 (by decide)).trans (jsp eσ187))))))))))).trans t2)
                      have z327 : (σ321 31 11).toInt = x16.toInt := (congrArg Int32.toInt (show σ321 31 11 = x16 from ((congrFun (jnp 31 eσ321 (by decide)) 11).trans ((f303 11 (by decide)).trans ((f264 11 (by decide)).trans ((f233 11 (by decide)).trans ((f203 11 (by decide)).trans ((jkp 11 eσ190 (by decide)).trans ((jkp 11 eσ189 (by decide)).trans (jsp eσ188))))))))))
                      have w328 : ∀ k : Nat, k < 1400 → (-1) ≤ (σ321 33 k).toInt ∧ (σ321 33 k).toInt ≤ 350 := (by rw [eσ321]; exact jrr_up w313 (by omega) (by omega))
                      have w329 : ∀ k : Nat, k < 3159 → (-1) ≤ (σ321 35 k).toInt ∧ (σ321 35 k).toInt ≤ 3 := (jrr_fr (jnp 35 eσ321 (by decide)) w314)
                      have w330 : ∀ k : Nat, k < 1024 → 0 ≤ (σ321 36 k).toInt ∧ (σ321 36 k).toInt ≤ 349 := (jrr_fr (jnp 36 eσ321 (by decide)) w315)
                      have I331 : jI31 σ321 := ⟨(by omega), (by omega), (by omega), (by omega), w328, w329, w330⟩
                      exact ihlp255 x322 σ321 _ _ ls (by have h90 := tx322; omega) (by have h90 := tx322; omega) (by have h90 := tx322; omega) (fun i hi => ((jnp i eσ321 (imp_94 i hi)).trans ((f302 i (imp_86 i hi)).trans (f263 i hi)))) (fun i hi => ((congrFun (jnp 31 eσ321 (by decide)) i).trans ((f303 i hi).trans (f264 i hi))))  p323 p324 I331 (by rw [show σ321 31 8 = σ300 31 8 from (congrFun (jnp 31 eσ321 (by decide)) 8), show σ321 32 = σ300 32 from (jnp 32 eσ321 (by decide)), show σ321 31 11 = σ258 31 11 from ((congrFun (jnp 31 eσ321 (by decide)) 11).trans (f303 11 (by decide))), show σ321 31 12 = σ258 31 12 from ((congrFun (jnp 31 eσ321 (by decide)) 12).trans (f303 12 (by decide)))]; exact ⟨(fun hm => jqGo.put (q268.1 hm) (by omega) (by omega) (by omega) (by omega) q268.2.1 ((jqMy_iff (by omega) (by omega)).mpr ((w286).elim (fun w => w.2) (fun w => absurd w.1 (by decide)))) (w294 (by omega) (by omega)) w307 (by omega) p266 (by omega) (by rw [eσ321, jup_row, f302 33 (by decide), jnc (show x283.toInt = 4 * x223.toInt + x257.toInt by have h9 := tx283; omega)]) rfl (by have h9 := tx322; omega)), (by rw [(w307).1 x223.toInt.toNat (by omega)]; exact q268.2.1), (by have w8 := jqAd.le w307; have w9 := q268.2.2; omega)⟩) hP hS (lv_sub hl [0, 1, 2, 3, 4, 5, 6, 7, 8] rfl)
                    · obtain ⟨q333, k332⟩ := h288
                      have q333 := q333.symm
                      subst q333
                      refine lv_if_eq (tgt := 188) hx hb dX1_grow_167 (by decide) (fun _ => ?_) (fun c => absurd (by decide) c)
                      refine lv_iconst (v := (-1)) hx hb dX1_grow_188 (by decide) ?_
                      refine jast hx hb hK hP hJ hA hS (jc_33 cI cL ad σ258 τ) (ja_33 cI cL ad σ258 τ _ _) (jin tx283 (by omega) (by omega)) dX1_grow_189 (fun σ334 H locs eσ334 hP hS => ?_)
                      obtain ⟨x335, ex335⟩ : ∃ y : Int32, y = x257 + 1 := ⟨_, rfl⟩
                      have tx335 : x335.toInt = x257.toInt + 1 := (jadd ex335 rfl jz_1 (by omega) (by omega)).trans (by omega)
                      refine lv_iinc (v := x335) (lv' := [(8, .int x335), (7, .int x252), (6, .int x250), (5, .int x223), (4, .int 1), (3, .int x16), (0, .ref (ad 31)), (1, .int a1), (2, .int a2)]) hx hb dX1_grow_190 hl (k := 0) rfl (by rw [ex335]; rfl) (by decide) rfl (fun ls hl => ?_)
                      refine lv_goto (tgt := 143) hx hb dX1_grow_193 (by decide) ?_
                      have p336 : jKb σ334 := jKb.fr (congrFun (jnp 31 eσ334 (by decide)) 8) (congrFun (jnp 31 eσ334 (by decide)) 11) (jnp 32 eσ334 (by decide)) p265
                      have p337 : jKh σ334 := jKh.fr (congrFun (jnp 31 eσ334 (by decide)) 8) (jnp 32 eσ334 (by decide)) (jnp 36 eσ334 (by decide)) (jnp 37 eσ334 (by decide)) p266
                      have z338 : (σ334 31 8).toInt = (σ258 31 8).toInt := (congrArg Int32.toInt (show σ334 31 8 = (σ258 31 8) from (congrFun (jnp 31 eσ334 (by decide)) 8)))
                      have z339 : (σ334 31 10).toInt = A2 := ((congrArg Int32.toInt (show σ334 31 10 = a2 from ((congrFun (jnp 31 eσ334 (by decide)) 10).trans ((f264 10 (by decide)).trans ((f233 10 (by decide)).trans ((f203 10 (by decide)).trans ((jkp 10 eσ190 (by decide)).trans ((jkp 10 eσ189 (by decide)).trans ((jkp 10 eσ188 (by decide)).trans (jsp eσ187)))))))))).trans t2)
                      have z340 : (σ334 31 11).toInt = x16.toInt := (congrArg Int32.toInt (show σ334 31 11 = x16 from ((congrFun (jnp 31 eσ334 (by decide)) 11).trans ((f264 11 (by decide)).trans ((f233 11 (by decide)).trans ((f203 11 (by decide)).trans ((jkp 11 eσ190 (by decide)).trans ((jkp 11 eσ189 (by decide)).trans (jsp eσ188)))))))))
                      have w341 : ∀ k : Nat, k < 1400 → (-1) ≤ (σ334 33 k).toInt ∧ (σ334 33 k).toInt ≤ 350 := (by rw [eσ334]; exact jrr_up w273 (by have h9 := jz_m1; omega) (by have h9 := jz_m1; omega))
                      have w342 : ∀ k : Nat, k < 3159 → (-1) ≤ (σ334 35 k).toInt ∧ (σ334 35 k).toInt ≤ 3 := (jrr_fr (jnp 35 eσ334 (by decide)) w274)
                      have w343 : ∀ k : Nat, k < 1024 → 0 ≤ (σ334 36 k).toInt ∧ (σ334 36 k).toInt ≤ 349 := (jrr_fr (jnp 36 eσ334 (by decide)) w275)
                      have I344 : jI31 σ334 := ⟨(by omega), (by omega), (by omega), (by omega), w341, w342, w343⟩
                      exact ihlp255 x335 σ334 _ _ ls (by have h90 := tx335; omega) (by have h90 := tx335; omega) (by have h90 := tx335; omega) (fun i hi => ((jnp i eσ334 (imp_94 i hi)).trans (f263 i hi))) (fun i hi => ((congrFun (jnp 31 eσ334 (by decide)) i).trans (f264 i hi)))  p336 p337 I344 (by rw [show σ334 31 8 = σ258 31 8 from (congrFun (jnp 31 eσ334 (by decide)) 8), show σ334 31 11 = σ258 31 11 from (congrFun (jnp 31 eσ334 (by decide)) 11), show σ334 31 12 = σ258 31 12 from (congrFun (jnp 31 eσ334 (by decide)) 12), show σ334 32 = σ258 32 from (jnp 32 eσ334 (by decide))]; exact ⟨(fun hm => jqGo.none (q268.1 hm) (by omega) (by omega) (by omega) (by omega) q268.2.1 (fun w => ((w286).elim (fun w => absurd w.1 (by decide)) (fun w => w.2)) ((jqMy_iff (by omega) (by omega)).mp w)) (by rw [eσ334, jup_row, jnc (show x283.toInt = 4 * x223.toInt + x257.toInt by have h9 := tx283; omega)]) (by decide) (by have h9 := tx335; omega)), q268.2.1, q268.2.2⟩) hP hS (lv_sub hl [0, 1, 2, 3, 4, 5, 6, 7, 8] rfl)
              exact lp255 1000000 0 σ227 _ _ ls (by have h90 := jz_0; omega) (by have h90 := jz_0; omega) (by have h90 := jz_0; omega) (fun _ _ => rfl) (fun _ _ => rfl)  p234 p235 p236 ⟨(by rw [show (0 : Int32).toInt = 0 from by decide]; exact q237), ⟨(by have w := jandm (x := (σ227 32 x223.toNatClampNeg)) (y := x250) (m := 134217727) (k := 27) (M := 134217728) (by rw [ex250]) rfl rfl (by decide); show (σ227 32 x223.toNatClampNeg).toInt = _; omega), ⟨by omega, by omega⟩, (by omega)⟩, by omega⟩ hP hS hl
        exact lp221 1000000 0 σ200 _ _ ls (by have h90 := jz_0; omega) (by have h90 := jz_0; omega) (by have h90 := jz_0; omega) (fun _ _ => rfl) (fun _ _ => rfl)  p205 p206 I204 (by rw [show σ200 31 11 = σ190 31 11 from (f203 11 (by decide)), show σ200 31 12 = σ190 31 12 from (f203 12 (by decide))]; exact (fun hm => jqGo.first hm (by have w := w207; rw [show (σ190 31 8).toInt = 0 from by omega] at w; exact w) rfl (by have h9 := jz_0; omega))) hP hS hl
      · have kc185 := jeq c185 rfl rfl
        refine lv_aload_n hx hb dX1_grow_48 rfl (lv_at hl 2 rfl) ?_
        refine va_get (D := D) hx hb hts inlX1 hown hK hP 31 (jc_31 cI cL ad σ τ) rfl 12 (by decide) (hts _ kw_28_8) (fun _ h9 => h9) rfl dX1_grow_49 ?_
        refine lv_iload hx hb dX1_grow_52 (lv_at hl 0 rfl) ?_
        refine lv_icmp_ne (tgt := 63) hx hb dX1_grow_54 (by decide) (fun c345 => ?_) (fun c345 => ?_)
        · have kc345 := jne c345 rfl jz_1
          refine lv_aload_n hx hb dX1_grow_63 rfl (lv_at hl 2 rfl) ?_
          refine lv_iload_n hx hb dX1_grow_64 rfl (lv_at hl 3 rfl) ?_
          refine jput (ty := .int) hx hb hts inlX1 tyX1 tyX1_ok nmX1 hown hK hP hJ hA hS (jc_31 cI cL ad σ τ) rfl (k := 9) (by decide) (Nat.le_of_ble_eq_true rfl) (jp_31_9 cI cL ad σ τ a1) (hts _ kw_5_9) (fun _ h9 => h9) rfl (by decide +kernel) rfl rfl dX1_grow_65 (fun σ346 H locs eσ346 hP hS => ?_)
          refine lv_aload_n hx hb dX1_grow_68 rfl (lv_at hl 2 rfl) ?_
          refine lv_iload_n hx hb dX1_grow_69 rfl (lv_at hl 4 rfl) ?_
          refine jput (ty := .int) hx hb hts inlX1 tyX1 tyX1_ok nmX1 hown hK hP hJ hA hS (jc_31 cI cL ad σ346 τ) rfl (k := 10) (by decide) (Nat.le_of_ble_eq_true rfl) (jp_31_10 cI cL ad σ346 τ a2) (hts _ kw_28_9) (fun _ h9 => h9) rfl (by decide +kernel) rfl rfl dX1_grow_70 (fun σ347 H locs eσ347 hP hS => ?_)
          refine lv_aload_n hx hb dX1_grow_73 rfl (lv_at hl 2 rfl) ?_
          refine lv_iload_n hx hb dX1_grow_74 rfl (lv_at hl 1 rfl) ?_
          refine jput (ty := .int) hx hb hts inlX1 tyX1 tyX1_ok nmX1 hown hK hP hJ hA hS (jc_31 cI cL ad σ347 τ) rfl (k := 11) (by decide) (Nat.le_of_ble_eq_true rfl) (jp_31_11 cI cL ad σ347 τ x16) (hts _ kw_28_7) (fun _ h9 => h9) rfl (by decide +kernel) rfl rfl dX1_grow_75 (fun σ348 H locs eσ348 hP hS => ?_)
          refine lv_aload_n hx hb dX1_grow_78 rfl (lv_at hl 2 rfl) ?_
          refine lv_iload hx hb dX1_grow_79 (lv_at hl 0 rfl) ?_
          refine jput (ty := .boolean) hx hb hts inlX1 tyX1 tyX1_ok nmX1 hown hK hP hJ hA hS (jc_31 cI cL ad σ348 τ) rfl (k := 12) (by decide) (Nat.le_of_ble_eq_true rfl) (jp_31_12 cI cL ad σ348 τ 1) (hts _ kw_28_8) (fun _ h9 => h9) rfl (by decide +kernel) rfl rfl dX1_grow_81 (fun σ349 H locs eσ349 hP hS => ?_)
          refine lv_aload_n hx hb dX1_grow_84 rfl (lv_at hl 2 rfl) ?_
          refine lv_iconst (v := 0) hx hb dX1_grow_85 (by decide) ?_
          refine jput (ty := .int) hx hb hts inlX1 tyX1 tyX1_ok nmX1 hown hK hP hJ hA hS (jc_31 cI cL ad σ349 τ) rfl (k := 8) (by decide) (Nat.le_of_ble_eq_true rfl) (jp_31_8 cI cL ad σ349 τ 0) (hts _ kw_27_22) (fun _ h9 => h9) rfl (by decide +kernel) rfl rfl dX1_grow_86 (fun σ350 H locs eσ350 hP hS => ?_)
          have z351 : (σ350 31 8).toInt = 0 := ((congrArg Int32.toInt (show σ350 31 8 = 0 from (jsp eσ350))).trans jz_0)
          have p352 : jKb σ350 := (jKb.nil (by omega))
          have p353 : jKh σ350 := (jKh.nil (by omega))
          refine lv_aload_n hx hb dX1_grow_89 rfl (lv_at hl 2 rfl) ?_
          refine lv_iload_n hx hb dX1_grow_90 rfl (lv_at hl 3 rfl) ?_
          refine lv_iconst (v := 0) hx hb dX1_grow_91 (by decide) ?_
          have z354 : (σ350 31 10).toInt = A2 := ((congrArg Int32.toInt (show σ350 31 10 = a2 from ((jkp 10 eσ350 (by decide)).trans ((jkp 10 eσ349 (by decide)).trans ((jkp 10 eσ348 (by decide)).trans (jsp eσ347)))))).trans t2)
          have z355 : (σ350 31 11).toInt = x16.toInt := (congrArg Int32.toInt (show σ350 31 11 = x16 from ((jkp 11 eσ350 (by decide)).trans ((jkp 11 eσ349 (by decide)).trans (jsp eσ348)))))
          have w356 : ∀ k : Nat, k < 1400 → (-1) ≤ (σ350 33 k).toInt ∧ (σ350 33 k).toInt ≤ 350 := (jrr_fr (jnp 33 eσ350 (by decide)) (jrr_fr (jnp 33 eσ349 (by decide)) (jrr_fr (jnp 33 eσ348 (by decide)) (jrr_fr (jnp 33 eσ347 (by decide)) (jrr_fr (jnp 33 eσ346 (by decide)) w9)))))
          have w357 : ∀ k : Nat, k < 3159 → (-1) ≤ (σ350 35 k).toInt ∧ (σ350 35 k).toInt ≤ 3 := (jrr_fr (jnp 35 eσ350 (by decide)) (jrr_fr (jnp 35 eσ349 (by decide)) (jrr_fr (jnp 35 eσ348 (by decide)) (jrr_fr (jnp 35 eσ347 (by decide)) (jrr_fr (jnp 35 eσ346 (by decide)) w10)))))
          have w358 : ∀ k : Nat, k < 1024 → 0 ≤ (σ350 36 k).toInt ∧ (σ350 36 k).toInt ≤ 349 := (jrr_fr (jnp 36 eσ350 (by decide)) (jrr_fr (jnp 36 eσ349 (by decide)) (jrr_fr (jnp 36 eσ348 (by decide)) (jrr_fr (jnp 36 eσ347 (by decide)) (jrr_fr (jnp 36 eσ346 (by decide)) w11)))))
          have I359 : jI31 σ350 := ⟨(by omega), (by omega), (by omega), (by omega), w356, w357, w358⟩
          refine jcallV (As := [.int a1, .int 0]) (rest := []) ⟨hx, hb, hml, hown, hts⟩ hK hP hA hS hZ (c_X1_add_31 l D cI cL ad zz hJ σ350 τ a1 (A1) t1 0 (0) jz_0 I359 p352 p353 (by omega) (by omega)) cw_RX1_111 (jc_31 cI cL ad σ350 τ) rfl ⟨Nat.le_of_ble_eq_true rfl, Nat.le_of_ble_eq_true rfl⟩ rfl rfl rfl hl.1 rfl (Nat.le_of_ble_eq_true rfl) dX1_grow_92 ⟨Nat.zero_le _, Nat.zero_le _⟩ (fun r361 σ360 τ360 H locs h360 hP hS => ?_)
          obtain ⟨rfl, f362, f363, I364, p365, p366, w367, h360⟩ := h360
          obtain ⟨i369, i370, i371, i372, w373, w374, w375⟩ : (0 ≤ (σ360 31 8).toInt ∧ (σ360 31 8).toInt ≤ 350) ∧ (0 ≤ (σ360 31 10).toInt ∧ (σ360 31 10).toInt ≤ 12) ∧ (0 ≤ (σ360 31 11).toInt ∧ (σ360 31 11).toInt ≤ 8) ∧ ((σ360 31 10).toInt + (σ360 31 11).toInt ≤ 12) ∧ (∀ k : Nat, k < 1400 → (-1) ≤ (σ360 33 k).toInt ∧ (σ360 33 k).toInt ≤ 350) ∧ (∀ k : Nat, k < 3159 → (-1) ≤ (σ360 35 k).toInt ∧ (σ360 35 k).toInt ≤ 3) ∧ (∀ k : Nat, k < 1024 → 0 ≤ (σ360 36 k).toInt ∧ (σ360 36 k).toInt ≤ 349) := id I364
          have z376 : (σ360 31 10).toInt = A2 := ((congrArg Int32.toInt (show σ360 31 10 = a2 from ((f363 10 (by decide)).trans ((jkp 10 eσ350 (by decide)).trans ((jkp 10 eσ349 (by decide)).trans ((jkp 10 eσ348 (by decide)).trans (jsp eσ347))))))).trans t2)
          have z377 : (σ360 31 11).toInt = x16.toInt := (congrArg Int32.toInt (show σ360 31 11 = x16 from ((f363 11 (by decide)).trans ((jkp 11 eσ350 (by decide)).trans ((jkp 11 eσ349 (by decide)).trans (jsp eσ348))))))
          have h378 := h360
          obtain ⟨q380, k379⟩ := h378
          refine lv_pop hx hb dX1_grow_95 rfl ?_
          refine lv_iconst (v := 0) hx hb dX1_grow_96 (by decide) ?_
          refine lv_istore (lv' := [(5, .int 0), (4, .int 1), (3, .int x16), (0, .ref (ad 31)), (1, .int a1), (2, .int a2)]) hx hb dX1_grow_97 hl (by decide) rfl (fun ls hl => ?_)
          have lp381 : ∀ (n382 : Nat) (x383 : Int32) (σ387 : Nat → Nat → Int32) (H : Heap) (locs : List Loc) (ls : Array Slot), (-x383.toInt + 350 : Int) < n382 → 0 ≤ x383.toInt → x383.toInt ≤ 350 → (∀ i : Nat, (i < 31 ∨ 33 < i) ∧ (i < 36 ∨ 37 < i) → σ387 i = σ360 i) → (∀ k : Nat, (k < 8 ∨ 8 < k) → σ387 31 k = σ360 31 k) → jKb σ387 → jKh σ387 → jI31 σ387 → (jFm a1 → jqGo a1 (decide ((σ387 31 12).toInt ≠ 0)) (σ387 31 11).toInt (σ387 31 8).toInt (σ387 32) (σ387 33) x383.toInt 0) → jH D cI cL ad σ387 τ H → va_S (jA ad) s.heap H locs → lv_has ls 9 [(5, .int x383), (4, .int 1), (3, .int x16), (0, .ref (ad 31)), (1, .int a1), (2, .int a2)] → W p l e ({ frames := 3, cells := 0, slots := 0, locals := 73 }) s m args below meth c H locs 0 0 Q (F0 m 99 ls []) := by
            intro n382
            induction n382 with
            | zero => intro x383 σ387 H locs ls h389 h390 h391; exact absurd h389 (by omega)
            | succ n382 ihlp381 =>
              intro x383 σ387 H locs ls h389 h390 h391 f392 f393 p394 p395 p396 q397 hP hS hl
              obtain ⟨i398, i399, i400, i401, w402, w403, w404⟩ : (0 ≤ (σ387 31 8).toInt ∧ (σ387 31 8).toInt ≤ 350) ∧ (0 ≤ (σ387 31 10).toInt ∧ (σ387 31 10).toInt ≤ 12) ∧ (0 ≤ (σ387 31 11).toInt ∧ (σ387 31 11).toInt ≤ 8) ∧ ((σ387 31 10).toInt + (σ387 31 11).toInt ≤ 12) ∧ (∀ k : Nat, k < 1400 → (-1) ≤ (σ387 33 k).toInt ∧ (σ387 33 k).toInt ≤ 350) ∧ (∀ k : Nat, k < 3159 → (-1) ≤ (σ387 35 k).toInt ∧ (σ387 35 k).toInt ≤ 3) ∧ (∀ k : Nat, k < 1024 → 0 ≤ (σ387 36 k).toInt ∧ (σ387 36 k).toInt ≤ 349) := id p396
              have z405 : (σ387 31 10).toInt = A2 := ((congrArg Int32.toInt (show σ387 31 10 = a2 from ((f393 10 (by decide)).trans ((f363 10 (by decide)).trans ((jkp 10 eσ350 (by decide)).trans ((jkp 10 eσ349 (by decide)).trans ((jkp 10 eσ348 (by decide)).trans (jsp eσ347)))))))).trans t2)
              have z406 : (σ387 31 11).toInt = x16.toInt := (congrArg Int32.toInt (show σ387 31 11 = x16 from ((f393 11 (by decide)).trans ((f363 11 (by decide)).trans ((jkp 11 eσ350 (by decide)).trans ((jkp 11 eσ349 (by decide)).trans (jsp eσ348)))))))
              refine lv_iload hx hb dX1_grow_99 (lv_at hl 0 rfl) ?_
              refine lv_aload_n hx hb dX1_grow_101 rfl (lv_at hl 3 rfl) ?_
              refine va_get (D := D) hx hb hts inlX1 hown hK hP 31 (jc_31 cI cL ad σ387 τ) rfl 8 (by decide) (hts _ kw_27_22) (fun _ h9 => h9) rfl dX1_grow_102 ?_
              refine lv_icmp_ge (tgt := 202) hx hb dX1_grow_105 (by decide) (fun c407 => ?_) (fun c407 => ?_)
              · have kc407 := jle c407 rfl rfl
                have p408 : jKg σ387 := (show jFm (σ387 31 9) → _ from by rw [show σ387 31 9 = a1 from ((f393 9 (by decide)).trans ((f363 9 (by decide)).trans ((jkp 9 eσ350 (by decide)).trans ((jkp 9 eσ349 (by decide)).trans ((jkp 9 eσ348 (by decide)).trans ((jkp 9 eσ347 (by decide)).trans (jsp eσ346)))))))]; exact fun hm => (q397 hm).fin (by omega))
                exact hret σ387 τ _ _ _ _ ⟨rfl, (fun i hi => ((f392 i hi).trans ((f362 i (imp_86 i hi)).trans ((jnp i eσ350 (imp_87 i hi)).trans ((jnp i eσ349 (imp_87 i hi)).trans ((jnp i eσ348 (imp_87 i hi)).trans ((jnp i eσ347 (imp_87 i hi)).trans (jnp i eσ346 (imp_87 i hi))))))))), (fun i hi => ((f393 i (imp_88 i hi)).trans ((f363 i (imp_88 i hi)).trans ((jkp i eσ350 (imp_89 i hi)).trans ((jkp i eσ349 (imp_90 i hi)).trans ((jkp i eσ348 (imp_91 i hi)).trans ((jkp i eσ347 (imp_92 i hi)).trans (jkp i eσ346 (imp_93 i hi))))))))), p396, p394, p395, p408, trivial⟩ hP hS dX1_grow_202
              · have kc407 := jnle c407 rfl rfl
                refine lv_iload hx hb dX1_grow_108 (lv_at hl 0 rfl) ?_
                refine lv_sipush (v := 350) hx hb dX1_grow_110 (by decide) ?_
                refine lv_icmp_ge (tgt := 202) hx hb dX1_grow_113 (by decide) (fun c => absurd (jle c jz_350 rfl) (by omega)) (fun c409 => ?_)
                have kc409 := jnle c409 jz_350 rfl
                refine lv_aload_n hx hb dX1_grow_116 rfl (lv_at hl 3 rfl) ?_
                refine va_get (D := D) hx hb hts inlX1 hown hK hP 31 (jc_31 cI cL ad σ387 τ) rfl 2 (by decide) (hts _ kw_5_3) (fun _ h9 => h9) rfl dX1_grow_117 ?_
                refine lv_iload hx hb dX1_grow_120 (lv_at hl 0 rfl) ?_
                refine jald hx hb hK hP (jc_32 cI cL ad σ387 τ) (jin rfl (by omega) (by omega)) dX1_grow_122 ?_
                refine jtopr (y := (σ387 32 x383.toNatClampNeg)) rfl ?_
                refine lv_ldc (v := 134217727) hx hb hown (hts _ kw_28_10) dX1_grow_123 ?_
                refine lv_iand hx hb dX1_grow_125 ?_
                refine lv_topi (fun x410 ex410 => ?_)
                have gx410 := jrg (rfl : x410.toInt = x410.toInt)
                have g411 : 0 ≤ x410.toInt ∧ x410.toInt ≤ 134217727 := jmask ex410 27 (by decide) (by decide)
                refine lv_istore (lv' := [(6, .int x410), (5, .int x383), (4, .int 1), (3, .int x16), (0, .ref (ad 31)), (1, .int a1), (2, .int a2)]) hx hb dX1_grow_126 hl (by decide) rfl (fun ls hl => ?_)
                refine lv_aload_n hx hb dX1_grow_128 rfl (lv_at hl 4 rfl) ?_
                refine va_get (D := D) hx hb hts inlX1 hown hK hP 31 (jc_31 cI cL ad σ387 τ) rfl 2 (by decide) (hts _ kw_5_3) (fun _ h9 => h9) rfl dX1_grow_129 ?_
                refine lv_iload hx hb dX1_grow_132 (lv_at hl 1 rfl) ?_
                refine jald hx hb hK hP (jc_32 cI cL ad σ387 τ) (jin rfl (by omega) (by omega)) dX1_grow_134 ?_
                refine jtopr (y := (σ387 32 x383.toNatClampNeg)) rfl ?_
                refine lv_bipush (v := 27) hx hb dX1_grow_135 (by decide) ?_
                refine lv_ishr hx hb dX1_grow_137 ?_
                refine lv_topi (fun x412 ex412 => ?_)
                have gx412 := jrg (rfl : x412.toInt = x412.toInt)
                have k413 := jshr27 (x := x412) (k := (σ387 32 x383.toNatClampNeg)) (by rw [ex412])
                have k414 := p394 x383.toNatClampNeg (by rw [jnc (rfl : x383.toInt = x383.toInt)]; omega)
                refine lv_istore (lv' := [(7, .int x412), (6, .int x410), (5, .int x383), (4, .int 1), (3, .int x16), (0, .ref (ad 31)), (1, .int a1), (2, .int a2)]) hx hb dX1_grow_138 hl (by decide) rfl (fun ls hl => ?_)
                refine lv_iconst (v := 0) hx hb dX1_grow_140 (by decide) ?_
                refine lv_istore (lv' := [(8, .int 0), (7, .int x412), (6, .int x410), (5, .int x383), (4, .int 1), (3, .int x16), (0, .ref (ad 31)), (1, .int a1), (2, .int a2)]) hx hb dX1_grow_141 hl (by decide) rfl (fun ls hl => ?_)
                have lp415 : ∀ (n416 : Nat) (x417 : Int32) (σ418 : Nat → Nat → Int32) (H : Heap) (locs : List Loc) (ls : Array Slot), (-x417.toInt + 4 : Int) < n416 → 0 ≤ x417.toInt → x417.toInt ≤ 4 → (∀ i : Nat, (i < 31 ∨ 33 < i) ∧ (i < 36 ∨ 37 < i) → σ418 i = σ387 i) → (∀ k : Nat, (k < 8 ∨ 8 < k) → σ418 31 k = σ387 31 k) → jKb σ418 → jKh σ418 → jI31 σ418 → ((jFm a1 → jqGo a1 (decide ((σ418 31 12).toInt ≠ 0)) (σ418 31 11).toInt (σ418 31 8).toInt (σ418 32) (σ418 33) x383.toInt x417.toInt) ∧ jqNo (σ418 32 x383.toInt.toNat) x410 x412.toInt ∧ x383.toInt < (σ418 31 8).toInt) → jH D cI cL ad σ418 τ H → va_S (jA ad) s.heap H locs → lv_has ls 9 [(8, .int x417), (7, .int x412), (6, .int x410), (5, .int x383), (4, .int 1), (3, .int x16), (0, .ref (ad 31)), (1, .int a1), (2, .int a2)] → W p l e ({ frames := 3, cells := 0, slots := 0, locals := 73 }) s m args below meth c H locs 0 0 Q (F0 m 143 ls []) := by
                  intro n416
                  induction n416 with
                  | zero => intro x417 σ418 H locs ls h420 h421 h422; exact absurd h420 (by omega)
                  | succ n416 ihlp415 =>
                    intro x417 σ418 H locs ls h420 h421 h422 f423 f424 p425 p426 p427 q428 hP hS hl
                    obtain ⟨i429, i430, i431, i432, w433, w434, w435⟩ : (0 ≤ (σ418 31 8).toInt ∧ (σ418 31 8).toInt ≤ 350) ∧ (0 ≤ (σ418 31 10).toInt ∧ (σ418 31 10).toInt ≤ 12) ∧ (0 ≤ (σ418 31 11).toInt ∧ (σ418 31 11).toInt ≤ 8) ∧ ((σ418 31 10).toInt + (σ418 31 11).toInt ≤ 12) ∧ (∀ k : Nat, k < 1400 → (-1) ≤ (σ418 33 k).toInt ∧ (σ418 33 k).toInt ≤ 350) ∧ (∀ k : Nat, k < 3159 → (-1) ≤ (σ418 35 k).toInt ∧ (σ418 35 k).toInt ≤ 3) ∧ (∀ k : Nat, k < 1024 → 0 ≤ (σ418 36 k).toInt ∧ (σ418 36 k).toInt ≤ 349) := id p427
                    have z436 : (σ418 31 10).toInt = A2 := ((congrArg Int32.toInt (show σ418 31 10 = a2 from ((f424 10 (by decide)).trans ((f393 10 (by decide)).trans ((f363 10 (by decide)).trans ((jkp 10 eσ350 (by decide)).trans ((jkp 10 eσ349 (by decide)).trans ((jkp 10 eσ348 (by decide)).trans (jsp eσ347))))))))).trans t2)
                    have z437 : (σ418 31 11).toInt = x16.toInt := (congrArg Int32.toInt (show σ418 31 11 = x16 from ((f424 11 (by decide)).trans ((f393 11 (by decide)).trans ((f363 11 (by decide)).trans ((jkp 11 eσ350 (by decide)).trans ((jkp 11 eσ349 (by decide)).trans (jsp eσ348))))))))
                    refine lv_iload hx hb dX1_grow_143 (lv_at hl 0 rfl) ?_
                    refine lv_iconst (v := 4) hx hb dX1_grow_145 (by decide) ?_
                    refine lv_icmp_ge (tgt := 196) hx hb dX1_grow_146 (by decide) (fun c438 => ?_) (fun c438 => ?_)
                    · have kc438 := jle c438 jz_4 rfl
                      obtain ⟨x439, ex439⟩ : ∃ y : Int32, y = x383 + 1 := ⟨_, rfl⟩
                      have tx439 : x439.toInt = x383.toInt + 1 := (jadd ex439 rfl jz_1 (by omega) (by omega)).trans (by omega)
                      refine lv_iinc (v := x439) (lv' := [(5, .int x439), (8, .int x417), (7, .int x412), (6, .int x410), (4, .int 1), (3, .int x16), (0, .ref (ad 31)), (1, .int a1), (2, .int a2)]) hx hb dX1_grow_196 hl (k := 3) rfl (by rw [ex439]; rfl) (by decide) rfl (fun ls hl => ?_)
                      refine lv_goto (tgt := 99) hx hb dX1_grow_199 (by decide) ?_
                      exact ihlp381 x439 σ418 _ _ ls (by have h90 := tx439; omega) (by have h90 := tx439; omega) (by have h90 := tx439; omega) (fun i hi => ((f423 i hi).trans (f392 i hi))) (fun i hi => ((f424 i hi).trans (f393 i hi)))  p425 p426 p427 (fun hm => jqGo.row (q428.1 hm) (by omega) (by have h9 := tx439; omega) (by omega) q428.2.2) hP hS (lv_sub hl [0, 4, 5, 6, 7, 8] rfl)
                    · have kc438 := jnle c438 jz_4 rfl
                      refine lv_aload_n hx hb dX1_grow_149 rfl (lv_at hl 6 rfl) ?_
                      refine va_get (D := D) hx hb hts inlX1 hown hK hP 31 (jc_31 cI cL ad σ418 τ) rfl 3 (by decide) (hts _ kw_5_4) (fun _ h9 => h9) rfl dX1_grow_150 ?_
                      refine lv_iload hx hb dX1_grow_153 (lv_at hl 3 rfl) ?_
                      refine lv_iconst (v := 4) hx hb dX1_grow_155 (by decide) ?_
                      have g440 := jrg (rfl : x383.toInt = x383.toInt)
                      refine lv_imul hx hb dX1_grow_156 ?_
                      refine lv_topi (fun x441 ex441 => ?_)
                      have tx441 : x441.toInt = 4 * x383.toInt := (jmul ex441 rfl jz_4 (by omega) (by omega)).trans (by omega)
                      refine lv_iload hx hb dX1_grow_157 (lv_at hl 0 rfl) ?_
                      have g442 := jrg (rfl : x417.toInt = x417.toInt)
                      refine lv_iadd hx hb dX1_grow_159 ?_
                      refine lv_topi (fun x443 ex443 => ?_)
                      have tx443 : x443.toInt = 4 * x383.toInt + x417.toInt := (jadd ex443 tx441 rfl (by omega) (by omega)).trans (by omega)
                      refine lv_iload hx hb dX1_grow_160 (lv_at hl 2 rfl) ?_
                      refine lv_iload hx hb dX1_grow_162 (lv_at hl 0 rfl) ?_
                      refine jcallS (As := [.int x410, .int x417]) (rest := [.int x443, .ref (ad 33)]) ⟨hx, hb, hml, hown, hts⟩ hK hP hA hS hZ (c_X0_mayBowl l D cI cL ad zz hJ σ418 τ x410 (x410.toInt) rfl x417 (x417.toInt) rfl) cw_RX1_115 ⟨Nat.le_of_ble_eq_true rfl, Nat.le_of_ble_eq_true rfl⟩ rfl rfl rfl hl.1 rfl (Nat.le_of_ble_eq_true rfl) dX1_grow_164 ⟨Nat.zero_le _, Nat.zero_le _⟩ (fun r445 σ444 τ444 H locs h444 hP hS => ?_)
                      obtain ⟨⟨rfl, rfl⟩, w446, h444⟩ := h444
                      rcases h444 with h447 | h448
                      · obtain ⟨q450, k449⟩ := h447
                        have q450 := q450.symm
                        subst q450
                        refine lv_if_eq (tgt := 188) hx hb dX1_grow_167 (by decide) (fun c => absurd c (by decide)) (fun _ => ?_)
                        refine lv_aload_n hx hb dX1_grow_170 rfl (lv_at hl 6 rfl) ?_
                        refine lv_iload hx hb dX1_grow_171 (lv_at hl 2 rfl) ?_
                        refine lv_iload hx hb dX1_grow_173 (lv_at hl 0 rfl) ?_
                        refine jcallS (As := [.int x410, .int x417]) (rest := [.ref (ad 31), .int x443, .ref (ad 33)]) ⟨hx, hb, hml, hown, hts⟩ hK hP hA hS hZ (c_X0_after_r l D cI cL ad zz hJ σ418 τ x410 (x410.toInt) rfl x417 (x417.toInt) rfl (by omega)) cw_RX1_119 ⟨Nat.le_of_ble_eq_true rfl, Nat.le_of_ble_eq_true rfl⟩ rfl rfl rfl hl.1 rfl (Nat.le_of_ble_eq_true rfl) dX1_grow_175 ⟨Nat.zero_le _, Nat.zero_le _⟩ (fun r452 σ451 τ451 H locs h451 hP hS => ?_)
                        obtain ⟨⟨rfl, rfl⟩, w453, w454, h451⟩ := h451
                        have h455 := h451
                        obtain ⟨q457, k456⟩ := h455
                        refine lv_iload hx hb dX1_grow_178 (lv_at hl 1 rfl) ?_
                        refine lv_iconst (v := 1) hx hb dX1_grow_180 (by decide) ?_
                        have g458 := jrg (rfl : x412.toInt = x412.toInt)
                        refine lv_iadd hx hb dX1_grow_181 ?_
                        refine lv_topi (fun x459 ex459 => ?_)
                        have tx459 : x459.toInt = x412.toInt + 1 := (jadd ex459 rfl jz_1 (by omega) (by omega)).trans (by omega)
                        refine jcallV (As := [.int r452, .int x459]) (rest := [.int x443, .ref (ad 33)]) ⟨hx, hb, hml, hown, hts⟩ hK hP hA hS hZ (c_X1_add_31 l D cI cL ad zz hJ σ418 τ r452 (r452.toInt) rfl x459 (x412.toInt + 1) tx459 p427 p425 p426 (by omega) (by omega)) cw_RX1_111 (jc_31 cI cL ad σ418 τ) rfl ⟨Nat.le_of_ble_eq_true rfl, Nat.le_of_ble_eq_true rfl⟩ rfl rfl rfl hl.1 rfl (Nat.le_of_ble_eq_true rfl) dX1_grow_182 ⟨Nat.zero_le _, Nat.zero_le _⟩ (fun r461 σ460 τ460 H locs h460 hP hS => ?_)
                        obtain ⟨rfl, f462, f463, I464, p465, p466, w467, h460⟩ := h460
                        obtain ⟨i469, i470, i471, i472, w473, w474, w475⟩ : (0 ≤ (σ460 31 8).toInt ∧ (σ460 31 8).toInt ≤ 350) ∧ (0 ≤ (σ460 31 10).toInt ∧ (σ460 31 10).toInt ≤ 12) ∧ (0 ≤ (σ460 31 11).toInt ∧ (σ460 31 11).toInt ≤ 8) ∧ ((σ460 31 10).toInt + (σ460 31 11).toInt ≤ 12) ∧ (∀ k : Nat, k < 1400 → (-1) ≤ (σ460 33 k).toInt ∧ (σ460 33 k).toInt ≤ 350) ∧ (∀ k : Nat, k < 3159 → (-1) ≤ (σ460 35 k).toInt ∧ (σ460 35 k).toInt ≤ 3) ∧ (∀ k : Nat, k < 1024 → 0 ≤ (σ460 36 k).toInt ∧ (σ460 36 k).toInt ≤ 349) := id I464
                        have z476 : (σ460 31 10).toInt = A2 := ((congrArg Int32.toInt (show σ460 31 10 = a2 from ((f463 10 (by decide)).trans ((f424 10 (by decide)).trans ((f393 10 (by decide)).trans ((f363 10 (by decide)).trans ((jkp 10 eσ350 (by decide)).trans ((jkp 10 eσ349 (by decide)).trans ((jkp 10 eσ348 (by decide)).trans (jsp eσ347)))))))))).trans t2)
                        have z477 : (σ460 31 11).toInt = x16.toInt := (congrArg Int32.toInt (show σ460 31 11 = x16 from ((f463 11 (by decide)).trans ((f424 11 (by decide)).trans ((f393 11 (by decide)).trans ((f363 11 (by decide)).trans ((jkp 11 eσ350 (by decide)).trans ((jkp 11 eσ349 (by decide)).trans (jsp eσ348)))))))))
                        have h478 := h460
                        obtain ⟨q480, k479⟩ := h478
                        refine lv_goto (tgt := 189) hx hb dX1_grow_185 (by decide) ?_
                        refine jast hx hb hK hP hJ hA hS (jc_33 cI cL ad σ460 τ) (ja_33 cI cL ad σ460 τ _ _) (jin tx443 (by omega) (by omega)) dX1_grow_189 (fun σ481 H locs eσ481 hP hS => ?_)
                        obtain ⟨x482, ex482⟩ : ∃ y : Int32, y = x417 + 1 := ⟨_, rfl⟩
                        have tx482 : x482.toInt = x417.toInt + 1 := (jadd ex482 rfl jz_1 (by omega) (by omega)).trans (by omega)
                        refine lv_iinc (v := x482) (lv' := [(8, .int x482), (7, .int x412), (6, .int x410), (5, .int x383), (4, .int 1), (3, .int x16), (0, .ref (ad 31)), (1, .int a1), (2, .int a2)]) hx hb dX1_grow_190 hl (k := 0) rfl (by rw [ex482]; rfl) (by decide) rfl (fun ls hl => ?_)
                        refine lv_goto (tgt := 143) hx hb dX1_grow_193 (by decide) ?_
                        have p483 : jKb σ481 := jKb.fr (congrFun (jnp 31 eσ481 (by decide)) 8) (congrFun (jnp 31 eσ481 (by decide)) 11) (jnp 32 eσ481 (by decide)) p465
                        have p484 : jKh σ481 := jKh.fr (congrFun (jnp 31 eσ481 (by decide)) 8) (jnp 32 eσ481 (by decide)) (jnp 36 eσ481 (by decide)) (jnp 37 eσ481 (by decide)) p466
                        have z485 : (σ481 31 8).toInt = (σ460 31 8).toInt := (congrArg Int32.toInt (show σ481 31 8 = (σ460 31 8) from (congrFun (jnp 31 eσ481 (by decide)) 8)))
                        have z486 : (σ481 31 10).toInt = A2 := ((congrArg Int32.toInt (show σ481 31 10 = a2 from ((congrFun (jnp 31 eσ481 (by decide)) 10).trans ((f463 10 (by decide)).trans ((f424 10 (by decide)).trans ((f393 10 (by decide)).trans ((f363 10 (by decide)).trans ((jkp 10 eσ350 (by decide)).trans ((jkp 10 eσ349 (by decide)).trans ((jkp 10 eσ348 (by decide)).trans (jsp eσ347))))))))))).trans t2)
                        have z487 : (σ481 31 11).toInt = x16.toInt := (congrArg Int32.toInt (show σ481 31 11 = x16 from ((congrFun (jnp 31 eσ481 (by decide)) 11).trans ((f463 11 (by decide)).trans ((f424 11 (by decide)).trans ((f393 11 (by decide)).trans ((f363 11 (by decide)).trans ((jkp 11 eσ350 (by decide)).trans ((jkp 11 eσ349 (by decide)).trans (jsp eσ348))))))))))
                        have w488 : ∀ k : Nat, k < 1400 → (-1) ≤ (σ481 33 k).toInt ∧ (σ481 33 k).toInt ≤ 350 := (by rw [eσ481]; exact jrr_up w473 (by omega) (by omega))
                        have w489 : ∀ k : Nat, k < 3159 → (-1) ≤ (σ481 35 k).toInt ∧ (σ481 35 k).toInt ≤ 3 := (jrr_fr (jnp 35 eσ481 (by decide)) w474)
                        have w490 : ∀ k : Nat, k < 1024 → 0 ≤ (σ481 36 k).toInt ∧ (σ481 36 k).toInt ≤ 349 := (jrr_fr (jnp 36 eσ481 (by decide)) w475)
                        have I491 : jI31 σ481 := ⟨(by omega), (by omega), (by omega), (by omega), w488, w489, w490⟩
                        exact ihlp415 x482 σ481 _ _ ls (by have h90 := tx482; omega) (by have h90 := tx482; omega) (by have h90 := tx482; omega) (fun i hi => ((jnp i eσ481 (imp_94 i hi)).trans ((f462 i (imp_86 i hi)).trans (f423 i hi)))) (fun i hi => ((congrFun (jnp 31 eσ481 (by decide)) i).trans ((f463 i hi).trans (f424 i hi))))  p483 p484 I491 (by rw [show σ481 31 8 = σ460 31 8 from (congrFun (jnp 31 eσ481 (by decide)) 8), show σ481 32 = σ460 32 from (jnp 32 eσ481 (by decide)), show σ481 31 11 = σ418 31 11 from ((congrFun (jnp 31 eσ481 (by decide)) 11).trans (f463 11 (by decide))), show σ481 31 12 = σ418 31 12 from ((congrFun (jnp 31 eσ481 (by decide)) 12).trans (f463 12 (by decide)))]; exact ⟨(fun hm => jqGo.put (q428.1 hm) (by omega) (by omega) (by omega) (by omega) q428.2.1 ((jqMy_iff (by omega) (by omega)).mpr ((w446).elim (fun w => w.2) (fun w => absurd w.1 (by decide)))) (w454 (by omega) (by omega)) w467 (by omega) p426 (by omega) (by rw [eσ481, jup_row, f462 33 (by decide), jnc (show x443.toInt = 4 * x383.toInt + x417.toInt by have h9 := tx443; omega)]) rfl (by have h9 := tx482; omega)), (by rw [(w467).1 x383.toInt.toNat (by omega)]; exact q428.2.1), (by have w8 := jqAd.le w467; have w9 := q428.2.2; omega)⟩) hP hS (lv_sub hl [0, 1, 2, 3, 4, 5, 6, 7, 8] rfl)
                      · obtain ⟨q493, k492⟩ := h448
                        have q493 := q493.symm
                        subst q493
                        refine lv_if_eq (tgt := 188) hx hb dX1_grow_167 (by decide) (fun _ => ?_) (fun c => absurd (by decide) c)
                        refine lv_iconst (v := (-1)) hx hb dX1_grow_188 (by decide) ?_
                        refine jast hx hb hK hP hJ hA hS (jc_33 cI cL ad σ418 τ) (ja_33 cI cL ad σ418 τ _ _) (jin tx443 (by omega) (by omega)) dX1_grow_189 (fun σ494 H locs eσ494 hP hS => ?_)
                        obtain ⟨x495, ex495⟩ : ∃ y : Int32, y = x417 + 1 := ⟨_, rfl⟩
                        have tx495 : x495.toInt = x417.toInt + 1 := (jadd ex495 rfl jz_1 (by omega) (by omega)).trans (by omega)
                        refine lv_iinc (v := x495) (lv' := [(8, .int x495), (7, .int x412), (6, .int x410), (5, .int x383), (4, .int 1), (3, .int x16), (0, .ref (ad 31)), (1, .int a1), (2, .int a2)]) hx hb dX1_grow_190 hl (k := 0) rfl (by rw [ex495]; rfl) (by decide) rfl (fun ls hl => ?_)
                        refine lv_goto (tgt := 143) hx hb dX1_grow_193 (by decide) ?_
                        have p496 : jKb σ494 := jKb.fr (congrFun (jnp 31 eσ494 (by decide)) 8) (congrFun (jnp 31 eσ494 (by decide)) 11) (jnp 32 eσ494 (by decide)) p425
                        have p497 : jKh σ494 := jKh.fr (congrFun (jnp 31 eσ494 (by decide)) 8) (jnp 32 eσ494 (by decide)) (jnp 36 eσ494 (by decide)) (jnp 37 eσ494 (by decide)) p426
                        have z498 : (σ494 31 8).toInt = (σ418 31 8).toInt := (congrArg Int32.toInt (show σ494 31 8 = (σ418 31 8) from (congrFun (jnp 31 eσ494 (by decide)) 8)))
                        have z499 : (σ494 31 10).toInt = A2 := ((congrArg Int32.toInt (show σ494 31 10 = a2 from ((congrFun (jnp 31 eσ494 (by decide)) 10).trans ((f424 10 (by decide)).trans ((f393 10 (by decide)).trans ((f363 10 (by decide)).trans ((jkp 10 eσ350 (by decide)).trans ((jkp 10 eσ349 (by decide)).trans ((jkp 10 eσ348 (by decide)).trans (jsp eσ347)))))))))).trans t2)
                        have z500 : (σ494 31 11).toInt = x16.toInt := (congrArg Int32.toInt (show σ494 31 11 = x16 from ((congrFun (jnp 31 eσ494 (by decide)) 11).trans ((f424 11 (by decide)).trans ((f393 11 (by decide)).trans ((f363 11 (by decide)).trans ((jkp 11 eσ350 (by decide)).trans ((jkp 11 eσ349 (by decide)).trans (jsp eσ348)))))))))
                        have w501 : ∀ k : Nat, k < 1400 → (-1) ≤ (σ494 33 k).toInt ∧ (σ494 33 k).toInt ≤ 350 := (by rw [eσ494]; exact jrr_up w433 (by have h9 := jz_m1; omega) (by have h9 := jz_m1; omega))
                        have w502 : ∀ k : Nat, k < 3159 → (-1) ≤ (σ494 35 k).toInt ∧ (σ494 35 k).toInt ≤ 3 := (jrr_fr (jnp 35 eσ494 (by decide)) w434)
                        have w503 : ∀ k : Nat, k < 1024 → 0 ≤ (σ494 36 k).toInt ∧ (σ494 36 k).toInt ≤ 349 := (jrr_fr (jnp 36 eσ494 (by decide)) w435)
                        have I504 : jI31 σ494 := ⟨(by omega), (by omega), (by omega), (by omega), w501, w502, w503⟩
                        exact ihlp415 x495 σ494 _ _ ls (by have h90 := tx495; omega) (by have h90 := tx495; omega) (by have h90 := tx495; omega) (fun i hi => ((jnp i eσ494 (imp_94 i hi)).trans (f423 i hi))) (fun i hi => ((congrFun (jnp 31 eσ494 (by decide)) i).trans (f424 i hi)))  p496 p497 I504 (by rw [show σ494 31 8 = σ418 31 8 from (congrFun (jnp 31 eσ494 (by decide)) 8), show σ494 31 11 = σ418 31 11 from (congrFun (jnp 31 eσ494 (by decide)) 11), show σ494 31 12 = σ418 31 12 from (congrFun (jnp 31 eσ494 (by decide)) 12), show σ494 32 = σ418 32 from (jnp 32 eσ494 (by decide))]; exact ⟨(fun hm => jqGo.none (q428.1 hm) (by omega) (by omega) (by omega) (by omega) q428.2.1 (fun w => ((w446).elim (fun w => absurd w.1 (by decide)) (fun w => w.2)) ((jqMy_iff (by omega) (by omega)).mp w)) (by rw [eσ494, jup_row, jnc (show x443.toInt = 4 * x383.toInt + x417.toInt by have h9 := tx443; omega)]) (by decide) (by have h9 := tx495; omega)), q428.2.1, q428.2.2⟩) hP hS (lv_sub hl [0, 1, 2, 3, 4, 5, 6, 7, 8] rfl)
                exact lp415 1000000 0 σ387 _ _ ls (by have h90 := jz_0; omega) (by have h90 := jz_0; omega) (by have h90 := jz_0; omega) (fun _ _ => rfl) (fun _ _ => rfl)  p394 p395 p396 ⟨(by rw [show (0 : Int32).toInt = 0 from by decide]; exact q397), ⟨(by have w := jandm (x := (σ387 32 x383.toNatClampNeg)) (y := x410) (m := 134217727) (k := 27) (M := 134217728) (by rw [ex410]) rfl rfl (by decide); show (σ387 32 x383.toNatClampNeg).toInt = _; omega), ⟨by omega, by omega⟩, (by omega)⟩, by omega⟩ hP hS hl
          exact lp381 1000000 0 σ360 _ _ ls (by have h90 := jz_0; omega) (by have h90 := jz_0; omega) (by have h90 := jz_0; omega) (fun _ _ => rfl) (fun _ _ => rfl)  p365 p366 I364 (by rw [show σ360 31 11 = σ350 31 11 from (f363 11 (by decide)), show σ360 31 12 = σ350 31 12 from (f363 12 (by decide))]; exact (fun hm => jqGo.first hm (by have w := w367; rw [show (σ350 31 8).toInt = 0 from by omega] at w; exact w) rfl (by have h9 := jz_0; omega))) hP hS hl
        · have kc345 := jeq c345 rfl jz_1
          refine lv_aload_n hx hb dX1_grow_57 rfl (lv_at hl 2 rfl) ?_
          refine lv_iload_n hx hb dX1_grow_58 rfl (lv_at hl 4 rfl) ?_
          refine jput (ty := .int) hx hb hts inlX1 tyX1 tyX1_ok nmX1 hown hK hP hJ hA hS (jc_31 cI cL ad σ τ) rfl (k := 10) (by decide) (Nat.le_of_ble_eq_true rfl) (jp_31_10 cI cL ad σ τ a2) (hts _ kw_28_9) (fun _ h9 => h9) rfl (by decide +kernel) rfl rfl dX1_grow_59 (fun σ505 H locs eσ505 hP hS => ?_)
          have z506 : (σ505 31 8).toInt = (σ 31 8).toInt := (congrArg Int32.toInt (show σ505 31 8 = (σ 31 8) from (jkp 8 eσ505 (by decide))))
          have z507 : (σ505 31 10).toInt = A2 := ((congrArg Int32.toInt (show σ505 31 10 = a2 from (jsp eσ505))).trans t2)
          have z508 : (σ505 31 11).toInt = (σ 31 11).toInt := (congrArg Int32.toInt (show σ505 31 11 = (σ 31 11) from (jkp 11 eσ505 (by decide))))
          have w509 : ∀ k : Nat, k < 1400 → (-1) ≤ (σ505 33 k).toInt ∧ (σ505 33 k).toInt ≤ 350 := (jrr_fr (jnp 33 eσ505 (by decide)) w9)
          have w510 : ∀ k : Nat, k < 3159 → (-1) ≤ (σ505 35 k).toInt ∧ (σ505 35 k).toInt ≤ 3 := (jrr_fr (jnp 35 eσ505 (by decide)) w10)
          have w511 : ∀ k : Nat, k < 1024 → 0 ≤ (σ505 36 k).toInt ∧ (σ505 36 k).toInt ≤ 349 := (jrr_fr (jnp 36 eσ505 (by decide)) w11)
          have I512 : jI31 σ505 := ⟨(by omega), (by omega), (by omega), (by omega), w509, w510, w511⟩
          have p513 : jKb σ505 := jKb.fr (jkp 8 eσ505 (by decide)) (jkp 11 eσ505 (by decide)) (jnp 32 eσ505 (by decide)) hs_jKb
          have p514 : jKh σ505 := jKh.fr (jkp 8 eσ505 (by decide)) (jnp 32 eσ505 (by decide)) (jnp 36 eσ505 (by decide)) (jnp 37 eσ505 (by decide)) hs_jKh
          have p515 : jKg σ505 := jKg.fr (jkp 8 eσ505 (by decide)) (jkp 9 eσ505 (by decide)) (jkp 11 eσ505 (by decide)) (jkp 12 eσ505 (by decide)) (jnp 32 eσ505 (by decide)) (jnp 33 eσ505 (by decide)) hs_jKg
          exact hret σ505 τ _ _ _ _ ⟨rfl, (fun i hi => (jnp i eσ505 (imp_87 i hi))), (fun i hi => (jkp i eσ505 (imp_92 i hi))), I512, p513, p514, p515, trivial⟩ hP hS dX1_grow_62
  · obtain ⟨q517, k516⟩ := h22
    have q517 := q517.symm
    subst q517
    refine lv_istore (lv' := [(4, .int 0), (3, .int x16), (0, .ref (ad 31)), (1, .int a1), (2, .int a2)]) hx hb dX1_grow_30 hl (by decide) rfl (fun ls hl => ?_)
    refine lv_aload_n hx hb dX1_grow_32 rfl (lv_at hl 2 rfl) ?_
    refine va_get (D := D) hx hb hts inlX1 hown hK hP 31 (jc_31 cI cL ad σ τ) rfl 9 (by decide) (hts _ kw_5_9) (fun _ h9 => h9) rfl dX1_grow_33 ?_
    refine lv_iload_n hx hb dX1_grow_36 rfl (lv_at hl 3 rfl) ?_
    refine lv_icmp_ne (tgt := 63) hx hb dX1_grow_37 (by decide) (fun c518 => ?_) (fun c518 => ?_)
    · have kc518 := jne c518 rfl t1
      refine lv_aload_n hx hb dX1_grow_63 rfl (lv_at hl 2 rfl) ?_
      refine lv_iload_n hx hb dX1_grow_64 rfl (lv_at hl 3 rfl) ?_
      refine jput (ty := .int) hx hb hts inlX1 tyX1 tyX1_ok nmX1 hown hK hP hJ hA hS (jc_31 cI cL ad σ τ) rfl (k := 9) (by decide) (Nat.le_of_ble_eq_true rfl) (jp_31_9 cI cL ad σ τ a1) (hts _ kw_5_9) (fun _ h9 => h9) rfl (by decide +kernel) rfl rfl dX1_grow_65 (fun σ519 H locs eσ519 hP hS => ?_)
      refine lv_aload_n hx hb dX1_grow_68 rfl (lv_at hl 2 rfl) ?_
      refine lv_iload_n hx hb dX1_grow_69 rfl (lv_at hl 4 rfl) ?_
      refine jput (ty := .int) hx hb hts inlX1 tyX1 tyX1_ok nmX1 hown hK hP hJ hA hS (jc_31 cI cL ad σ519 τ) rfl (k := 10) (by decide) (Nat.le_of_ble_eq_true rfl) (jp_31_10 cI cL ad σ519 τ a2) (hts _ kw_28_9) (fun _ h9 => h9) rfl (by decide +kernel) rfl rfl dX1_grow_70 (fun σ520 H locs eσ520 hP hS => ?_)
      refine lv_aload_n hx hb dX1_grow_73 rfl (lv_at hl 2 rfl) ?_
      refine lv_iload_n hx hb dX1_grow_74 rfl (lv_at hl 1 rfl) ?_
      refine jput (ty := .int) hx hb hts inlX1 tyX1 tyX1_ok nmX1 hown hK hP hJ hA hS (jc_31 cI cL ad σ520 τ) rfl (k := 11) (by decide) (Nat.le_of_ble_eq_true rfl) (jp_31_11 cI cL ad σ520 τ x16) (hts _ kw_28_7) (fun _ h9 => h9) rfl (by decide +kernel) rfl rfl dX1_grow_75 (fun σ521 H locs eσ521 hP hS => ?_)
      refine lv_aload_n hx hb dX1_grow_78 rfl (lv_at hl 2 rfl) ?_
      refine lv_iload hx hb dX1_grow_79 (lv_at hl 0 rfl) ?_
      refine jput (ty := .boolean) hx hb hts inlX1 tyX1 tyX1_ok nmX1 hown hK hP hJ hA hS (jc_31 cI cL ad σ521 τ) rfl (k := 12) (by decide) (Nat.le_of_ble_eq_true rfl) (jp_31_12 cI cL ad σ521 τ 0) (hts _ kw_28_8) (fun _ h9 => h9) rfl (by decide +kernel) rfl rfl dX1_grow_81 (fun σ522 H locs eσ522 hP hS => ?_)
      refine lv_aload_n hx hb dX1_grow_84 rfl (lv_at hl 2 rfl) ?_
      refine lv_iconst (v := 0) hx hb dX1_grow_85 (by decide) ?_
      refine jput (ty := .int) hx hb hts inlX1 tyX1 tyX1_ok nmX1 hown hK hP hJ hA hS (jc_31 cI cL ad σ522 τ) rfl (k := 8) (by decide) (Nat.le_of_ble_eq_true rfl) (jp_31_8 cI cL ad σ522 τ 0) (hts _ kw_27_22) (fun _ h9 => h9) rfl (by decide +kernel) rfl rfl dX1_grow_86 (fun σ523 H locs eσ523 hP hS => ?_)
      have z524 : (σ523 31 8).toInt = 0 := ((congrArg Int32.toInt (show σ523 31 8 = 0 from (jsp eσ523))).trans jz_0)
      have p525 : jKb σ523 := (jKb.nil (by omega))
      have p526 : jKh σ523 := (jKh.nil (by omega))
      refine lv_aload_n hx hb dX1_grow_89 rfl (lv_at hl 2 rfl) ?_
      refine lv_iload_n hx hb dX1_grow_90 rfl (lv_at hl 3 rfl) ?_
      refine lv_iconst (v := 0) hx hb dX1_grow_91 (by decide) ?_
      have z527 : (σ523 31 10).toInt = A2 := ((congrArg Int32.toInt (show σ523 31 10 = a2 from ((jkp 10 eσ523 (by decide)).trans ((jkp 10 eσ522 (by decide)).trans ((jkp 10 eσ521 (by decide)).trans (jsp eσ520)))))).trans t2)
      have z528 : (σ523 31 11).toInt = x16.toInt := (congrArg Int32.toInt (show σ523 31 11 = x16 from ((jkp 11 eσ523 (by decide)).trans ((jkp 11 eσ522 (by decide)).trans (jsp eσ521)))))
      have w529 : ∀ k : Nat, k < 1400 → (-1) ≤ (σ523 33 k).toInt ∧ (σ523 33 k).toInt ≤ 350 := (jrr_fr (jnp 33 eσ523 (by decide)) (jrr_fr (jnp 33 eσ522 (by decide)) (jrr_fr (jnp 33 eσ521 (by decide)) (jrr_fr (jnp 33 eσ520 (by decide)) (jrr_fr (jnp 33 eσ519 (by decide)) w9)))))
      have w530 : ∀ k : Nat, k < 3159 → (-1) ≤ (σ523 35 k).toInt ∧ (σ523 35 k).toInt ≤ 3 := (jrr_fr (jnp 35 eσ523 (by decide)) (jrr_fr (jnp 35 eσ522 (by decide)) (jrr_fr (jnp 35 eσ521 (by decide)) (jrr_fr (jnp 35 eσ520 (by decide)) (jrr_fr (jnp 35 eσ519 (by decide)) w10)))))
      have w531 : ∀ k : Nat, k < 1024 → 0 ≤ (σ523 36 k).toInt ∧ (σ523 36 k).toInt ≤ 349 := (jrr_fr (jnp 36 eσ523 (by decide)) (jrr_fr (jnp 36 eσ522 (by decide)) (jrr_fr (jnp 36 eσ521 (by decide)) (jrr_fr (jnp 36 eσ520 (by decide)) (jrr_fr (jnp 36 eσ519 (by decide)) w11)))))
      have I532 : jI31 σ523 := ⟨(by omega), (by omega), (by omega), (by omega), w529, w530, w531⟩
      refine jcallV (As := [.int a1, .int 0]) (rest := []) ⟨hx, hb, hml, hown, hts⟩ hK hP hA hS hZ (c_X1_add_31 l D cI cL ad zz hJ σ523 τ a1 (A1) t1 0 (0) jz_0 I532 p525 p526 (by omega) (by omega)) cw_RX1_111 (jc_31 cI cL ad σ523 τ) rfl ⟨Nat.le_of_ble_eq_true rfl, Nat.le_of_ble_eq_true rfl⟩ rfl rfl rfl hl.1 rfl (Nat.le_of_ble_eq_true rfl) dX1_grow_92 ⟨Nat.zero_le _, Nat.zero_le _⟩ (fun r534 σ533 τ533 H locs h533 hP hS => ?_)
      obtain ⟨rfl, f535, f536, I537, p538, p539, w540, h533⟩ := h533
      obtain ⟨i542, i543, i544, i545, w546, w547, w548⟩ : (0 ≤ (σ533 31 8).toInt ∧ (σ533 31 8).toInt ≤ 350) ∧ (0 ≤ (σ533 31 10).toInt ∧ (σ533 31 10).toInt ≤ 12) ∧ (0 ≤ (σ533 31 11).toInt ∧ (σ533 31 11).toInt ≤ 8) ∧ ((σ533 31 10).toInt + (σ533 31 11).toInt ≤ 12) ∧ (∀ k : Nat, k < 1400 → (-1) ≤ (σ533 33 k).toInt ∧ (σ533 33 k).toInt ≤ 350) ∧ (∀ k : Nat, k < 3159 → (-1) ≤ (σ533 35 k).toInt ∧ (σ533 35 k).toInt ≤ 3) ∧ (∀ k : Nat, k < 1024 → 0 ≤ (σ533 36 k).toInt ∧ (σ533 36 k).toInt ≤ 349) := id I537
      have z549 : (σ533 31 10).toInt = A2 := ((congrArg Int32.toInt (show σ533 31 10 = a2 from ((f536 10 (by decide)).trans ((jkp 10 eσ523 (by decide)).trans ((jkp 10 eσ522 (by decide)).trans ((jkp 10 eσ521 (by decide)).trans (jsp eσ520))))))).trans t2)
      have z550 : (σ533 31 11).toInt = x16.toInt := (congrArg Int32.toInt (show σ533 31 11 = x16 from ((f536 11 (by decide)).trans ((jkp 11 eσ523 (by decide)).trans ((jkp 11 eσ522 (by decide)).trans (jsp eσ521))))))
      have h551 := h533
      obtain ⟨q553, k552⟩ := h551
      refine lv_pop hx hb dX1_grow_95 rfl ?_
      refine lv_iconst (v := 0) hx hb dX1_grow_96 (by decide) ?_
      refine lv_istore (lv' := [(5, .int 0), (4, .int 0), (3, .int x16), (0, .ref (ad 31)), (1, .int a1), (2, .int a2)]) hx hb dX1_grow_97 hl (by decide) rfl (fun ls hl => ?_)
      have lp554 : ∀ (n555 : Nat) (x556 : Int32) (σ560 : Nat → Nat → Int32) (H : Heap) (locs : List Loc) (ls : Array Slot), (-x556.toInt + 350 : Int) < n555 → 0 ≤ x556.toInt → x556.toInt ≤ 350 → (∀ i : Nat, (i < 31 ∨ 33 < i) ∧ (i < 36 ∨ 37 < i) → σ560 i = σ533 i) → (∀ k : Nat, (k < 8 ∨ 8 < k) → σ560 31 k = σ533 31 k) → jKb σ560 → jKh σ560 → jI31 σ560 → (jFm a1 → jqGo a1 (decide ((σ560 31 12).toInt ≠ 0)) (σ560 31 11).toInt (σ560 31 8).toInt (σ560 32) (σ560 33) x556.toInt 0) → jH D cI cL ad σ560 τ H → va_S (jA ad) s.heap H locs → lv_has ls 9 [(5, .int x556), (4, .int 0), (3, .int x16), (0, .ref (ad 31)), (1, .int a1), (2, .int a2)] → W p l e ({ frames := 3, cells := 0, slots := 0, locals := 73 }) s m args below meth c H locs 0 0 Q (F0 m 99 ls []) := by
        intro n555
        induction n555 with
        | zero => intro x556 σ560 H locs ls h562 h563 h564; exact absurd h562 (by omega)
        | succ n555 ihlp554 =>
          intro x556 σ560 H locs ls h562 h563 h564 f565 f566 p567 p568 p569 q570 hP hS hl
          obtain ⟨i571, i572, i573, i574, w575, w576, w577⟩ : (0 ≤ (σ560 31 8).toInt ∧ (σ560 31 8).toInt ≤ 350) ∧ (0 ≤ (σ560 31 10).toInt ∧ (σ560 31 10).toInt ≤ 12) ∧ (0 ≤ (σ560 31 11).toInt ∧ (σ560 31 11).toInt ≤ 8) ∧ ((σ560 31 10).toInt + (σ560 31 11).toInt ≤ 12) ∧ (∀ k : Nat, k < 1400 → (-1) ≤ (σ560 33 k).toInt ∧ (σ560 33 k).toInt ≤ 350) ∧ (∀ k : Nat, k < 3159 → (-1) ≤ (σ560 35 k).toInt ∧ (σ560 35 k).toInt ≤ 3) ∧ (∀ k : Nat, k < 1024 → 0 ≤ (σ560 36 k).toInt ∧ (σ560 36 k).toInt ≤ 349) := id p569
          have z578 : (σ560 31 10).toInt = A2 := ((congrArg Int32.toInt (show σ560 31 10 = a2 from ((f566 10 (by decide)).trans ((f536 10 (by decide)).trans ((jkp 10 eσ523 (by decide)).trans ((jkp 10 eσ522 (by decide)).trans ((jkp 10 eσ521 (by decide)).trans (jsp eσ520)))))))).trans t2)
          have z579 : (σ560 31 11).toInt = x16.toInt := (congrArg Int32.toInt (show σ560 31 11 = x16 from ((f566 11 (by decide)).trans ((f536 11 (by decide)).trans ((jkp 11 eσ523 (by decide)).trans ((jkp 11 eσ522 (by decide)).trans (jsp eσ521)))))))
          refine lv_iload hx hb dX1_grow_99 (lv_at hl 0 rfl) ?_
          refine lv_aload_n hx hb dX1_grow_101 rfl (lv_at hl 3 rfl) ?_
          refine va_get (D := D) hx hb hts inlX1 hown hK hP 31 (jc_31 cI cL ad σ560 τ) rfl 8 (by decide) (hts _ kw_27_22) (fun _ h9 => h9) rfl dX1_grow_102 ?_
          refine lv_icmp_ge (tgt := 202) hx hb dX1_grow_105 (by decide) (fun c580 => ?_) (fun c580 => ?_)
          · have kc580 := jle c580 rfl rfl
            have p581 : jKg σ560 := (show jFm (σ560 31 9) → _ from by rw [show σ560 31 9 = a1 from ((f566 9 (by decide)).trans ((f536 9 (by decide)).trans ((jkp 9 eσ523 (by decide)).trans ((jkp 9 eσ522 (by decide)).trans ((jkp 9 eσ521 (by decide)).trans ((jkp 9 eσ520 (by decide)).trans (jsp eσ519)))))))]; exact fun hm => (q570 hm).fin (by omega))
            exact hret σ560 τ _ _ _ _ ⟨rfl, (fun i hi => ((f565 i hi).trans ((f535 i (imp_86 i hi)).trans ((jnp i eσ523 (imp_87 i hi)).trans ((jnp i eσ522 (imp_87 i hi)).trans ((jnp i eσ521 (imp_87 i hi)).trans ((jnp i eσ520 (imp_87 i hi)).trans (jnp i eσ519 (imp_87 i hi))))))))), (fun i hi => ((f566 i (imp_88 i hi)).trans ((f536 i (imp_88 i hi)).trans ((jkp i eσ523 (imp_89 i hi)).trans ((jkp i eσ522 (imp_90 i hi)).trans ((jkp i eσ521 (imp_91 i hi)).trans ((jkp i eσ520 (imp_92 i hi)).trans (jkp i eσ519 (imp_93 i hi))))))))), p569, p567, p568, p581, trivial⟩ hP hS dX1_grow_202
          · have kc580 := jnle c580 rfl rfl
            refine lv_iload hx hb dX1_grow_108 (lv_at hl 0 rfl) ?_
            refine lv_sipush (v := 350) hx hb dX1_grow_110 (by decide) ?_
            refine lv_icmp_ge (tgt := 202) hx hb dX1_grow_113 (by decide) (fun c => absurd (jle c jz_350 rfl) (by omega)) (fun c582 => ?_)
            have kc582 := jnle c582 jz_350 rfl
            refine lv_aload_n hx hb dX1_grow_116 rfl (lv_at hl 3 rfl) ?_
            refine va_get (D := D) hx hb hts inlX1 hown hK hP 31 (jc_31 cI cL ad σ560 τ) rfl 2 (by decide) (hts _ kw_5_3) (fun _ h9 => h9) rfl dX1_grow_117 ?_
            refine lv_iload hx hb dX1_grow_120 (lv_at hl 0 rfl) ?_
            refine jald hx hb hK hP (jc_32 cI cL ad σ560 τ) (jin rfl (by omega) (by omega)) dX1_grow_122 ?_
            refine jtopr (y := (σ560 32 x556.toNatClampNeg)) rfl ?_
            refine lv_ldc (v := 134217727) hx hb hown (hts _ kw_28_10) dX1_grow_123 ?_
            refine lv_iand hx hb dX1_grow_125 ?_
            refine lv_topi (fun x583 ex583 => ?_)
            have gx583 := jrg (rfl : x583.toInt = x583.toInt)
            have g584 : 0 ≤ x583.toInt ∧ x583.toInt ≤ 134217727 := jmask ex583 27 (by decide) (by decide)
            refine lv_istore (lv' := [(6, .int x583), (5, .int x556), (4, .int 0), (3, .int x16), (0, .ref (ad 31)), (1, .int a1), (2, .int a2)]) hx hb dX1_grow_126 hl (by decide) rfl (fun ls hl => ?_)
            refine lv_aload_n hx hb dX1_grow_128 rfl (lv_at hl 4 rfl) ?_
            refine va_get (D := D) hx hb hts inlX1 hown hK hP 31 (jc_31 cI cL ad σ560 τ) rfl 2 (by decide) (hts _ kw_5_3) (fun _ h9 => h9) rfl dX1_grow_129 ?_
            refine lv_iload hx hb dX1_grow_132 (lv_at hl 1 rfl) ?_
            refine jald hx hb hK hP (jc_32 cI cL ad σ560 τ) (jin rfl (by omega) (by omega)) dX1_grow_134 ?_
            refine jtopr (y := (σ560 32 x556.toNatClampNeg)) rfl ?_
            refine lv_bipush (v := 27) hx hb dX1_grow_135 (by decide) ?_
            refine lv_ishr hx hb dX1_grow_137 ?_
            refine lv_topi (fun x585 ex585 => ?_)
            have gx585 := jrg (rfl : x585.toInt = x585.toInt)
            have k586 := jshr27 (x := x585) (k := (σ560 32 x556.toNatClampNeg)) (by rw [ex585])
            have k587 := p567 x556.toNatClampNeg (by rw [jnc (rfl : x556.toInt = x556.toInt)]; omega)
            refine lv_istore (lv' := [(7, .int x585), (6, .int x583), (5, .int x556), (4, .int 0), (3, .int x16), (0, .ref (ad 31)), (1, .int a1), (2, .int a2)]) hx hb dX1_grow_138 hl (by decide) rfl (fun ls hl => ?_)
            refine lv_iconst (v := 0) hx hb dX1_grow_140 (by decide) ?_
            refine lv_istore (lv' := [(8, .int 0), (7, .int x585), (6, .int x583), (5, .int x556), (4, .int 0), (3, .int x16), (0, .ref (ad 31)), (1, .int a1), (2, .int a2)]) hx hb dX1_grow_141 hl (by decide) rfl (fun ls hl => ?_)
            have lp588 : ∀ (n589 : Nat) (x590 : Int32) (σ591 : Nat → Nat → Int32) (H : Heap) (locs : List Loc) (ls : Array Slot), (-x590.toInt + 4 : Int) < n589 → 0 ≤ x590.toInt → x590.toInt ≤ 4 → (∀ i : Nat, (i < 31 ∨ 33 < i) ∧ (i < 36 ∨ 37 < i) → σ591 i = σ560 i) → (∀ k : Nat, (k < 8 ∨ 8 < k) → σ591 31 k = σ560 31 k) → jKb σ591 → jKh σ591 → jI31 σ591 → ((jFm a1 → jqGo a1 (decide ((σ591 31 12).toInt ≠ 0)) (σ591 31 11).toInt (σ591 31 8).toInt (σ591 32) (σ591 33) x556.toInt x590.toInt) ∧ jqNo (σ591 32 x556.toInt.toNat) x583 x585.toInt ∧ x556.toInt < (σ591 31 8).toInt) → jH D cI cL ad σ591 τ H → va_S (jA ad) s.heap H locs → lv_has ls 9 [(8, .int x590), (7, .int x585), (6, .int x583), (5, .int x556), (4, .int 0), (3, .int x16), (0, .ref (ad 31)), (1, .int a1), (2, .int a2)] → W p l e ({ frames := 3, cells := 0, slots := 0, locals := 73 }) s m args below meth c H locs 0 0 Q (F0 m 143 ls []) := by
              intro n589
              induction n589 with
              | zero => intro x590 σ591 H locs ls h593 h594 h595; exact absurd h593 (by omega)
              | succ n589 ihlp588 =>
                intro x590 σ591 H locs ls h593 h594 h595 f596 f597 p598 p599 p600 q601 hP hS hl
                obtain ⟨i602, i603, i604, i605, w606, w607, w608⟩ : (0 ≤ (σ591 31 8).toInt ∧ (σ591 31 8).toInt ≤ 350) ∧ (0 ≤ (σ591 31 10).toInt ∧ (σ591 31 10).toInt ≤ 12) ∧ (0 ≤ (σ591 31 11).toInt ∧ (σ591 31 11).toInt ≤ 8) ∧ ((σ591 31 10).toInt + (σ591 31 11).toInt ≤ 12) ∧ (∀ k : Nat, k < 1400 → (-1) ≤ (σ591 33 k).toInt ∧ (σ591 33 k).toInt ≤ 350) ∧ (∀ k : Nat, k < 3159 → (-1) ≤ (σ591 35 k).toInt ∧ (σ591 35 k).toInt ≤ 3) ∧ (∀ k : Nat, k < 1024 → 0 ≤ (σ591 36 k).toInt ∧ (σ591 36 k).toInt ≤ 349) := id p600
                have z609 : (σ591 31 10).toInt = A2 := ((congrArg Int32.toInt (show σ591 31 10 = a2 from ((f597 10 (by decide)).trans ((f566 10 (by decide)).trans ((f536 10 (by decide)).trans ((jkp 10 eσ523 (by decide)).trans ((jkp 10 eσ522 (by decide)).trans ((jkp 10 eσ521 (by decide)).trans (jsp eσ520))))))))).trans t2)
                have z610 : (σ591 31 11).toInt = x16.toInt := (congrArg Int32.toInt (show σ591 31 11 = x16 from ((f597 11 (by decide)).trans ((f566 11 (by decide)).trans ((f536 11 (by decide)).trans ((jkp 11 eσ523 (by decide)).trans ((jkp 11 eσ522 (by decide)).trans (jsp eσ521))))))))
                refine lv_iload hx hb dX1_grow_143 (lv_at hl 0 rfl) ?_
                refine lv_iconst (v := 4) hx hb dX1_grow_145 (by decide) ?_
                refine lv_icmp_ge (tgt := 196) hx hb dX1_grow_146 (by decide) (fun c611 => ?_) (fun c611 => ?_)
                · have kc611 := jle c611 jz_4 rfl
                  obtain ⟨x612, ex612⟩ : ∃ y : Int32, y = x556 + 1 := ⟨_, rfl⟩
                  have tx612 : x612.toInt = x556.toInt + 1 := (jadd ex612 rfl jz_1 (by omega) (by omega)).trans (by omega)
                  refine lv_iinc (v := x612) (lv' := [(5, .int x612), (8, .int x590), (7, .int x585), (6, .int x583), (4, .int 0), (3, .int x16), (0, .ref (ad 31)), (1, .int a1), (2, .int a2)]) hx hb dX1_grow_196 hl (k := 3) rfl (by rw [ex612]; rfl) (by decide) rfl (fun ls hl => ?_)
                  refine lv_goto (tgt := 99) hx hb dX1_grow_199 (by decide) ?_
                  exact ihlp554 x612 σ591 _ _ ls (by have h90 := tx612; omega) (by have h90 := tx612; omega) (by have h90 := tx612; omega) (fun i hi => ((f596 i hi).trans (f565 i hi))) (fun i hi => ((f597 i hi).trans (f566 i hi)))  p598 p599 p600 (fun hm => jqGo.row (q601.1 hm) (by omega) (by have h9 := tx612; omega) (by omega) q601.2.2) hP hS (lv_sub hl [0, 4, 5, 6, 7, 8] rfl)
                · have kc611 := jnle c611 jz_4 rfl
                  refine lv_aload_n hx hb dX1_grow_149 rfl (lv_at hl 6 rfl) ?_
                  refine va_get (D := D) hx hb hts inlX1 hown hK hP 31 (jc_31 cI cL ad σ591 τ) rfl 3 (by decide) (hts _ kw_5_4) (fun _ h9 => h9) rfl dX1_grow_150 ?_
                  refine lv_iload hx hb dX1_grow_153 (lv_at hl 3 rfl) ?_
                  refine lv_iconst (v := 4) hx hb dX1_grow_155 (by decide) ?_
                  have g613 := jrg (rfl : x556.toInt = x556.toInt)
                  refine lv_imul hx hb dX1_grow_156 ?_
                  refine lv_topi (fun x614 ex614 => ?_)
                  have tx614 : x614.toInt = 4 * x556.toInt := (jmul ex614 rfl jz_4 (by omega) (by omega)).trans (by omega)
                  refine lv_iload hx hb dX1_grow_157 (lv_at hl 0 rfl) ?_
                  have g615 := jrg (rfl : x590.toInt = x590.toInt)
                  refine lv_iadd hx hb dX1_grow_159 ?_
                  refine lv_topi (fun x616 ex616 => ?_)
                  have tx616 : x616.toInt = 4 * x556.toInt + x590.toInt := (jadd ex616 tx614 rfl (by omega) (by omega)).trans (by omega)
                  refine lv_iload hx hb dX1_grow_160 (lv_at hl 2 rfl) ?_
                  refine lv_iload hx hb dX1_grow_162 (lv_at hl 0 rfl) ?_
                  refine jcallS (As := [.int x583, .int x590]) (rest := [.int x616, .ref (ad 33)]) ⟨hx, hb, hml, hown, hts⟩ hK hP hA hS hZ (c_X0_mayBowl l D cI cL ad zz hJ σ591 τ x583 (x583.toInt) rfl x590 (x590.toInt) rfl) cw_RX1_115 ⟨Nat.le_of_ble_eq_true rfl, Nat.le_of_ble_eq_true rfl⟩ rfl rfl rfl hl.1 rfl (Nat.le_of_ble_eq_true rfl) dX1_grow_164 ⟨Nat.zero_le _, Nat.zero_le _⟩ (fun r618 σ617 τ617 H locs h617 hP hS => ?_)
                  obtain ⟨⟨rfl, rfl⟩, w619, h617⟩ := h617
                  rcases h617 with h620 | h621
                  · obtain ⟨q623, k622⟩ := h620
                    have q623 := q623.symm
                    subst q623
                    refine lv_if_eq (tgt := 188) hx hb dX1_grow_167 (by decide) (fun c => absurd c (by decide)) (fun _ => ?_)
                    refine lv_aload_n hx hb dX1_grow_170 rfl (lv_at hl 6 rfl) ?_
                    refine lv_iload hx hb dX1_grow_171 (lv_at hl 2 rfl) ?_
                    refine lv_iload hx hb dX1_grow_173 (lv_at hl 0 rfl) ?_
                    refine jcallS (As := [.int x583, .int x590]) (rest := [.ref (ad 31), .int x616, .ref (ad 33)]) ⟨hx, hb, hml, hown, hts⟩ hK hP hA hS hZ (c_X0_after_r l D cI cL ad zz hJ σ591 τ x583 (x583.toInt) rfl x590 (x590.toInt) rfl (by omega)) cw_RX1_119 ⟨Nat.le_of_ble_eq_true rfl, Nat.le_of_ble_eq_true rfl⟩ rfl rfl rfl hl.1 rfl (Nat.le_of_ble_eq_true rfl) dX1_grow_175 ⟨Nat.zero_le _, Nat.zero_le _⟩ (fun r625 σ624 τ624 H locs h624 hP hS => ?_)
                    obtain ⟨⟨rfl, rfl⟩, w626, w627, h624⟩ := h624
                    have h628 := h624
                    obtain ⟨q630, k629⟩ := h628
                    refine lv_iload hx hb dX1_grow_178 (lv_at hl 1 rfl) ?_
                    refine lv_iconst (v := 1) hx hb dX1_grow_180 (by decide) ?_
                    have g631 := jrg (rfl : x585.toInt = x585.toInt)
                    refine lv_iadd hx hb dX1_grow_181 ?_
                    refine lv_topi (fun x632 ex632 => ?_)
                    have tx632 : x632.toInt = x585.toInt + 1 := (jadd ex632 rfl jz_1 (by omega) (by omega)).trans (by omega)
                    refine jcallV (As := [.int r625, .int x632]) (rest := [.int x616, .ref (ad 33)]) ⟨hx, hb, hml, hown, hts⟩ hK hP hA hS hZ (c_X1_add_31 l D cI cL ad zz hJ σ591 τ r625 (r625.toInt) rfl x632 (x585.toInt + 1) tx632 p600 p598 p599 (by omega) (by omega)) cw_RX1_111 (jc_31 cI cL ad σ591 τ) rfl ⟨Nat.le_of_ble_eq_true rfl, Nat.le_of_ble_eq_true rfl⟩ rfl rfl rfl hl.1 rfl (Nat.le_of_ble_eq_true rfl) dX1_grow_182 ⟨Nat.zero_le _, Nat.zero_le _⟩ (fun r634 σ633 τ633 H locs h633 hP hS => ?_)
                    obtain ⟨rfl, f635, f636, I637, p638, p639, w640, h633⟩ := h633
                    obtain ⟨i642, i643, i644, i645, w646, w647, w648⟩ : (0 ≤ (σ633 31 8).toInt ∧ (σ633 31 8).toInt ≤ 350) ∧ (0 ≤ (σ633 31 10).toInt ∧ (σ633 31 10).toInt ≤ 12) ∧ (0 ≤ (σ633 31 11).toInt ∧ (σ633 31 11).toInt ≤ 8) ∧ ((σ633 31 10).toInt + (σ633 31 11).toInt ≤ 12) ∧ (∀ k : Nat, k < 1400 → (-1) ≤ (σ633 33 k).toInt ∧ (σ633 33 k).toInt ≤ 350) ∧ (∀ k : Nat, k < 3159 → (-1) ≤ (σ633 35 k).toInt ∧ (σ633 35 k).toInt ≤ 3) ∧ (∀ k : Nat, k < 1024 → 0 ≤ (σ633 36 k).toInt ∧ (σ633 36 k).toInt ≤ 349) := id I637
                    have z649 : (σ633 31 10).toInt = A2 := ((congrArg Int32.toInt (show σ633 31 10 = a2 from ((f636 10 (by decide)).trans ((f597 10 (by decide)).trans ((f566 10 (by decide)).trans ((f536 10 (by decide)).trans ((jkp 10 eσ523 (by decide)).trans ((jkp 10 eσ522 (by decide)).trans ((jkp 10 eσ521 (by decide)).trans (jsp eσ520)))))))))).trans t2)
                    have z650 : (σ633 31 11).toInt = x16.toInt := (congrArg Int32.toInt (show σ633 31 11 = x16 from ((f636 11 (by decide)).trans ((f597 11 (by decide)).trans ((f566 11 (by decide)).trans ((f536 11 (by decide)).trans ((jkp 11 eσ523 (by decide)).trans ((jkp 11 eσ522 (by decide)).trans (jsp eσ521)))))))))
                    have h651 := h633
                    obtain ⟨q653, k652⟩ := h651
                    refine lv_goto (tgt := 189) hx hb dX1_grow_185 (by decide) ?_
                    refine jast hx hb hK hP hJ hA hS (jc_33 cI cL ad σ633 τ) (ja_33 cI cL ad σ633 τ _ _) (jin tx616 (by omega) (by omega)) dX1_grow_189 (fun σ654 H locs eσ654 hP hS => ?_)
                    obtain ⟨x655, ex655⟩ : ∃ y : Int32, y = x590 + 1 := ⟨_, rfl⟩
                    have tx655 : x655.toInt = x590.toInt + 1 := (jadd ex655 rfl jz_1 (by omega) (by omega)).trans (by omega)
                    refine lv_iinc (v := x655) (lv' := [(8, .int x655), (7, .int x585), (6, .int x583), (5, .int x556), (4, .int 0), (3, .int x16), (0, .ref (ad 31)), (1, .int a1), (2, .int a2)]) hx hb dX1_grow_190 hl (k := 0) rfl (by rw [ex655]; rfl) (by decide) rfl (fun ls hl => ?_)
                    refine lv_goto (tgt := 143) hx hb dX1_grow_193 (by decide) ?_
                    have p656 : jKb σ654 := jKb.fr (congrFun (jnp 31 eσ654 (by decide)) 8) (congrFun (jnp 31 eσ654 (by decide)) 11) (jnp 32 eσ654 (by decide)) p638
                    have p657 : jKh σ654 := jKh.fr (congrFun (jnp 31 eσ654 (by decide)) 8) (jnp 32 eσ654 (by decide)) (jnp 36 eσ654 (by decide)) (jnp 37 eσ654 (by decide)) p639
                    have z658 : (σ654 31 8).toInt = (σ633 31 8).toInt := (congrArg Int32.toInt (show σ654 31 8 = (σ633 31 8) from (congrFun (jnp 31 eσ654 (by decide)) 8)))
                    have z659 : (σ654 31 10).toInt = A2 := ((congrArg Int32.toInt (show σ654 31 10 = a2 from ((congrFun (jnp 31 eσ654 (by decide)) 10).trans ((f636 10 (by decide)).trans ((f597 10 (by decide)).trans ((f566 10 (by decide)).trans ((f536 10 (by decide)).trans ((jkp 10 eσ523 (by decide)).trans ((jkp 10 eσ522 (by decide)).trans ((jkp 10 eσ521 (by decide)).trans (jsp eσ520))))))))))).trans t2)
                    have z660 : (σ654 31 11).toInt = x16.toInt := (congrArg Int32.toInt (show σ654 31 11 = x16 from ((congrFun (jnp 31 eσ654 (by decide)) 11).trans ((f636 11 (by decide)).trans ((f597 11 (by decide)).trans ((f566 11 (by decide)).trans ((f536 11 (by decide)).trans ((jkp 11 eσ523 (by decide)).trans ((jkp 11 eσ522 (by decide)).trans (jsp eσ521))))))))))
                    have w661 : ∀ k : Nat, k < 1400 → (-1) ≤ (σ654 33 k).toInt ∧ (σ654 33 k).toInt ≤ 350 := (by rw [eσ654]; exact jrr_up w646 (by omega) (by omega))
                    have w662 : ∀ k : Nat, k < 3159 → (-1) ≤ (σ654 35 k).toInt ∧ (σ654 35 k).toInt ≤ 3 := (jrr_fr (jnp 35 eσ654 (by decide)) w647)
                    have w663 : ∀ k : Nat, k < 1024 → 0 ≤ (σ654 36 k).toInt ∧ (σ654 36 k).toInt ≤ 349 := (jrr_fr (jnp 36 eσ654 (by decide)) w648)
                    have I664 : jI31 σ654 := ⟨(by omega), (by omega), (by omega), (by omega), w661, w662, w663⟩
                    exact ihlp588 x655 σ654 _ _ ls (by have h90 := tx655; omega) (by have h90 := tx655; omega) (by have h90 := tx655; omega) (fun i hi => ((jnp i eσ654 (imp_94 i hi)).trans ((f635 i (imp_86 i hi)).trans (f596 i hi)))) (fun i hi => ((congrFun (jnp 31 eσ654 (by decide)) i).trans ((f636 i hi).trans (f597 i hi))))  p656 p657 I664 (by rw [show σ654 31 8 = σ633 31 8 from (congrFun (jnp 31 eσ654 (by decide)) 8), show σ654 32 = σ633 32 from (jnp 32 eσ654 (by decide)), show σ654 31 11 = σ591 31 11 from ((congrFun (jnp 31 eσ654 (by decide)) 11).trans (f636 11 (by decide))), show σ654 31 12 = σ591 31 12 from ((congrFun (jnp 31 eσ654 (by decide)) 12).trans (f636 12 (by decide)))]; exact ⟨(fun hm => jqGo.put (q601.1 hm) (by omega) (by omega) (by omega) (by omega) q601.2.1 ((jqMy_iff (by omega) (by omega)).mpr ((w619).elim (fun w => w.2) (fun w => absurd w.1 (by decide)))) (w627 (by omega) (by omega)) w640 (by omega) p599 (by omega) (by rw [eσ654, jup_row, f635 33 (by decide), jnc (show x616.toInt = 4 * x556.toInt + x590.toInt by have h9 := tx616; omega)]) rfl (by have h9 := tx655; omega)), (by rw [(w640).1 x556.toInt.toNat (by omega)]; exact q601.2.1), (by have w8 := jqAd.le w640; have w9 := q601.2.2; omega)⟩) hP hS (lv_sub hl [0, 1, 2, 3, 4, 5, 6, 7, 8] rfl)
                  · obtain ⟨q666, k665⟩ := h621
                    have q666 := q666.symm
                    subst q666
                    refine lv_if_eq (tgt := 188) hx hb dX1_grow_167 (by decide) (fun _ => ?_) (fun c => absurd (by decide) c)
                    refine lv_iconst (v := (-1)) hx hb dX1_grow_188 (by decide) ?_
                    refine jast hx hb hK hP hJ hA hS (jc_33 cI cL ad σ591 τ) (ja_33 cI cL ad σ591 τ _ _) (jin tx616 (by omega) (by omega)) dX1_grow_189 (fun σ667 H locs eσ667 hP hS => ?_)
                    obtain ⟨x668, ex668⟩ : ∃ y : Int32, y = x590 + 1 := ⟨_, rfl⟩
                    have tx668 : x668.toInt = x590.toInt + 1 := (jadd ex668 rfl jz_1 (by omega) (by omega)).trans (by omega)
                    refine lv_iinc (v := x668) (lv' := [(8, .int x668), (7, .int x585), (6, .int x583), (5, .int x556), (4, .int 0), (3, .int x16), (0, .ref (ad 31)), (1, .int a1), (2, .int a2)]) hx hb dX1_grow_190 hl (k := 0) rfl (by rw [ex668]; rfl) (by decide) rfl (fun ls hl => ?_)
                    refine lv_goto (tgt := 143) hx hb dX1_grow_193 (by decide) ?_
                    have p669 : jKb σ667 := jKb.fr (congrFun (jnp 31 eσ667 (by decide)) 8) (congrFun (jnp 31 eσ667 (by decide)) 11) (jnp 32 eσ667 (by decide)) p598
                    have p670 : jKh σ667 := jKh.fr (congrFun (jnp 31 eσ667 (by decide)) 8) (jnp 32 eσ667 (by decide)) (jnp 36 eσ667 (by decide)) (jnp 37 eσ667 (by decide)) p599
                    have z671 : (σ667 31 8).toInt = (σ591 31 8).toInt := (congrArg Int32.toInt (show σ667 31 8 = (σ591 31 8) from (congrFun (jnp 31 eσ667 (by decide)) 8)))
                    have z672 : (σ667 31 10).toInt = A2 := ((congrArg Int32.toInt (show σ667 31 10 = a2 from ((congrFun (jnp 31 eσ667 (by decide)) 10).trans ((f597 10 (by decide)).trans ((f566 10 (by decide)).trans ((f536 10 (by decide)).trans ((jkp 10 eσ523 (by decide)).trans ((jkp 10 eσ522 (by decide)).trans ((jkp 10 eσ521 (by decide)).trans (jsp eσ520)))))))))).trans t2)
                    have z673 : (σ667 31 11).toInt = x16.toInt := (congrArg Int32.toInt (show σ667 31 11 = x16 from ((congrFun (jnp 31 eσ667 (by decide)) 11).trans ((f597 11 (by decide)).trans ((f566 11 (by decide)).trans ((f536 11 (by decide)).trans ((jkp 11 eσ523 (by decide)).trans ((jkp 11 eσ522 (by decide)).trans (jsp eσ521)))))))))
                    have w674 : ∀ k : Nat, k < 1400 → (-1) ≤ (σ667 33 k).toInt ∧ (σ667 33 k).toInt ≤ 350 := (by rw [eσ667]; exact jrr_up w606 (by have h9 := jz_m1; omega) (by have h9 := jz_m1; omega))
                    have w675 : ∀ k : Nat, k < 3159 → (-1) ≤ (σ667 35 k).toInt ∧ (σ667 35 k).toInt ≤ 3 := (jrr_fr (jnp 35 eσ667 (by decide)) w607)
                    have w676 : ∀ k : Nat, k < 1024 → 0 ≤ (σ667 36 k).toInt ∧ (σ667 36 k).toInt ≤ 349 := (jrr_fr (jnp 36 eσ667 (by decide)) w608)
                    have I677 : jI31 σ667 := ⟨(by omega), (by omega), (by omega), (by omega), w674, w675, w676⟩
                    exact ihlp588 x668 σ667 _ _ ls (by have h90 := tx668; omega) (by have h90 := tx668; omega) (by have h90 := tx668; omega) (fun i hi => ((jnp i eσ667 (imp_94 i hi)).trans (f596 i hi))) (fun i hi => ((congrFun (jnp 31 eσ667 (by decide)) i).trans (f597 i hi)))  p669 p670 I677 (by rw [show σ667 31 8 = σ591 31 8 from (congrFun (jnp 31 eσ667 (by decide)) 8), show σ667 31 11 = σ591 31 11 from (congrFun (jnp 31 eσ667 (by decide)) 11), show σ667 31 12 = σ591 31 12 from (congrFun (jnp 31 eσ667 (by decide)) 12), show σ667 32 = σ591 32 from (jnp 32 eσ667 (by decide))]; exact ⟨(fun hm => jqGo.none (q601.1 hm) (by omega) (by omega) (by omega) (by omega) q601.2.1 (fun w => ((w619).elim (fun w => absurd w.1 (by decide)) (fun w => w.2)) ((jqMy_iff (by omega) (by omega)).mp w)) (by rw [eσ667, jup_row, jnc (show x616.toInt = 4 * x556.toInt + x590.toInt by have h9 := tx616; omega)]) (by decide) (by have h9 := tx668; omega)), q601.2.1, q601.2.2⟩) hP hS (lv_sub hl [0, 1, 2, 3, 4, 5, 6, 7, 8] rfl)
            exact lp588 1000000 0 σ560 _ _ ls (by have h90 := jz_0; omega) (by have h90 := jz_0; omega) (by have h90 := jz_0; omega) (fun _ _ => rfl) (fun _ _ => rfl)  p567 p568 p569 ⟨(by rw [show (0 : Int32).toInt = 0 from by decide]; exact q570), ⟨(by have w := jandm (x := (σ560 32 x556.toNatClampNeg)) (y := x583) (m := 134217727) (k := 27) (M := 134217728) (by rw [ex583]) rfl rfl (by decide); show (σ560 32 x556.toNatClampNeg).toInt = _; omega), ⟨by omega, by omega⟩, (by omega)⟩, by omega⟩ hP hS hl
      exact lp554 1000000 0 σ533 _ _ ls (by have h90 := jz_0; omega) (by have h90 := jz_0; omega) (by have h90 := jz_0; omega) (fun _ _ => rfl) (fun _ _ => rfl)  p538 p539 I537 (by rw [show σ533 31 11 = σ523 31 11 from (f536 11 (by decide)), show σ533 31 12 = σ523 31 12 from (f536 12 (by decide))]; exact (fun hm => jqGo.first hm (by have w := w540; rw [show (σ523 31 8).toInt = 0 from by omega] at w; exact w) rfl (by have h9 := jz_0; omega))) hP hS hl
    · have kc518 := jeq c518 rfl t1
      refine lv_aload_n hx hb dX1_grow_40 rfl (lv_at hl 2 rfl) ?_
      refine va_get (D := D) hx hb hts inlX1 hown hK hP 31 (jc_31 cI cL ad σ τ) rfl 11 (by decide) (hts _ kw_28_7) (fun _ h9 => h9) rfl dX1_grow_41 ?_
      refine lv_iload_n hx hb dX1_grow_44 rfl (lv_at hl 1 rfl) ?_
      refine lv_icmp_ne (tgt := 63) hx hb dX1_grow_45 (by decide) (fun c678 => ?_) (fun c678 => ?_)
      · have kc678 := jne c678 rfl rfl
        refine lv_aload_n hx hb dX1_grow_63 rfl (lv_at hl 2 rfl) ?_
        refine lv_iload_n hx hb dX1_grow_64 rfl (lv_at hl 3 rfl) ?_
        refine jput (ty := .int) hx hb hts inlX1 tyX1 tyX1_ok nmX1 hown hK hP hJ hA hS (jc_31 cI cL ad σ τ) rfl (k := 9) (by decide) (Nat.le_of_ble_eq_true rfl) (jp_31_9 cI cL ad σ τ a1) (hts _ kw_5_9) (fun _ h9 => h9) rfl (by decide +kernel) rfl rfl dX1_grow_65 (fun σ679 H locs eσ679 hP hS => ?_)
        refine lv_aload_n hx hb dX1_grow_68 rfl (lv_at hl 2 rfl) ?_
        refine lv_iload_n hx hb dX1_grow_69 rfl (lv_at hl 4 rfl) ?_
        refine jput (ty := .int) hx hb hts inlX1 tyX1 tyX1_ok nmX1 hown hK hP hJ hA hS (jc_31 cI cL ad σ679 τ) rfl (k := 10) (by decide) (Nat.le_of_ble_eq_true rfl) (jp_31_10 cI cL ad σ679 τ a2) (hts _ kw_28_9) (fun _ h9 => h9) rfl (by decide +kernel) rfl rfl dX1_grow_70 (fun σ680 H locs eσ680 hP hS => ?_)
        refine lv_aload_n hx hb dX1_grow_73 rfl (lv_at hl 2 rfl) ?_
        refine lv_iload_n hx hb dX1_grow_74 rfl (lv_at hl 1 rfl) ?_
        refine jput (ty := .int) hx hb hts inlX1 tyX1 tyX1_ok nmX1 hown hK hP hJ hA hS (jc_31 cI cL ad σ680 τ) rfl (k := 11) (by decide) (Nat.le_of_ble_eq_true rfl) (jp_31_11 cI cL ad σ680 τ x16) (hts _ kw_28_7) (fun _ h9 => h9) rfl (by decide +kernel) rfl rfl dX1_grow_75 (fun σ681 H locs eσ681 hP hS => ?_)
        refine lv_aload_n hx hb dX1_grow_78 rfl (lv_at hl 2 rfl) ?_
        refine lv_iload hx hb dX1_grow_79 (lv_at hl 0 rfl) ?_
        refine jput (ty := .boolean) hx hb hts inlX1 tyX1 tyX1_ok nmX1 hown hK hP hJ hA hS (jc_31 cI cL ad σ681 τ) rfl (k := 12) (by decide) (Nat.le_of_ble_eq_true rfl) (jp_31_12 cI cL ad σ681 τ 0) (hts _ kw_28_8) (fun _ h9 => h9) rfl (by decide +kernel) rfl rfl dX1_grow_81 (fun σ682 H locs eσ682 hP hS => ?_)
        refine lv_aload_n hx hb dX1_grow_84 rfl (lv_at hl 2 rfl) ?_
        refine lv_iconst (v := 0) hx hb dX1_grow_85 (by decide) ?_
        refine jput (ty := .int) hx hb hts inlX1 tyX1 tyX1_ok nmX1 hown hK hP hJ hA hS (jc_31 cI cL ad σ682 τ) rfl (k := 8) (by decide) (Nat.le_of_ble_eq_true rfl) (jp_31_8 cI cL ad σ682 τ 0) (hts _ kw_27_22) (fun _ h9 => h9) rfl (by decide +kernel) rfl rfl dX1_grow_86 (fun σ683 H locs eσ683 hP hS => ?_)
        have z684 : (σ683 31 8).toInt = 0 := ((congrArg Int32.toInt (show σ683 31 8 = 0 from (jsp eσ683))).trans jz_0)
        have p685 : jKb σ683 := (jKb.nil (by omega))
        have p686 : jKh σ683 := (jKh.nil (by omega))
        refine lv_aload_n hx hb dX1_grow_89 rfl (lv_at hl 2 rfl) ?_
        refine lv_iload_n hx hb dX1_grow_90 rfl (lv_at hl 3 rfl) ?_
        refine lv_iconst (v := 0) hx hb dX1_grow_91 (by decide) ?_
        have z687 : (σ683 31 10).toInt = A2 := ((congrArg Int32.toInt (show σ683 31 10 = a2 from ((jkp 10 eσ683 (by decide)).trans ((jkp 10 eσ682 (by decide)).trans ((jkp 10 eσ681 (by decide)).trans (jsp eσ680)))))).trans t2)
        have z688 : (σ683 31 11).toInt = x16.toInt := (congrArg Int32.toInt (show σ683 31 11 = x16 from ((jkp 11 eσ683 (by decide)).trans ((jkp 11 eσ682 (by decide)).trans (jsp eσ681)))))
        have w689 : ∀ k : Nat, k < 1400 → (-1) ≤ (σ683 33 k).toInt ∧ (σ683 33 k).toInt ≤ 350 := (jrr_fr (jnp 33 eσ683 (by decide)) (jrr_fr (jnp 33 eσ682 (by decide)) (jrr_fr (jnp 33 eσ681 (by decide)) (jrr_fr (jnp 33 eσ680 (by decide)) (jrr_fr (jnp 33 eσ679 (by decide)) w9)))))
        have w690 : ∀ k : Nat, k < 3159 → (-1) ≤ (σ683 35 k).toInt ∧ (σ683 35 k).toInt ≤ 3 := (jrr_fr (jnp 35 eσ683 (by decide)) (jrr_fr (jnp 35 eσ682 (by decide)) (jrr_fr (jnp 35 eσ681 (by decide)) (jrr_fr (jnp 35 eσ680 (by decide)) (jrr_fr (jnp 35 eσ679 (by decide)) w10)))))
        have w691 : ∀ k : Nat, k < 1024 → 0 ≤ (σ683 36 k).toInt ∧ (σ683 36 k).toInt ≤ 349 := (jrr_fr (jnp 36 eσ683 (by decide)) (jrr_fr (jnp 36 eσ682 (by decide)) (jrr_fr (jnp 36 eσ681 (by decide)) (jrr_fr (jnp 36 eσ680 (by decide)) (jrr_fr (jnp 36 eσ679 (by decide)) w11)))))
        have I692 : jI31 σ683 := ⟨(by omega), (by omega), (by omega), (by omega), w689, w690, w691⟩
        refine jcallV (As := [.int a1, .int 0]) (rest := []) ⟨hx, hb, hml, hown, hts⟩ hK hP hA hS hZ (c_X1_add_31 l D cI cL ad zz hJ σ683 τ a1 (A1) t1 0 (0) jz_0 I692 p685 p686 (by omega) (by omega)) cw_RX1_111 (jc_31 cI cL ad σ683 τ) rfl ⟨Nat.le_of_ble_eq_true rfl, Nat.le_of_ble_eq_true rfl⟩ rfl rfl rfl hl.1 rfl (Nat.le_of_ble_eq_true rfl) dX1_grow_92 ⟨Nat.zero_le _, Nat.zero_le _⟩ (fun r694 σ693 τ693 H locs h693 hP hS => ?_)
        obtain ⟨rfl, f695, f696, I697, p698, p699, w700, h693⟩ := h693
        obtain ⟨i702, i703, i704, i705, w706, w707, w708⟩ : (0 ≤ (σ693 31 8).toInt ∧ (σ693 31 8).toInt ≤ 350) ∧ (0 ≤ (σ693 31 10).toInt ∧ (σ693 31 10).toInt ≤ 12) ∧ (0 ≤ (σ693 31 11).toInt ∧ (σ693 31 11).toInt ≤ 8) ∧ ((σ693 31 10).toInt + (σ693 31 11).toInt ≤ 12) ∧ (∀ k : Nat, k < 1400 → (-1) ≤ (σ693 33 k).toInt ∧ (σ693 33 k).toInt ≤ 350) ∧ (∀ k : Nat, k < 3159 → (-1) ≤ (σ693 35 k).toInt ∧ (σ693 35 k).toInt ≤ 3) ∧ (∀ k : Nat, k < 1024 → 0 ≤ (σ693 36 k).toInt ∧ (σ693 36 k).toInt ≤ 349) := id I697
        have z709 : (σ693 31 10).toInt = A2 := ((congrArg Int32.toInt (show σ693 31 10 = a2 from ((f696 10 (by decide)).trans ((jkp 10 eσ683 (by decide)).trans ((jkp 10 eσ682 (by decide)).trans ((jkp 10 eσ681 (by decide)).trans (jsp eσ680))))))).trans t2)
        have z710 : (σ693 31 11).toInt = x16.toInt := (congrArg Int32.toInt (show σ693 31 11 = x16 from ((f696 11 (by decide)).trans ((jkp 11 eσ683 (by decide)).trans ((jkp 11 eσ682 (by decide)).trans (jsp eσ681))))))
        have h711 := h693
        obtain ⟨q713, k712⟩ := h711
        refine lv_pop hx hb dX1_grow_95 rfl ?_
        refine lv_iconst (v := 0) hx hb dX1_grow_96 (by decide) ?_
        refine lv_istore (lv' := [(5, .int 0), (4, .int 0), (3, .int x16), (0, .ref (ad 31)), (1, .int a1), (2, .int a2)]) hx hb dX1_grow_97 hl (by decide) rfl (fun ls hl => ?_)
        have lp714 : ∀ (n715 : Nat) (x716 : Int32) (σ720 : Nat → Nat → Int32) (H : Heap) (locs : List Loc) (ls : Array Slot), (-x716.toInt + 350 : Int) < n715 → 0 ≤ x716.toInt → x716.toInt ≤ 350 → (∀ i : Nat, (i < 31 ∨ 33 < i) ∧ (i < 36 ∨ 37 < i) → σ720 i = σ693 i) → (∀ k : Nat, (k < 8 ∨ 8 < k) → σ720 31 k = σ693 31 k) → jKb σ720 → jKh σ720 → jI31 σ720 → (jFm a1 → jqGo a1 (decide ((σ720 31 12).toInt ≠ 0)) (σ720 31 11).toInt (σ720 31 8).toInt (σ720 32) (σ720 33) x716.toInt 0) → jH D cI cL ad σ720 τ H → va_S (jA ad) s.heap H locs → lv_has ls 9 [(5, .int x716), (4, .int 0), (3, .int x16), (0, .ref (ad 31)), (1, .int a1), (2, .int a2)] → W p l e ({ frames := 3, cells := 0, slots := 0, locals := 73 }) s m args below meth c H locs 0 0 Q (F0 m 99 ls []) := by
          intro n715
          induction n715 with
          | zero => intro x716 σ720 H locs ls h722 h723 h724; exact absurd h722 (by omega)
          | succ n715 ihlp714 =>
            intro x716 σ720 H locs ls h722 h723 h724 f725 f726 p727 p728 p729 q730 hP hS hl
            obtain ⟨i731, i732, i733, i734, w735, w736, w737⟩ : (0 ≤ (σ720 31 8).toInt ∧ (σ720 31 8).toInt ≤ 350) ∧ (0 ≤ (σ720 31 10).toInt ∧ (σ720 31 10).toInt ≤ 12) ∧ (0 ≤ (σ720 31 11).toInt ∧ (σ720 31 11).toInt ≤ 8) ∧ ((σ720 31 10).toInt + (σ720 31 11).toInt ≤ 12) ∧ (∀ k : Nat, k < 1400 → (-1) ≤ (σ720 33 k).toInt ∧ (σ720 33 k).toInt ≤ 350) ∧ (∀ k : Nat, k < 3159 → (-1) ≤ (σ720 35 k).toInt ∧ (σ720 35 k).toInt ≤ 3) ∧ (∀ k : Nat, k < 1024 → 0 ≤ (σ720 36 k).toInt ∧ (σ720 36 k).toInt ≤ 349) := id p729
            have z738 : (σ720 31 10).toInt = A2 := ((congrArg Int32.toInt (show σ720 31 10 = a2 from ((f726 10 (by decide)).trans ((f696 10 (by decide)).trans ((jkp 10 eσ683 (by decide)).trans ((jkp 10 eσ682 (by decide)).trans ((jkp 10 eσ681 (by decide)).trans (jsp eσ680)))))))).trans t2)
            have z739 : (σ720 31 11).toInt = x16.toInt := (congrArg Int32.toInt (show σ720 31 11 = x16 from ((f726 11 (by decide)).trans ((f696 11 (by decide)).trans ((jkp 11 eσ683 (by decide)).trans ((jkp 11 eσ682 (by decide)).trans (jsp eσ681)))))))
            refine lv_iload hx hb dX1_grow_99 (lv_at hl 0 rfl) ?_
            refine lv_aload_n hx hb dX1_grow_101 rfl (lv_at hl 3 rfl) ?_
            refine va_get (D := D) hx hb hts inlX1 hown hK hP 31 (jc_31 cI cL ad σ720 τ) rfl 8 (by decide) (hts _ kw_27_22) (fun _ h9 => h9) rfl dX1_grow_102 ?_
            refine lv_icmp_ge (tgt := 202) hx hb dX1_grow_105 (by decide) (fun c740 => ?_) (fun c740 => ?_)
            · have kc740 := jle c740 rfl rfl
              have p741 : jKg σ720 := (show jFm (σ720 31 9) → _ from by rw [show σ720 31 9 = a1 from ((f726 9 (by decide)).trans ((f696 9 (by decide)).trans ((jkp 9 eσ683 (by decide)).trans ((jkp 9 eσ682 (by decide)).trans ((jkp 9 eσ681 (by decide)).trans ((jkp 9 eσ680 (by decide)).trans (jsp eσ679)))))))]; exact fun hm => (q730 hm).fin (by omega))
              exact hret σ720 τ _ _ _ _ ⟨rfl, (fun i hi => ((f725 i hi).trans ((f695 i (imp_86 i hi)).trans ((jnp i eσ683 (imp_87 i hi)).trans ((jnp i eσ682 (imp_87 i hi)).trans ((jnp i eσ681 (imp_87 i hi)).trans ((jnp i eσ680 (imp_87 i hi)).trans (jnp i eσ679 (imp_87 i hi))))))))), (fun i hi => ((f726 i (imp_88 i hi)).trans ((f696 i (imp_88 i hi)).trans ((jkp i eσ683 (imp_89 i hi)).trans ((jkp i eσ682 (imp_90 i hi)).trans ((jkp i eσ681 (imp_91 i hi)).trans ((jkp i eσ680 (imp_92 i hi)).trans (jkp i eσ679 (imp_93 i hi))))))))), p729, p727, p728, p741, trivial⟩ hP hS dX1_grow_202
            · have kc740 := jnle c740 rfl rfl
              refine lv_iload hx hb dX1_grow_108 (lv_at hl 0 rfl) ?_
              refine lv_sipush (v := 350) hx hb dX1_grow_110 (by decide) ?_
              refine lv_icmp_ge (tgt := 202) hx hb dX1_grow_113 (by decide) (fun c => absurd (jle c jz_350 rfl) (by omega)) (fun c742 => ?_)
              have kc742 := jnle c742 jz_350 rfl
              refine lv_aload_n hx hb dX1_grow_116 rfl (lv_at hl 3 rfl) ?_
              refine va_get (D := D) hx hb hts inlX1 hown hK hP 31 (jc_31 cI cL ad σ720 τ) rfl 2 (by decide) (hts _ kw_5_3) (fun _ h9 => h9) rfl dX1_grow_117 ?_
              refine lv_iload hx hb dX1_grow_120 (lv_at hl 0 rfl) ?_
              refine jald hx hb hK hP (jc_32 cI cL ad σ720 τ) (jin rfl (by omega) (by omega)) dX1_grow_122 ?_
              refine jtopr (y := (σ720 32 x716.toNatClampNeg)) rfl ?_
              refine lv_ldc (v := 134217727) hx hb hown (hts _ kw_28_10) dX1_grow_123 ?_
              refine lv_iand hx hb dX1_grow_125 ?_
              refine lv_topi (fun x743 ex743 => ?_)
              have gx743 := jrg (rfl : x743.toInt = x743.toInt)
              have g744 : 0 ≤ x743.toInt ∧ x743.toInt ≤ 134217727 := jmask ex743 27 (by decide) (by decide)
              refine lv_istore (lv' := [(6, .int x743), (5, .int x716), (4, .int 0), (3, .int x16), (0, .ref (ad 31)), (1, .int a1), (2, .int a2)]) hx hb dX1_grow_126 hl (by decide) rfl (fun ls hl => ?_)
              refine lv_aload_n hx hb dX1_grow_128 rfl (lv_at hl 4 rfl) ?_
              refine va_get (D := D) hx hb hts inlX1 hown hK hP 31 (jc_31 cI cL ad σ720 τ) rfl 2 (by decide) (hts _ kw_5_3) (fun _ h9 => h9) rfl dX1_grow_129 ?_
              refine lv_iload hx hb dX1_grow_132 (lv_at hl 1 rfl) ?_
              refine jald hx hb hK hP (jc_32 cI cL ad σ720 τ) (jin rfl (by omega) (by omega)) dX1_grow_134 ?_
              refine jtopr (y := (σ720 32 x716.toNatClampNeg)) rfl ?_
              refine lv_bipush (v := 27) hx hb dX1_grow_135 (by decide) ?_
              refine lv_ishr hx hb dX1_grow_137 ?_
              refine lv_topi (fun x745 ex745 => ?_)
              have gx745 := jrg (rfl : x745.toInt = x745.toInt)
              have k746 := jshr27 (x := x745) (k := (σ720 32 x716.toNatClampNeg)) (by rw [ex745])
              have k747 := p727 x716.toNatClampNeg (by rw [jnc (rfl : x716.toInt = x716.toInt)]; omega)
              refine lv_istore (lv' := [(7, .int x745), (6, .int x743), (5, .int x716), (4, .int 0), (3, .int x16), (0, .ref (ad 31)), (1, .int a1), (2, .int a2)]) hx hb dX1_grow_138 hl (by decide) rfl (fun ls hl => ?_)
              refine lv_iconst (v := 0) hx hb dX1_grow_140 (by decide) ?_
              refine lv_istore (lv' := [(8, .int 0), (7, .int x745), (6, .int x743), (5, .int x716), (4, .int 0), (3, .int x16), (0, .ref (ad 31)), (1, .int a1), (2, .int a2)]) hx hb dX1_grow_141 hl (by decide) rfl (fun ls hl => ?_)
              have lp748 : ∀ (n749 : Nat) (x750 : Int32) (σ751 : Nat → Nat → Int32) (H : Heap) (locs : List Loc) (ls : Array Slot), (-x750.toInt + 4 : Int) < n749 → 0 ≤ x750.toInt → x750.toInt ≤ 4 → (∀ i : Nat, (i < 31 ∨ 33 < i) ∧ (i < 36 ∨ 37 < i) → σ751 i = σ720 i) → (∀ k : Nat, (k < 8 ∨ 8 < k) → σ751 31 k = σ720 31 k) → jKb σ751 → jKh σ751 → jI31 σ751 → ((jFm a1 → jqGo a1 (decide ((σ751 31 12).toInt ≠ 0)) (σ751 31 11).toInt (σ751 31 8).toInt (σ751 32) (σ751 33) x716.toInt x750.toInt) ∧ jqNo (σ751 32 x716.toInt.toNat) x743 x745.toInt ∧ x716.toInt < (σ751 31 8).toInt) → jH D cI cL ad σ751 τ H → va_S (jA ad) s.heap H locs → lv_has ls 9 [(8, .int x750), (7, .int x745), (6, .int x743), (5, .int x716), (4, .int 0), (3, .int x16), (0, .ref (ad 31)), (1, .int a1), (2, .int a2)] → W p l e ({ frames := 3, cells := 0, slots := 0, locals := 73 }) s m args below meth c H locs 0 0 Q (F0 m 143 ls []) := by
                intro n749
                induction n749 with
                | zero => intro x750 σ751 H locs ls h753 h754 h755; exact absurd h753 (by omega)
                | succ n749 ihlp748 =>
                  intro x750 σ751 H locs ls h753 h754 h755 f756 f757 p758 p759 p760 q761 hP hS hl
                  obtain ⟨i762, i763, i764, i765, w766, w767, w768⟩ : (0 ≤ (σ751 31 8).toInt ∧ (σ751 31 8).toInt ≤ 350) ∧ (0 ≤ (σ751 31 10).toInt ∧ (σ751 31 10).toInt ≤ 12) ∧ (0 ≤ (σ751 31 11).toInt ∧ (σ751 31 11).toInt ≤ 8) ∧ ((σ751 31 10).toInt + (σ751 31 11).toInt ≤ 12) ∧ (∀ k : Nat, k < 1400 → (-1) ≤ (σ751 33 k).toInt ∧ (σ751 33 k).toInt ≤ 350) ∧ (∀ k : Nat, k < 3159 → (-1) ≤ (σ751 35 k).toInt ∧ (σ751 35 k).toInt ≤ 3) ∧ (∀ k : Nat, k < 1024 → 0 ≤ (σ751 36 k).toInt ∧ (σ751 36 k).toInt ≤ 349) := id p760
                  have z769 : (σ751 31 10).toInt = A2 := ((congrArg Int32.toInt (show σ751 31 10 = a2 from ((f757 10 (by decide)).trans ((f726 10 (by decide)).trans ((f696 10 (by decide)).trans ((jkp 10 eσ683 (by decide)).trans ((jkp 10 eσ682 (by decide)).trans ((jkp 10 eσ681 (by decide)).trans (jsp eσ680))))))))).trans t2)
                  have z770 : (σ751 31 11).toInt = x16.toInt := (congrArg Int32.toInt (show σ751 31 11 = x16 from ((f757 11 (by decide)).trans ((f726 11 (by decide)).trans ((f696 11 (by decide)).trans ((jkp 11 eσ683 (by decide)).trans ((jkp 11 eσ682 (by decide)).trans (jsp eσ681))))))))
                  refine lv_iload hx hb dX1_grow_143 (lv_at hl 0 rfl) ?_
                  refine lv_iconst (v := 4) hx hb dX1_grow_145 (by decide) ?_
                  refine lv_icmp_ge (tgt := 196) hx hb dX1_grow_146 (by decide) (fun c771 => ?_) (fun c771 => ?_)
                  · have kc771 := jle c771 jz_4 rfl
                    obtain ⟨x772, ex772⟩ : ∃ y : Int32, y = x716 + 1 := ⟨_, rfl⟩
                    have tx772 : x772.toInt = x716.toInt + 1 := (jadd ex772 rfl jz_1 (by omega) (by omega)).trans (by omega)
                    refine lv_iinc (v := x772) (lv' := [(5, .int x772), (8, .int x750), (7, .int x745), (6, .int x743), (4, .int 0), (3, .int x16), (0, .ref (ad 31)), (1, .int a1), (2, .int a2)]) hx hb dX1_grow_196 hl (k := 3) rfl (by rw [ex772]; rfl) (by decide) rfl (fun ls hl => ?_)
                    refine lv_goto (tgt := 99) hx hb dX1_grow_199 (by decide) ?_
                    exact ihlp714 x772 σ751 _ _ ls (by have h90 := tx772; omega) (by have h90 := tx772; omega) (by have h90 := tx772; omega) (fun i hi => ((f756 i hi).trans (f725 i hi))) (fun i hi => ((f757 i hi).trans (f726 i hi)))  p758 p759 p760 (fun hm => jqGo.row (q761.1 hm) (by omega) (by have h9 := tx772; omega) (by omega) q761.2.2) hP hS (lv_sub hl [0, 4, 5, 6, 7, 8] rfl)
                  · have kc771 := jnle c771 jz_4 rfl
                    refine lv_aload_n hx hb dX1_grow_149 rfl (lv_at hl 6 rfl) ?_
                    refine va_get (D := D) hx hb hts inlX1 hown hK hP 31 (jc_31 cI cL ad σ751 τ) rfl 3 (by decide) (hts _ kw_5_4) (fun _ h9 => h9) rfl dX1_grow_150 ?_
                    refine lv_iload hx hb dX1_grow_153 (lv_at hl 3 rfl) ?_
                    refine lv_iconst (v := 4) hx hb dX1_grow_155 (by decide) ?_
                    have g773 := jrg (rfl : x716.toInt = x716.toInt)
                    refine lv_imul hx hb dX1_grow_156 ?_
                    refine lv_topi (fun x774 ex774 => ?_)
                    have tx774 : x774.toInt = 4 * x716.toInt := (jmul ex774 rfl jz_4 (by omega) (by omega)).trans (by omega)
                    refine lv_iload hx hb dX1_grow_157 (lv_at hl 0 rfl) ?_
                    have g775 := jrg (rfl : x750.toInt = x750.toInt)
                    refine lv_iadd hx hb dX1_grow_159 ?_
                    refine lv_topi (fun x776 ex776 => ?_)
                    have tx776 : x776.toInt = 4 * x716.toInt + x750.toInt := (jadd ex776 tx774 rfl (by omega) (by omega)).trans (by omega)
                    refine lv_iload hx hb dX1_grow_160 (lv_at hl 2 rfl) ?_
                    refine lv_iload hx hb dX1_grow_162 (lv_at hl 0 rfl) ?_
                    refine jcallS (As := [.int x743, .int x750]) (rest := [.int x776, .ref (ad 33)]) ⟨hx, hb, hml, hown, hts⟩ hK hP hA hS hZ (c_X0_mayBowl l D cI cL ad zz hJ σ751 τ x743 (x743.toInt) rfl x750 (x750.toInt) rfl) cw_RX1_115 ⟨Nat.le_of_ble_eq_true rfl, Nat.le_of_ble_eq_true rfl⟩ rfl rfl rfl hl.1 rfl (Nat.le_of_ble_eq_true rfl) dX1_grow_164 ⟨Nat.zero_le _, Nat.zero_le _⟩ (fun r778 σ777 τ777 H locs h777 hP hS => ?_)
                    obtain ⟨⟨rfl, rfl⟩, w779, h777⟩ := h777
                    rcases h777 with h780 | h781
                    · obtain ⟨q783, k782⟩ := h780
                      have q783 := q783.symm
                      subst q783
                      refine lv_if_eq (tgt := 188) hx hb dX1_grow_167 (by decide) (fun c => absurd c (by decide)) (fun _ => ?_)
                      refine lv_aload_n hx hb dX1_grow_170 rfl (lv_at hl 6 rfl) ?_
                      refine lv_iload hx hb dX1_grow_171 (lv_at hl 2 rfl) ?_
                      refine lv_iload hx hb dX1_grow_173 (lv_at hl 0 rfl) ?_
                      refine jcallS (As := [.int x743, .int x750]) (rest := [.ref (ad 31), .int x776, .ref (ad 33)]) ⟨hx, hb, hml, hown, hts⟩ hK hP hA hS hZ (c_X0_after_r l D cI cL ad zz hJ σ751 τ x743 (x743.toInt) rfl x750 (x750.toInt) rfl (by omega)) cw_RX1_119 ⟨Nat.le_of_ble_eq_true rfl, Nat.le_of_ble_eq_true rfl⟩ rfl rfl rfl hl.1 rfl (Nat.le_of_ble_eq_true rfl) dX1_grow_175 ⟨Nat.zero_le _, Nat.zero_le _⟩ (fun r785 σ784 τ784 H locs h784 hP hS => ?_)
                      obtain ⟨⟨rfl, rfl⟩, w786, w787, h784⟩ := h784
                      have h788 := h784
                      obtain ⟨q790, k789⟩ := h788
                      refine lv_iload hx hb dX1_grow_178 (lv_at hl 1 rfl) ?_
                      refine lv_iconst (v := 1) hx hb dX1_grow_180 (by decide) ?_
                      have g791 := jrg (rfl : x745.toInt = x745.toInt)
                      refine lv_iadd hx hb dX1_grow_181 ?_
                      refine lv_topi (fun x792 ex792 => ?_)
                      have tx792 : x792.toInt = x745.toInt + 1 := (jadd ex792 rfl jz_1 (by omega) (by omega)).trans (by omega)
                      refine jcallV (As := [.int r785, .int x792]) (rest := [.int x776, .ref (ad 33)]) ⟨hx, hb, hml, hown, hts⟩ hK hP hA hS hZ (c_X1_add_31 l D cI cL ad zz hJ σ751 τ r785 (r785.toInt) rfl x792 (x745.toInt + 1) tx792 p760 p758 p759 (by omega) (by omega)) cw_RX1_111 (jc_31 cI cL ad σ751 τ) rfl ⟨Nat.le_of_ble_eq_true rfl, Nat.le_of_ble_eq_true rfl⟩ rfl rfl rfl hl.1 rfl (Nat.le_of_ble_eq_true rfl) dX1_grow_182 ⟨Nat.zero_le _, Nat.zero_le _⟩ (fun r794 σ793 τ793 H locs h793 hP hS => ?_)
                      obtain ⟨rfl, f795, f796, I797, p798, p799, w800, h793⟩ := h793
                      obtain ⟨i802, i803, i804, i805, w806, w807, w808⟩ : (0 ≤ (σ793 31 8).toInt ∧ (σ793 31 8).toInt ≤ 350) ∧ (0 ≤ (σ793 31 10).toInt ∧ (σ793 31 10).toInt ≤ 12) ∧ (0 ≤ (σ793 31 11).toInt ∧ (σ793 31 11).toInt ≤ 8) ∧ ((σ793 31 10).toInt + (σ793 31 11).toInt ≤ 12) ∧ (∀ k : Nat, k < 1400 → (-1) ≤ (σ793 33 k).toInt ∧ (σ793 33 k).toInt ≤ 350) ∧ (∀ k : Nat, k < 3159 → (-1) ≤ (σ793 35 k).toInt ∧ (σ793 35 k).toInt ≤ 3) ∧ (∀ k : Nat, k < 1024 → 0 ≤ (σ793 36 k).toInt ∧ (σ793 36 k).toInt ≤ 349) := id I797
                      have z809 : (σ793 31 10).toInt = A2 := ((congrArg Int32.toInt (show σ793 31 10 = a2 from ((f796 10 (by decide)).trans ((f757 10 (by decide)).trans ((f726 10 (by decide)).trans ((f696 10 (by decide)).trans ((jkp 10 eσ683 (by decide)).trans ((jkp 10 eσ682 (by decide)).trans ((jkp 10 eσ681 (by decide)).trans (jsp eσ680)))))))))).trans t2)
                      have z810 : (σ793 31 11).toInt = x16.toInt := (congrArg Int32.toInt (show σ793 31 11 = x16 from ((f796 11 (by decide)).trans ((f757 11 (by decide)).trans ((f726 11 (by decide)).trans ((f696 11 (by decide)).trans ((jkp 11 eσ683 (by decide)).trans ((jkp 11 eσ682 (by decide)).trans (jsp eσ681)))))))))
                      have h811 := h793
                      obtain ⟨q813, k812⟩ := h811
                      refine lv_goto (tgt := 189) hx hb dX1_grow_185 (by decide) ?_
                      refine jast hx hb hK hP hJ hA hS (jc_33 cI cL ad σ793 τ) (ja_33 cI cL ad σ793 τ _ _) (jin tx776 (by omega) (by omega)) dX1_grow_189 (fun σ814 H locs eσ814 hP hS => ?_)
                      obtain ⟨x815, ex815⟩ : ∃ y : Int32, y = x750 + 1 := ⟨_, rfl⟩
                      have tx815 : x815.toInt = x750.toInt + 1 := (jadd ex815 rfl jz_1 (by omega) (by omega)).trans (by omega)
                      refine lv_iinc (v := x815) (lv' := [(8, .int x815), (7, .int x745), (6, .int x743), (5, .int x716), (4, .int 0), (3, .int x16), (0, .ref (ad 31)), (1, .int a1), (2, .int a2)]) hx hb dX1_grow_190 hl (k := 0) rfl (by rw [ex815]; rfl) (by decide) rfl (fun ls hl => ?_)
                      refine lv_goto (tgt := 143) hx hb dX1_grow_193 (by decide) ?_
                      have p816 : jKb σ814 := jKb.fr (congrFun (jnp 31 eσ814 (by decide)) 8) (congrFun (jnp 31 eσ814 (by decide)) 11) (jnp 32 eσ814 (by decide)) p798
                      have p817 : jKh σ814 := jKh.fr (congrFun (jnp 31 eσ814 (by decide)) 8) (jnp 32 eσ814 (by decide)) (jnp 36 eσ814 (by decide)) (jnp 37 eσ814 (by decide)) p799
                      have z818 : (σ814 31 8).toInt = (σ793 31 8).toInt := (congrArg Int32.toInt (show σ814 31 8 = (σ793 31 8) from (congrFun (jnp 31 eσ814 (by decide)) 8)))
                      have z819 : (σ814 31 10).toInt = A2 := ((congrArg Int32.toInt (show σ814 31 10 = a2 from ((congrFun (jnp 31 eσ814 (by decide)) 10).trans ((f796 10 (by decide)).trans ((f757 10 (by decide)).trans ((f726 10 (by decide)).trans ((f696 10 (by decide)).trans ((jkp 10 eσ683 (by decide)).trans ((jkp 10 eσ682 (by decide)).trans ((jkp 10 eσ681 (by decide)).trans (jsp eσ680))))))))))).trans t2)
                      have z820 : (σ814 31 11).toInt = x16.toInt := (congrArg Int32.toInt (show σ814 31 11 = x16 from ((congrFun (jnp 31 eσ814 (by decide)) 11).trans ((f796 11 (by decide)).trans ((f757 11 (by decide)).trans ((f726 11 (by decide)).trans ((f696 11 (by decide)).trans ((jkp 11 eσ683 (by decide)).trans ((jkp 11 eσ682 (by decide)).trans (jsp eσ681))))))))))
                      have w821 : ∀ k : Nat, k < 1400 → (-1) ≤ (σ814 33 k).toInt ∧ (σ814 33 k).toInt ≤ 350 := (by rw [eσ814]; exact jrr_up w806 (by omega) (by omega))
                      have w822 : ∀ k : Nat, k < 3159 → (-1) ≤ (σ814 35 k).toInt ∧ (σ814 35 k).toInt ≤ 3 := (jrr_fr (jnp 35 eσ814 (by decide)) w807)
                      have w823 : ∀ k : Nat, k < 1024 → 0 ≤ (σ814 36 k).toInt ∧ (σ814 36 k).toInt ≤ 349 := (jrr_fr (jnp 36 eσ814 (by decide)) w808)
                      have I824 : jI31 σ814 := ⟨(by omega), (by omega), (by omega), (by omega), w821, w822, w823⟩
                      exact ihlp748 x815 σ814 _ _ ls (by have h90 := tx815; omega) (by have h90 := tx815; omega) (by have h90 := tx815; omega) (fun i hi => ((jnp i eσ814 (imp_94 i hi)).trans ((f795 i (imp_86 i hi)).trans (f756 i hi)))) (fun i hi => ((congrFun (jnp 31 eσ814 (by decide)) i).trans ((f796 i hi).trans (f757 i hi))))  p816 p817 I824 (by rw [show σ814 31 8 = σ793 31 8 from (congrFun (jnp 31 eσ814 (by decide)) 8), show σ814 32 = σ793 32 from (jnp 32 eσ814 (by decide)), show σ814 31 11 = σ751 31 11 from ((congrFun (jnp 31 eσ814 (by decide)) 11).trans (f796 11 (by decide))), show σ814 31 12 = σ751 31 12 from ((congrFun (jnp 31 eσ814 (by decide)) 12).trans (f796 12 (by decide)))]; exact ⟨(fun hm => jqGo.put (q761.1 hm) (by omega) (by omega) (by omega) (by omega) q761.2.1 ((jqMy_iff (by omega) (by omega)).mpr ((w779).elim (fun w => w.2) (fun w => absurd w.1 (by decide)))) (w787 (by omega) (by omega)) w800 (by omega) p759 (by omega) (by rw [eσ814, jup_row, f795 33 (by decide), jnc (show x776.toInt = 4 * x716.toInt + x750.toInt by have h9 := tx776; omega)]) rfl (by have h9 := tx815; omega)), (by rw [(w800).1 x716.toInt.toNat (by omega)]; exact q761.2.1), (by have w8 := jqAd.le w800; have w9 := q761.2.2; omega)⟩) hP hS (lv_sub hl [0, 1, 2, 3, 4, 5, 6, 7, 8] rfl)
                    · obtain ⟨q826, k825⟩ := h781
                      have q826 := q826.symm
                      subst q826
                      refine lv_if_eq (tgt := 188) hx hb dX1_grow_167 (by decide) (fun _ => ?_) (fun c => absurd (by decide) c)
                      refine lv_iconst (v := (-1)) hx hb dX1_grow_188 (by decide) ?_
                      refine jast hx hb hK hP hJ hA hS (jc_33 cI cL ad σ751 τ) (ja_33 cI cL ad σ751 τ _ _) (jin tx776 (by omega) (by omega)) dX1_grow_189 (fun σ827 H locs eσ827 hP hS => ?_)
                      obtain ⟨x828, ex828⟩ : ∃ y : Int32, y = x750 + 1 := ⟨_, rfl⟩
                      have tx828 : x828.toInt = x750.toInt + 1 := (jadd ex828 rfl jz_1 (by omega) (by omega)).trans (by omega)
                      refine lv_iinc (v := x828) (lv' := [(8, .int x828), (7, .int x745), (6, .int x743), (5, .int x716), (4, .int 0), (3, .int x16), (0, .ref (ad 31)), (1, .int a1), (2, .int a2)]) hx hb dX1_grow_190 hl (k := 0) rfl (by rw [ex828]; rfl) (by decide) rfl (fun ls hl => ?_)
                      refine lv_goto (tgt := 143) hx hb dX1_grow_193 (by decide) ?_
                      have p829 : jKb σ827 := jKb.fr (congrFun (jnp 31 eσ827 (by decide)) 8) (congrFun (jnp 31 eσ827 (by decide)) 11) (jnp 32 eσ827 (by decide)) p758
                      have p830 : jKh σ827 := jKh.fr (congrFun (jnp 31 eσ827 (by decide)) 8) (jnp 32 eσ827 (by decide)) (jnp 36 eσ827 (by decide)) (jnp 37 eσ827 (by decide)) p759
                      have z831 : (σ827 31 8).toInt = (σ751 31 8).toInt := (congrArg Int32.toInt (show σ827 31 8 = (σ751 31 8) from (congrFun (jnp 31 eσ827 (by decide)) 8)))
                      have z832 : (σ827 31 10).toInt = A2 := ((congrArg Int32.toInt (show σ827 31 10 = a2 from ((congrFun (jnp 31 eσ827 (by decide)) 10).trans ((f757 10 (by decide)).trans ((f726 10 (by decide)).trans ((f696 10 (by decide)).trans ((jkp 10 eσ683 (by decide)).trans ((jkp 10 eσ682 (by decide)).trans ((jkp 10 eσ681 (by decide)).trans (jsp eσ680)))))))))).trans t2)
                      have z833 : (σ827 31 11).toInt = x16.toInt := (congrArg Int32.toInt (show σ827 31 11 = x16 from ((congrFun (jnp 31 eσ827 (by decide)) 11).trans ((f757 11 (by decide)).trans ((f726 11 (by decide)).trans ((f696 11 (by decide)).trans ((jkp 11 eσ683 (by decide)).trans ((jkp 11 eσ682 (by decide)).trans (jsp eσ681)))))))))
                      have w834 : ∀ k : Nat, k < 1400 → (-1) ≤ (σ827 33 k).toInt ∧ (σ827 33 k).toInt ≤ 350 := (by rw [eσ827]; exact jrr_up w766 (by have h9 := jz_m1; omega) (by have h9 := jz_m1; omega))
                      have w835 : ∀ k : Nat, k < 3159 → (-1) ≤ (σ827 35 k).toInt ∧ (σ827 35 k).toInt ≤ 3 := (jrr_fr (jnp 35 eσ827 (by decide)) w767)
                      have w836 : ∀ k : Nat, k < 1024 → 0 ≤ (σ827 36 k).toInt ∧ (σ827 36 k).toInt ≤ 349 := (jrr_fr (jnp 36 eσ827 (by decide)) w768)
                      have I837 : jI31 σ827 := ⟨(by omega), (by omega), (by omega), (by omega), w834, w835, w836⟩
                      exact ihlp748 x828 σ827 _ _ ls (by have h90 := tx828; omega) (by have h90 := tx828; omega) (by have h90 := tx828; omega) (fun i hi => ((jnp i eσ827 (imp_94 i hi)).trans (f756 i hi))) (fun i hi => ((congrFun (jnp 31 eσ827 (by decide)) i).trans (f757 i hi)))  p829 p830 I837 (by rw [show σ827 31 8 = σ751 31 8 from (congrFun (jnp 31 eσ827 (by decide)) 8), show σ827 31 11 = σ751 31 11 from (congrFun (jnp 31 eσ827 (by decide)) 11), show σ827 31 12 = σ751 31 12 from (congrFun (jnp 31 eσ827 (by decide)) 12), show σ827 32 = σ751 32 from (jnp 32 eσ827 (by decide))]; exact ⟨(fun hm => jqGo.none (q761.1 hm) (by omega) (by omega) (by omega) (by omega) q761.2.1 (fun w => ((w779).elim (fun w => absurd w.1 (by decide)) (fun w => w.2)) ((jqMy_iff (by omega) (by omega)).mp w)) (by rw [eσ827, jup_row, jnc (show x776.toInt = 4 * x716.toInt + x750.toInt by have h9 := tx776; omega)]) (by decide) (by have h9 := tx828; omega)), q761.2.1, q761.2.2⟩) hP hS (lv_sub hl [0, 1, 2, 3, 4, 5, 6, 7, 8] rfl)
              exact lp748 1000000 0 σ720 _ _ ls (by have h90 := jz_0; omega) (by have h90 := jz_0; omega) (by have h90 := jz_0; omega) (fun _ _ => rfl) (fun _ _ => rfl)  p727 p728 p729 ⟨(by rw [show (0 : Int32).toInt = 0 from by decide]; exact q730), ⟨(by have w := jandm (x := (σ720 32 x716.toNatClampNeg)) (y := x743) (m := 134217727) (k := 27) (M := 134217728) (by rw [ex743]) rfl rfl (by decide); show (σ720 32 x716.toNatClampNeg).toInt = _; omega), ⟨by omega, by omega⟩, (by omega)⟩, by omega⟩ hP hS hl
        exact lp714 1000000 0 σ693 _ _ ls (by have h90 := jz_0; omega) (by have h90 := jz_0; omega) (by have h90 := jz_0; omega) (fun _ _ => rfl) (fun _ _ => rfl)  p698 p699 I697 (by rw [show σ693 31 11 = σ683 31 11 from (f696 11 (by decide)), show σ693 31 12 = σ683 31 12 from (f696 12 (by decide))]; exact (fun hm => jqGo.first hm (by have w := w700; rw [show (σ683 31 8).toInt = 0 from by omega] at w; exact w) rfl (by have h9 := jz_0; omega))) hP hS hl
      · have kc678 := jeq c678 rfl rfl
        refine lv_aload_n hx hb dX1_grow_48 rfl (lv_at hl 2 rfl) ?_
        refine va_get (D := D) hx hb hts inlX1 hown hK hP 31 (jc_31 cI cL ad σ τ) rfl 12 (by decide) (hts _ kw_28_8) (fun _ h9 => h9) rfl dX1_grow_49 ?_
        refine lv_iload hx hb dX1_grow_52 (lv_at hl 0 rfl) ?_
        refine lv_icmp_ne (tgt := 63) hx hb dX1_grow_54 (by decide) (fun c838 => ?_) (fun c838 => ?_)
        · have kc838 := jne c838 rfl jz_0
          refine lv_aload_n hx hb dX1_grow_63 rfl (lv_at hl 2 rfl) ?_
          refine lv_iload_n hx hb dX1_grow_64 rfl (lv_at hl 3 rfl) ?_
          refine jput (ty := .int) hx hb hts inlX1 tyX1 tyX1_ok nmX1 hown hK hP hJ hA hS (jc_31 cI cL ad σ τ) rfl (k := 9) (by decide) (Nat.le_of_ble_eq_true rfl) (jp_31_9 cI cL ad σ τ a1) (hts _ kw_5_9) (fun _ h9 => h9) rfl (by decide +kernel) rfl rfl dX1_grow_65 (fun σ839 H locs eσ839 hP hS => ?_)
          refine lv_aload_n hx hb dX1_grow_68 rfl (lv_at hl 2 rfl) ?_
          refine lv_iload_n hx hb dX1_grow_69 rfl (lv_at hl 4 rfl) ?_
          refine jput (ty := .int) hx hb hts inlX1 tyX1 tyX1_ok nmX1 hown hK hP hJ hA hS (jc_31 cI cL ad σ839 τ) rfl (k := 10) (by decide) (Nat.le_of_ble_eq_true rfl) (jp_31_10 cI cL ad σ839 τ a2) (hts _ kw_28_9) (fun _ h9 => h9) rfl (by decide +kernel) rfl rfl dX1_grow_70 (fun σ840 H locs eσ840 hP hS => ?_)
          refine lv_aload_n hx hb dX1_grow_73 rfl (lv_at hl 2 rfl) ?_
          refine lv_iload_n hx hb dX1_grow_74 rfl (lv_at hl 1 rfl) ?_
          refine jput (ty := .int) hx hb hts inlX1 tyX1 tyX1_ok nmX1 hown hK hP hJ hA hS (jc_31 cI cL ad σ840 τ) rfl (k := 11) (by decide) (Nat.le_of_ble_eq_true rfl) (jp_31_11 cI cL ad σ840 τ x16) (hts _ kw_28_7) (fun _ h9 => h9) rfl (by decide +kernel) rfl rfl dX1_grow_75 (fun σ841 H locs eσ841 hP hS => ?_)
          refine lv_aload_n hx hb dX1_grow_78 rfl (lv_at hl 2 rfl) ?_
          refine lv_iload hx hb dX1_grow_79 (lv_at hl 0 rfl) ?_
          refine jput (ty := .boolean) hx hb hts inlX1 tyX1 tyX1_ok nmX1 hown hK hP hJ hA hS (jc_31 cI cL ad σ841 τ) rfl (k := 12) (by decide) (Nat.le_of_ble_eq_true rfl) (jp_31_12 cI cL ad σ841 τ 0) (hts _ kw_28_8) (fun _ h9 => h9) rfl (by decide +kernel) rfl rfl dX1_grow_81 (fun σ842 H locs eσ842 hP hS => ?_)
          refine lv_aload_n hx hb dX1_grow_84 rfl (lv_at hl 2 rfl) ?_
          refine lv_iconst (v := 0) hx hb dX1_grow_85 (by decide) ?_
          refine jput (ty := .int) hx hb hts inlX1 tyX1 tyX1_ok nmX1 hown hK hP hJ hA hS (jc_31 cI cL ad σ842 τ) rfl (k := 8) (by decide) (Nat.le_of_ble_eq_true rfl) (jp_31_8 cI cL ad σ842 τ 0) (hts _ kw_27_22) (fun _ h9 => h9) rfl (by decide +kernel) rfl rfl dX1_grow_86 (fun σ843 H locs eσ843 hP hS => ?_)
          have z844 : (σ843 31 8).toInt = 0 := ((congrArg Int32.toInt (show σ843 31 8 = 0 from (jsp eσ843))).trans jz_0)
          have p845 : jKb σ843 := (jKb.nil (by omega))
          have p846 : jKh σ843 := (jKh.nil (by omega))
          refine lv_aload_n hx hb dX1_grow_89 rfl (lv_at hl 2 rfl) ?_
          refine lv_iload_n hx hb dX1_grow_90 rfl (lv_at hl 3 rfl) ?_
          refine lv_iconst (v := 0) hx hb dX1_grow_91 (by decide) ?_
          have z847 : (σ843 31 10).toInt = A2 := ((congrArg Int32.toInt (show σ843 31 10 = a2 from ((jkp 10 eσ843 (by decide)).trans ((jkp 10 eσ842 (by decide)).trans ((jkp 10 eσ841 (by decide)).trans (jsp eσ840)))))).trans t2)
          have z848 : (σ843 31 11).toInt = x16.toInt := (congrArg Int32.toInt (show σ843 31 11 = x16 from ((jkp 11 eσ843 (by decide)).trans ((jkp 11 eσ842 (by decide)).trans (jsp eσ841)))))
          have w849 : ∀ k : Nat, k < 1400 → (-1) ≤ (σ843 33 k).toInt ∧ (σ843 33 k).toInt ≤ 350 := (jrr_fr (jnp 33 eσ843 (by decide)) (jrr_fr (jnp 33 eσ842 (by decide)) (jrr_fr (jnp 33 eσ841 (by decide)) (jrr_fr (jnp 33 eσ840 (by decide)) (jrr_fr (jnp 33 eσ839 (by decide)) w9)))))
          have w850 : ∀ k : Nat, k < 3159 → (-1) ≤ (σ843 35 k).toInt ∧ (σ843 35 k).toInt ≤ 3 := (jrr_fr (jnp 35 eσ843 (by decide)) (jrr_fr (jnp 35 eσ842 (by decide)) (jrr_fr (jnp 35 eσ841 (by decide)) (jrr_fr (jnp 35 eσ840 (by decide)) (jrr_fr (jnp 35 eσ839 (by decide)) w10)))))
          have w851 : ∀ k : Nat, k < 1024 → 0 ≤ (σ843 36 k).toInt ∧ (σ843 36 k).toInt ≤ 349 := (jrr_fr (jnp 36 eσ843 (by decide)) (jrr_fr (jnp 36 eσ842 (by decide)) (jrr_fr (jnp 36 eσ841 (by decide)) (jrr_fr (jnp 36 eσ840 (by decide)) (jrr_fr (jnp 36 eσ839 (by decide)) w11)))))
          have I852 : jI31 σ843 := ⟨(by omega), (by omega), (by omega), (by omega), w849, w850, w851⟩
          refine jcallV (As := [.int a1, .int 0]) (rest := []) ⟨hx, hb, hml, hown, hts⟩ hK hP hA hS hZ (c_X1_add_31 l D cI cL ad zz hJ σ843 τ a1 (A1) t1 0 (0) jz_0 I852 p845 p846 (by omega) (by omega)) cw_RX1_111 (jc_31 cI cL ad σ843 τ) rfl ⟨Nat.le_of_ble_eq_true rfl, Nat.le_of_ble_eq_true rfl⟩ rfl rfl rfl hl.1 rfl (Nat.le_of_ble_eq_true rfl) dX1_grow_92 ⟨Nat.zero_le _, Nat.zero_le _⟩ (fun r854 σ853 τ853 H locs h853 hP hS => ?_)
          obtain ⟨rfl, f855, f856, I857, p858, p859, w860, h853⟩ := h853
          obtain ⟨i862, i863, i864, i865, w866, w867, w868⟩ : (0 ≤ (σ853 31 8).toInt ∧ (σ853 31 8).toInt ≤ 350) ∧ (0 ≤ (σ853 31 10).toInt ∧ (σ853 31 10).toInt ≤ 12) ∧ (0 ≤ (σ853 31 11).toInt ∧ (σ853 31 11).toInt ≤ 8) ∧ ((σ853 31 10).toInt + (σ853 31 11).toInt ≤ 12) ∧ (∀ k : Nat, k < 1400 → (-1) ≤ (σ853 33 k).toInt ∧ (σ853 33 k).toInt ≤ 350) ∧ (∀ k : Nat, k < 3159 → (-1) ≤ (σ853 35 k).toInt ∧ (σ853 35 k).toInt ≤ 3) ∧ (∀ k : Nat, k < 1024 → 0 ≤ (σ853 36 k).toInt ∧ (σ853 36 k).toInt ≤ 349) := id I857
          have z869 : (σ853 31 10).toInt = A2 := ((congrArg Int32.toInt (show σ853 31 10 = a2 from ((f856 10 (by decide)).trans ((jkp 10 eσ843 (by decide)).trans ((jkp 10 eσ842 (by decide)).trans ((jkp 10 eσ841 (by decide)).trans (jsp eσ840))))))).trans t2)
          have z870 : (σ853 31 11).toInt = x16.toInt := (congrArg Int32.toInt (show σ853 31 11 = x16 from ((f856 11 (by decide)).trans ((jkp 11 eσ843 (by decide)).trans ((jkp 11 eσ842 (by decide)).trans (jsp eσ841))))))
          have h871 := h853
          obtain ⟨q873, k872⟩ := h871
          refine lv_pop hx hb dX1_grow_95 rfl ?_
          refine lv_iconst (v := 0) hx hb dX1_grow_96 (by decide) ?_
          refine lv_istore (lv' := [(5, .int 0), (4, .int 0), (3, .int x16), (0, .ref (ad 31)), (1, .int a1), (2, .int a2)]) hx hb dX1_grow_97 hl (by decide) rfl (fun ls hl => ?_)
          have lp874 : ∀ (n875 : Nat) (x876 : Int32) (σ880 : Nat → Nat → Int32) (H : Heap) (locs : List Loc) (ls : Array Slot), (-x876.toInt + 350 : Int) < n875 → 0 ≤ x876.toInt → x876.toInt ≤ 350 → (∀ i : Nat, (i < 31 ∨ 33 < i) ∧ (i < 36 ∨ 37 < i) → σ880 i = σ853 i) → (∀ k : Nat, (k < 8 ∨ 8 < k) → σ880 31 k = σ853 31 k) → jKb σ880 → jKh σ880 → jI31 σ880 → (jFm a1 → jqGo a1 (decide ((σ880 31 12).toInt ≠ 0)) (σ880 31 11).toInt (σ880 31 8).toInt (σ880 32) (σ880 33) x876.toInt 0) → jH D cI cL ad σ880 τ H → va_S (jA ad) s.heap H locs → lv_has ls 9 [(5, .int x876), (4, .int 0), (3, .int x16), (0, .ref (ad 31)), (1, .int a1), (2, .int a2)] → W p l e ({ frames := 3, cells := 0, slots := 0, locals := 73 }) s m args below meth c H locs 0 0 Q (F0 m 99 ls []) := by
            intro n875
            induction n875 with
            | zero => intro x876 σ880 H locs ls h882 h883 h884; exact absurd h882 (by omega)
            | succ n875 ihlp874 =>
              intro x876 σ880 H locs ls h882 h883 h884 f885 f886 p887 p888 p889 q890 hP hS hl
              obtain ⟨i891, i892, i893, i894, w895, w896, w897⟩ : (0 ≤ (σ880 31 8).toInt ∧ (σ880 31 8).toInt ≤ 350) ∧ (0 ≤ (σ880 31 10).toInt ∧ (σ880 31 10).toInt ≤ 12) ∧ (0 ≤ (σ880 31 11).toInt ∧ (σ880 31 11).toInt ≤ 8) ∧ ((σ880 31 10).toInt + (σ880 31 11).toInt ≤ 12) ∧ (∀ k : Nat, k < 1400 → (-1) ≤ (σ880 33 k).toInt ∧ (σ880 33 k).toInt ≤ 350) ∧ (∀ k : Nat, k < 3159 → (-1) ≤ (σ880 35 k).toInt ∧ (σ880 35 k).toInt ≤ 3) ∧ (∀ k : Nat, k < 1024 → 0 ≤ (σ880 36 k).toInt ∧ (σ880 36 k).toInt ≤ 349) := id p889
              have z898 : (σ880 31 10).toInt = A2 := ((congrArg Int32.toInt (show σ880 31 10 = a2 from ((f886 10 (by decide)).trans ((f856 10 (by decide)).trans ((jkp 10 eσ843 (by decide)).trans ((jkp 10 eσ842 (by decide)).trans ((jkp 10 eσ841 (by decide)).trans (jsp eσ840)))))))).trans t2)
              have z899 : (σ880 31 11).toInt = x16.toInt := (congrArg Int32.toInt (show σ880 31 11 = x16 from ((f886 11 (by decide)).trans ((f856 11 (by decide)).trans ((jkp 11 eσ843 (by decide)).trans ((jkp 11 eσ842 (by decide)).trans (jsp eσ841)))))))
              refine lv_iload hx hb dX1_grow_99 (lv_at hl 0 rfl) ?_
              refine lv_aload_n hx hb dX1_grow_101 rfl (lv_at hl 3 rfl) ?_
              refine va_get (D := D) hx hb hts inlX1 hown hK hP 31 (jc_31 cI cL ad σ880 τ) rfl 8 (by decide) (hts _ kw_27_22) (fun _ h9 => h9) rfl dX1_grow_102 ?_
              refine lv_icmp_ge (tgt := 202) hx hb dX1_grow_105 (by decide) (fun c900 => ?_) (fun c900 => ?_)
              · have kc900 := jle c900 rfl rfl
                have p901 : jKg σ880 := (show jFm (σ880 31 9) → _ from by rw [show σ880 31 9 = a1 from ((f886 9 (by decide)).trans ((f856 9 (by decide)).trans ((jkp 9 eσ843 (by decide)).trans ((jkp 9 eσ842 (by decide)).trans ((jkp 9 eσ841 (by decide)).trans ((jkp 9 eσ840 (by decide)).trans (jsp eσ839)))))))]; exact fun hm => (q890 hm).fin (by omega))
                exact hret σ880 τ _ _ _ _ ⟨rfl, (fun i hi => ((f885 i hi).trans ((f855 i (imp_86 i hi)).trans ((jnp i eσ843 (imp_87 i hi)).trans ((jnp i eσ842 (imp_87 i hi)).trans ((jnp i eσ841 (imp_87 i hi)).trans ((jnp i eσ840 (imp_87 i hi)).trans (jnp i eσ839 (imp_87 i hi))))))))), (fun i hi => ((f886 i (imp_88 i hi)).trans ((f856 i (imp_88 i hi)).trans ((jkp i eσ843 (imp_89 i hi)).trans ((jkp i eσ842 (imp_90 i hi)).trans ((jkp i eσ841 (imp_91 i hi)).trans ((jkp i eσ840 (imp_92 i hi)).trans (jkp i eσ839 (imp_93 i hi))))))))), p889, p887, p888, p901, trivial⟩ hP hS dX1_grow_202
              · have kc900 := jnle c900 rfl rfl
                refine lv_iload hx hb dX1_grow_108 (lv_at hl 0 rfl) ?_
                refine lv_sipush (v := 350) hx hb dX1_grow_110 (by decide) ?_
                refine lv_icmp_ge (tgt := 202) hx hb dX1_grow_113 (by decide) (fun c => absurd (jle c jz_350 rfl) (by omega)) (fun c902 => ?_)
                have kc902 := jnle c902 jz_350 rfl
                refine lv_aload_n hx hb dX1_grow_116 rfl (lv_at hl 3 rfl) ?_
                refine va_get (D := D) hx hb hts inlX1 hown hK hP 31 (jc_31 cI cL ad σ880 τ) rfl 2 (by decide) (hts _ kw_5_3) (fun _ h9 => h9) rfl dX1_grow_117 ?_
                refine lv_iload hx hb dX1_grow_120 (lv_at hl 0 rfl) ?_
                refine jald hx hb hK hP (jc_32 cI cL ad σ880 τ) (jin rfl (by omega) (by omega)) dX1_grow_122 ?_
                refine jtopr (y := (σ880 32 x876.toNatClampNeg)) rfl ?_
                refine lv_ldc (v := 134217727) hx hb hown (hts _ kw_28_10) dX1_grow_123 ?_
                refine lv_iand hx hb dX1_grow_125 ?_
                refine lv_topi (fun x903 ex903 => ?_)
                have gx903 := jrg (rfl : x903.toInt = x903.toInt)
                have g904 : 0 ≤ x903.toInt ∧ x903.toInt ≤ 134217727 := jmask ex903 27 (by decide) (by decide)
                refine lv_istore (lv' := [(6, .int x903), (5, .int x876), (4, .int 0), (3, .int x16), (0, .ref (ad 31)), (1, .int a1), (2, .int a2)]) hx hb dX1_grow_126 hl (by decide) rfl (fun ls hl => ?_)
                refine lv_aload_n hx hb dX1_grow_128 rfl (lv_at hl 4 rfl) ?_
                refine va_get (D := D) hx hb hts inlX1 hown hK hP 31 (jc_31 cI cL ad σ880 τ) rfl 2 (by decide) (hts _ kw_5_3) (fun _ h9 => h9) rfl dX1_grow_129 ?_
                refine lv_iload hx hb dX1_grow_132 (lv_at hl 1 rfl) ?_
                refine jald hx hb hK hP (jc_32 cI cL ad σ880 τ) (jin rfl (by omega) (by omega)) dX1_grow_134 ?_
                refine jtopr (y := (σ880 32 x876.toNatClampNeg)) rfl ?_
                refine lv_bipush (v := 27) hx hb dX1_grow_135 (by decide) ?_
                refine lv_ishr hx hb dX1_grow_137 ?_
                refine lv_topi (fun x905 ex905 => ?_)
                have gx905 := jrg (rfl : x905.toInt = x905.toInt)
                have k906 := jshr27 (x := x905) (k := (σ880 32 x876.toNatClampNeg)) (by rw [ex905])
                have k907 := p887 x876.toNatClampNeg (by rw [jnc (rfl : x876.toInt = x876.toInt)]; omega)
                refine lv_istore (lv' := [(7, .int x905), (6, .int x903), (5, .int x876), (4, .int 0), (3, .int x16), (0, .ref (ad 31)), (1, .int a1), (2, .int a2)]) hx hb dX1_grow_138 hl (by decide) rfl (fun ls hl => ?_)
                refine lv_iconst (v := 0) hx hb dX1_grow_140 (by decide) ?_
                refine lv_istore (lv' := [(8, .int 0), (7, .int x905), (6, .int x903), (5, .int x876), (4, .int 0), (3, .int x16), (0, .ref (ad 31)), (1, .int a1), (2, .int a2)]) hx hb dX1_grow_141 hl (by decide) rfl (fun ls hl => ?_)
                have lp908 : ∀ (n909 : Nat) (x910 : Int32) (σ911 : Nat → Nat → Int32) (H : Heap) (locs : List Loc) (ls : Array Slot), (-x910.toInt + 4 : Int) < n909 → 0 ≤ x910.toInt → x910.toInt ≤ 4 → (∀ i : Nat, (i < 31 ∨ 33 < i) ∧ (i < 36 ∨ 37 < i) → σ911 i = σ880 i) → (∀ k : Nat, (k < 8 ∨ 8 < k) → σ911 31 k = σ880 31 k) → jKb σ911 → jKh σ911 → jI31 σ911 → ((jFm a1 → jqGo a1 (decide ((σ911 31 12).toInt ≠ 0)) (σ911 31 11).toInt (σ911 31 8).toInt (σ911 32) (σ911 33) x876.toInt x910.toInt) ∧ jqNo (σ911 32 x876.toInt.toNat) x903 x905.toInt ∧ x876.toInt < (σ911 31 8).toInt) → jH D cI cL ad σ911 τ H → va_S (jA ad) s.heap H locs → lv_has ls 9 [(8, .int x910), (7, .int x905), (6, .int x903), (5, .int x876), (4, .int 0), (3, .int x16), (0, .ref (ad 31)), (1, .int a1), (2, .int a2)] → W p l e ({ frames := 3, cells := 0, slots := 0, locals := 73 }) s m args below meth c H locs 0 0 Q (F0 m 143 ls []) := by
                  intro n909
                  induction n909 with
                  | zero => intro x910 σ911 H locs ls h913 h914 h915; exact absurd h913 (by omega)
                  | succ n909 ihlp908 =>
                    intro x910 σ911 H locs ls h913 h914 h915 f916 f917 p918 p919 p920 q921 hP hS hl
                    obtain ⟨i922, i923, i924, i925, w926, w927, w928⟩ : (0 ≤ (σ911 31 8).toInt ∧ (σ911 31 8).toInt ≤ 350) ∧ (0 ≤ (σ911 31 10).toInt ∧ (σ911 31 10).toInt ≤ 12) ∧ (0 ≤ (σ911 31 11).toInt ∧ (σ911 31 11).toInt ≤ 8) ∧ ((σ911 31 10).toInt + (σ911 31 11).toInt ≤ 12) ∧ (∀ k : Nat, k < 1400 → (-1) ≤ (σ911 33 k).toInt ∧ (σ911 33 k).toInt ≤ 350) ∧ (∀ k : Nat, k < 3159 → (-1) ≤ (σ911 35 k).toInt ∧ (σ911 35 k).toInt ≤ 3) ∧ (∀ k : Nat, k < 1024 → 0 ≤ (σ911 36 k).toInt ∧ (σ911 36 k).toInt ≤ 349) := id p920
                    have z929 : (σ911 31 10).toInt = A2 := ((congrArg Int32.toInt (show σ911 31 10 = a2 from ((f917 10 (by decide)).trans ((f886 10 (by decide)).trans ((f856 10 (by decide)).trans ((jkp 10 eσ843 (by decide)).trans ((jkp 10 eσ842 (by decide)).trans ((jkp 10 eσ841 (by decide)).trans (jsp eσ840))))))))).trans t2)
                    have z930 : (σ911 31 11).toInt = x16.toInt := (congrArg Int32.toInt (show σ911 31 11 = x16 from ((f917 11 (by decide)).trans ((f886 11 (by decide)).trans ((f856 11 (by decide)).trans ((jkp 11 eσ843 (by decide)).trans ((jkp 11 eσ842 (by decide)).trans (jsp eσ841))))))))
                    refine lv_iload hx hb dX1_grow_143 (lv_at hl 0 rfl) ?_
                    refine lv_iconst (v := 4) hx hb dX1_grow_145 (by decide) ?_
                    refine lv_icmp_ge (tgt := 196) hx hb dX1_grow_146 (by decide) (fun c931 => ?_) (fun c931 => ?_)
                    · have kc931 := jle c931 jz_4 rfl
                      obtain ⟨x932, ex932⟩ : ∃ y : Int32, y = x876 + 1 := ⟨_, rfl⟩
                      have tx932 : x932.toInt = x876.toInt + 1 := (jadd ex932 rfl jz_1 (by omega) (by omega)).trans (by omega)
                      refine lv_iinc (v := x932) (lv' := [(5, .int x932), (8, .int x910), (7, .int x905), (6, .int x903), (4, .int 0), (3, .int x16), (0, .ref (ad 31)), (1, .int a1), (2, .int a2)]) hx hb dX1_grow_196 hl (k := 3) rfl (by rw [ex932]; rfl) (by decide) rfl (fun ls hl => ?_)
                      refine lv_goto (tgt := 99) hx hb dX1_grow_199 (by decide) ?_
                      exact ihlp874 x932 σ911 _ _ ls (by have h90 := tx932; omega) (by have h90 := tx932; omega) (by have h90 := tx932; omega) (fun i hi => ((f916 i hi).trans (f885 i hi))) (fun i hi => ((f917 i hi).trans (f886 i hi)))  p918 p919 p920 (fun hm => jqGo.row (q921.1 hm) (by omega) (by have h9 := tx932; omega) (by omega) q921.2.2) hP hS (lv_sub hl [0, 4, 5, 6, 7, 8] rfl)
                    · have kc931 := jnle c931 jz_4 rfl
                      refine lv_aload_n hx hb dX1_grow_149 rfl (lv_at hl 6 rfl) ?_
                      refine va_get (D := D) hx hb hts inlX1 hown hK hP 31 (jc_31 cI cL ad σ911 τ) rfl 3 (by decide) (hts _ kw_5_4) (fun _ h9 => h9) rfl dX1_grow_150 ?_
                      refine lv_iload hx hb dX1_grow_153 (lv_at hl 3 rfl) ?_
                      refine lv_iconst (v := 4) hx hb dX1_grow_155 (by decide) ?_
                      have g933 := jrg (rfl : x876.toInt = x876.toInt)
                      refine lv_imul hx hb dX1_grow_156 ?_
                      refine lv_topi (fun x934 ex934 => ?_)
                      have tx934 : x934.toInt = 4 * x876.toInt := (jmul ex934 rfl jz_4 (by omega) (by omega)).trans (by omega)
                      refine lv_iload hx hb dX1_grow_157 (lv_at hl 0 rfl) ?_
                      have g935 := jrg (rfl : x910.toInt = x910.toInt)
                      refine lv_iadd hx hb dX1_grow_159 ?_
                      refine lv_topi (fun x936 ex936 => ?_)
                      have tx936 : x936.toInt = 4 * x876.toInt + x910.toInt := (jadd ex936 tx934 rfl (by omega) (by omega)).trans (by omega)
                      refine lv_iload hx hb dX1_grow_160 (lv_at hl 2 rfl) ?_
                      refine lv_iload hx hb dX1_grow_162 (lv_at hl 0 rfl) ?_
                      refine jcallS (As := [.int x903, .int x910]) (rest := [.int x936, .ref (ad 33)]) ⟨hx, hb, hml, hown, hts⟩ hK hP hA hS hZ (c_X0_mayBowl l D cI cL ad zz hJ σ911 τ x903 (x903.toInt) rfl x910 (x910.toInt) rfl) cw_RX1_115 ⟨Nat.le_of_ble_eq_true rfl, Nat.le_of_ble_eq_true rfl⟩ rfl rfl rfl hl.1 rfl (Nat.le_of_ble_eq_true rfl) dX1_grow_164 ⟨Nat.zero_le _, Nat.zero_le _⟩ (fun r938 σ937 τ937 H locs h937 hP hS => ?_)
                      obtain ⟨⟨rfl, rfl⟩, w939, h937⟩ := h937
                      rcases h937 with h940 | h941
                      · obtain ⟨q943, k942⟩ := h940
                        have q943 := q943.symm
                        subst q943
                        refine lv_if_eq (tgt := 188) hx hb dX1_grow_167 (by decide) (fun c => absurd c (by decide)) (fun _ => ?_)
                        refine lv_aload_n hx hb dX1_grow_170 rfl (lv_at hl 6 rfl) ?_
                        refine lv_iload hx hb dX1_grow_171 (lv_at hl 2 rfl) ?_
                        refine lv_iload hx hb dX1_grow_173 (lv_at hl 0 rfl) ?_
                        refine jcallS (As := [.int x903, .int x910]) (rest := [.ref (ad 31), .int x936, .ref (ad 33)]) ⟨hx, hb, hml, hown, hts⟩ hK hP hA hS hZ (c_X0_after_r l D cI cL ad zz hJ σ911 τ x903 (x903.toInt) rfl x910 (x910.toInt) rfl (by omega)) cw_RX1_119 ⟨Nat.le_of_ble_eq_true rfl, Nat.le_of_ble_eq_true rfl⟩ rfl rfl rfl hl.1 rfl (Nat.le_of_ble_eq_true rfl) dX1_grow_175 ⟨Nat.zero_le _, Nat.zero_le _⟩ (fun r945 σ944 τ944 H locs h944 hP hS => ?_)
                        obtain ⟨⟨rfl, rfl⟩, w946, w947, h944⟩ := h944
                        have h948 := h944
                        obtain ⟨q950, k949⟩ := h948
                        refine lv_iload hx hb dX1_grow_178 (lv_at hl 1 rfl) ?_
                        refine lv_iconst (v := 1) hx hb dX1_grow_180 (by decide) ?_
                        have g951 := jrg (rfl : x905.toInt = x905.toInt)
                        refine lv_iadd hx hb dX1_grow_181 ?_
                        refine lv_topi (fun x952 ex952 => ?_)
                        have tx952 : x952.toInt = x905.toInt + 1 := (jadd ex952 rfl jz_1 (by omega) (by omega)).trans (by omega)
                        refine jcallV (As := [.int r945, .int x952]) (rest := [.int x936, .ref (ad 33)]) ⟨hx, hb, hml, hown, hts⟩ hK hP hA hS hZ (c_X1_add_31 l D cI cL ad zz hJ σ911 τ r945 (r945.toInt) rfl x952 (x905.toInt + 1) tx952 p920 p918 p919 (by omega) (by omega)) cw_RX1_111 (jc_31 cI cL ad σ911 τ) rfl ⟨Nat.le_of_ble_eq_true rfl, Nat.le_of_ble_eq_true rfl⟩ rfl rfl rfl hl.1 rfl (Nat.le_of_ble_eq_true rfl) dX1_grow_182 ⟨Nat.zero_le _, Nat.zero_le _⟩ (fun r954 σ953 τ953 H locs h953 hP hS => ?_)
                        obtain ⟨rfl, f955, f956, I957, p958, p959, w960, h953⟩ := h953
                        obtain ⟨i962, i963, i964, i965, w966, w967, w968⟩ : (0 ≤ (σ953 31 8).toInt ∧ (σ953 31 8).toInt ≤ 350) ∧ (0 ≤ (σ953 31 10).toInt ∧ (σ953 31 10).toInt ≤ 12) ∧ (0 ≤ (σ953 31 11).toInt ∧ (σ953 31 11).toInt ≤ 8) ∧ ((σ953 31 10).toInt + (σ953 31 11).toInt ≤ 12) ∧ (∀ k : Nat, k < 1400 → (-1) ≤ (σ953 33 k).toInt ∧ (σ953 33 k).toInt ≤ 350) ∧ (∀ k : Nat, k < 3159 → (-1) ≤ (σ953 35 k).toInt ∧ (σ953 35 k).toInt ≤ 3) ∧ (∀ k : Nat, k < 1024 → 0 ≤ (σ953 36 k).toInt ∧ (σ953 36 k).toInt ≤ 349) := id I957
                        have z969 : (σ953 31 10).toInt = A2 := ((congrArg Int32.toInt (show σ953 31 10 = a2 from ((f956 10 (by decide)).trans ((f917 10 (by decide)).trans ((f886 10 (by decide)).trans ((f856 10 (by decide)).trans ((jkp 10 eσ843 (by decide)).trans ((jkp 10 eσ842 (by decide)).trans ((jkp 10 eσ841 (by decide)).trans (jsp eσ840)))))))))).trans t2)
                        have z970 : (σ953 31 11).toInt = x16.toInt := (congrArg Int32.toInt (show σ953 31 11 = x16 from ((f956 11 (by decide)).trans ((f917 11 (by decide)).trans ((f886 11 (by decide)).trans ((f856 11 (by decide)).trans ((jkp 11 eσ843 (by decide)).trans ((jkp 11 eσ842 (by decide)).trans (jsp eσ841)))))))))
                        have h971 := h953
                        obtain ⟨q973, k972⟩ := h971
                        refine lv_goto (tgt := 189) hx hb dX1_grow_185 (by decide) ?_
                        refine jast hx hb hK hP hJ hA hS (jc_33 cI cL ad σ953 τ) (ja_33 cI cL ad σ953 τ _ _) (jin tx936 (by omega) (by omega)) dX1_grow_189 (fun σ974 H locs eσ974 hP hS => ?_)
                        obtain ⟨x975, ex975⟩ : ∃ y : Int32, y = x910 + 1 := ⟨_, rfl⟩
                        have tx975 : x975.toInt = x910.toInt + 1 := (jadd ex975 rfl jz_1 (by omega) (by omega)).trans (by omega)
                        refine lv_iinc (v := x975) (lv' := [(8, .int x975), (7, .int x905), (6, .int x903), (5, .int x876), (4, .int 0), (3, .int x16), (0, .ref (ad 31)), (1, .int a1), (2, .int a2)]) hx hb dX1_grow_190 hl (k := 0) rfl (by rw [ex975]; rfl) (by decide) rfl (fun ls hl => ?_)
                        refine lv_goto (tgt := 143) hx hb dX1_grow_193 (by decide) ?_
                        have p976 : jKb σ974 := jKb.fr (congrFun (jnp 31 eσ974 (by decide)) 8) (congrFun (jnp 31 eσ974 (by decide)) 11) (jnp 32 eσ974 (by decide)) p958
                        have p977 : jKh σ974 := jKh.fr (congrFun (jnp 31 eσ974 (by decide)) 8) (jnp 32 eσ974 (by decide)) (jnp 36 eσ974 (by decide)) (jnp 37 eσ974 (by decide)) p959
                        have z978 : (σ974 31 8).toInt = (σ953 31 8).toInt := (congrArg Int32.toInt (show σ974 31 8 = (σ953 31 8) from (congrFun (jnp 31 eσ974 (by decide)) 8)))
                        have z979 : (σ974 31 10).toInt = A2 := ((congrArg Int32.toInt (show σ974 31 10 = a2 from ((congrFun (jnp 31 eσ974 (by decide)) 10).trans ((f956 10 (by decide)).trans ((f917 10 (by decide)).trans ((f886 10 (by decide)).trans ((f856 10 (by decide)).trans ((jkp 10 eσ843 (by decide)).trans ((jkp 10 eσ842 (by decide)).trans ((jkp 10 eσ841 (by decide)).trans (jsp eσ840))))))))))).trans t2)
                        have z980 : (σ974 31 11).toInt = x16.toInt := (congrArg Int32.toInt (show σ974 31 11 = x16 from ((congrFun (jnp 31 eσ974 (by decide)) 11).trans ((f956 11 (by decide)).trans ((f917 11 (by decide)).trans ((f886 11 (by decide)).trans ((f856 11 (by decide)).trans ((jkp 11 eσ843 (by decide)).trans ((jkp 11 eσ842 (by decide)).trans (jsp eσ841))))))))))
                        have w981 : ∀ k : Nat, k < 1400 → (-1) ≤ (σ974 33 k).toInt ∧ (σ974 33 k).toInt ≤ 350 := (by rw [eσ974]; exact jrr_up w966 (by omega) (by omega))
                        have w982 : ∀ k : Nat, k < 3159 → (-1) ≤ (σ974 35 k).toInt ∧ (σ974 35 k).toInt ≤ 3 := (jrr_fr (jnp 35 eσ974 (by decide)) w967)
                        have w983 : ∀ k : Nat, k < 1024 → 0 ≤ (σ974 36 k).toInt ∧ (σ974 36 k).toInt ≤ 349 := (jrr_fr (jnp 36 eσ974 (by decide)) w968)
                        have I984 : jI31 σ974 := ⟨(by omega), (by omega), (by omega), (by omega), w981, w982, w983⟩
                        exact ihlp908 x975 σ974 _ _ ls (by have h90 := tx975; omega) (by have h90 := tx975; omega) (by have h90 := tx975; omega) (fun i hi => ((jnp i eσ974 (imp_94 i hi)).trans ((f955 i (imp_86 i hi)).trans (f916 i hi)))) (fun i hi => ((congrFun (jnp 31 eσ974 (by decide)) i).trans ((f956 i hi).trans (f917 i hi))))  p976 p977 I984 (by rw [show σ974 31 8 = σ953 31 8 from (congrFun (jnp 31 eσ974 (by decide)) 8), show σ974 32 = σ953 32 from (jnp 32 eσ974 (by decide)), show σ974 31 11 = σ911 31 11 from ((congrFun (jnp 31 eσ974 (by decide)) 11).trans (f956 11 (by decide))), show σ974 31 12 = σ911 31 12 from ((congrFun (jnp 31 eσ974 (by decide)) 12).trans (f956 12 (by decide)))]; exact ⟨(fun hm => jqGo.put (q921.1 hm) (by omega) (by omega) (by omega) (by omega) q921.2.1 ((jqMy_iff (by omega) (by omega)).mpr ((w939).elim (fun w => w.2) (fun w => absurd w.1 (by decide)))) (w947 (by omega) (by omega)) w960 (by omega) p919 (by omega) (by rw [eσ974, jup_row, f955 33 (by decide), jnc (show x936.toInt = 4 * x876.toInt + x910.toInt by have h9 := tx936; omega)]) rfl (by have h9 := tx975; omega)), (by rw [(w960).1 x876.toInt.toNat (by omega)]; exact q921.2.1), (by have w8 := jqAd.le w960; have w9 := q921.2.2; omega)⟩) hP hS (lv_sub hl [0, 1, 2, 3, 4, 5, 6, 7, 8] rfl)
                      · obtain ⟨q986, k985⟩ := h941
                        have q986 := q986.symm
                        subst q986
                        refine lv_if_eq (tgt := 188) hx hb dX1_grow_167 (by decide) (fun _ => ?_) (fun c => absurd (by decide) c)
                        refine lv_iconst (v := (-1)) hx hb dX1_grow_188 (by decide) ?_
                        refine jast hx hb hK hP hJ hA hS (jc_33 cI cL ad σ911 τ) (ja_33 cI cL ad σ911 τ _ _) (jin tx936 (by omega) (by omega)) dX1_grow_189 (fun σ987 H locs eσ987 hP hS => ?_)
                        obtain ⟨x988, ex988⟩ : ∃ y : Int32, y = x910 + 1 := ⟨_, rfl⟩
                        have tx988 : x988.toInt = x910.toInt + 1 := (jadd ex988 rfl jz_1 (by omega) (by omega)).trans (by omega)
                        refine lv_iinc (v := x988) (lv' := [(8, .int x988), (7, .int x905), (6, .int x903), (5, .int x876), (4, .int 0), (3, .int x16), (0, .ref (ad 31)), (1, .int a1), (2, .int a2)]) hx hb dX1_grow_190 hl (k := 0) rfl (by rw [ex988]; rfl) (by decide) rfl (fun ls hl => ?_)
                        refine lv_goto (tgt := 143) hx hb dX1_grow_193 (by decide) ?_
                        have p989 : jKb σ987 := jKb.fr (congrFun (jnp 31 eσ987 (by decide)) 8) (congrFun (jnp 31 eσ987 (by decide)) 11) (jnp 32 eσ987 (by decide)) p918
                        have p990 : jKh σ987 := jKh.fr (congrFun (jnp 31 eσ987 (by decide)) 8) (jnp 32 eσ987 (by decide)) (jnp 36 eσ987 (by decide)) (jnp 37 eσ987 (by decide)) p919
                        have z991 : (σ987 31 8).toInt = (σ911 31 8).toInt := (congrArg Int32.toInt (show σ987 31 8 = (σ911 31 8) from (congrFun (jnp 31 eσ987 (by decide)) 8)))
                        have z992 : (σ987 31 10).toInt = A2 := ((congrArg Int32.toInt (show σ987 31 10 = a2 from ((congrFun (jnp 31 eσ987 (by decide)) 10).trans ((f917 10 (by decide)).trans ((f886 10 (by decide)).trans ((f856 10 (by decide)).trans ((jkp 10 eσ843 (by decide)).trans ((jkp 10 eσ842 (by decide)).trans ((jkp 10 eσ841 (by decide)).trans (jsp eσ840)))))))))).trans t2)
                        have z993 : (σ987 31 11).toInt = x16.toInt := (congrArg Int32.toInt (show σ987 31 11 = x16 from ((congrFun (jnp 31 eσ987 (by decide)) 11).trans ((f917 11 (by decide)).trans ((f886 11 (by decide)).trans ((f856 11 (by decide)).trans ((jkp 11 eσ843 (by decide)).trans ((jkp 11 eσ842 (by decide)).trans (jsp eσ841)))))))))
                        have w994 : ∀ k : Nat, k < 1400 → (-1) ≤ (σ987 33 k).toInt ∧ (σ987 33 k).toInt ≤ 350 := (by rw [eσ987]; exact jrr_up w926 (by have h9 := jz_m1; omega) (by have h9 := jz_m1; omega))
                        have w995 : ∀ k : Nat, k < 3159 → (-1) ≤ (σ987 35 k).toInt ∧ (σ987 35 k).toInt ≤ 3 := (jrr_fr (jnp 35 eσ987 (by decide)) w927)
                        have w996 : ∀ k : Nat, k < 1024 → 0 ≤ (σ987 36 k).toInt ∧ (σ987 36 k).toInt ≤ 349 := (jrr_fr (jnp 36 eσ987 (by decide)) w928)
                        have I997 : jI31 σ987 := ⟨(by omega), (by omega), (by omega), (by omega), w994, w995, w996⟩
                        exact ihlp908 x988 σ987 _ _ ls (by have h90 := tx988; omega) (by have h90 := tx988; omega) (by have h90 := tx988; omega) (fun i hi => ((jnp i eσ987 (imp_94 i hi)).trans (f916 i hi))) (fun i hi => ((congrFun (jnp 31 eσ987 (by decide)) i).trans (f917 i hi)))  p989 p990 I997 (by rw [show σ987 31 8 = σ911 31 8 from (congrFun (jnp 31 eσ987 (by decide)) 8), show σ987 31 11 = σ911 31 11 from (congrFun (jnp 31 eσ987 (by decide)) 11), show σ987 31 12 = σ911 31 12 from (congrFun (jnp 31 eσ987 (by decide)) 12), show σ987 32 = σ911 32 from (jnp 32 eσ987 (by decide))]; exact ⟨(fun hm => jqGo.none (q921.1 hm) (by omega) (by omega) (by omega) (by omega) q921.2.1 (fun w => ((w939).elim (fun w => absurd w.1 (by decide)) (fun w => w.2)) ((jqMy_iff (by omega) (by omega)).mp w)) (by rw [eσ987, jup_row, jnc (show x936.toInt = 4 * x876.toInt + x910.toInt by have h9 := tx936; omega)]) (by decide) (by have h9 := tx988; omega)), q921.2.1, q921.2.2⟩) hP hS (lv_sub hl [0, 1, 2, 3, 4, 5, 6, 7, 8] rfl)
                exact lp908 1000000 0 σ880 _ _ ls (by have h90 := jz_0; omega) (by have h90 := jz_0; omega) (by have h90 := jz_0; omega) (fun _ _ => rfl) (fun _ _ => rfl)  p887 p888 p889 ⟨(by rw [show (0 : Int32).toInt = 0 from by decide]; exact q890), ⟨(by have w := jandm (x := (σ880 32 x876.toNatClampNeg)) (y := x903) (m := 134217727) (k := 27) (M := 134217728) (by rw [ex903]) rfl rfl (by decide); show (σ880 32 x876.toNatClampNeg).toInt = _; omega), ⟨by omega, by omega⟩, (by omega)⟩, by omega⟩ hP hS hl
          exact lp874 1000000 0 σ853 _ _ ls (by have h90 := jz_0; omega) (by have h90 := jz_0; omega) (by have h90 := jz_0; omega) (fun _ _ => rfl) (fun _ _ => rfl)  p858 p859 I857 (by rw [show σ853 31 11 = σ843 31 11 from (f856 11 (by decide)), show σ853 31 12 = σ843 31 12 from (f856 12 (by decide))]; exact (fun hm => jqGo.first hm (by have w := w860; rw [show (σ843 31 8).toInt = 0 from by omega] at w; exact w) rfl (by have h9 := jz_0; omega))) hP hS hl
        · have kc838 := jeq c838 rfl jz_0
          refine lv_aload_n hx hb dX1_grow_57 rfl (lv_at hl 2 rfl) ?_
          refine lv_iload_n hx hb dX1_grow_58 rfl (lv_at hl 4 rfl) ?_
          refine jput (ty := .int) hx hb hts inlX1 tyX1 tyX1_ok nmX1 hown hK hP hJ hA hS (jc_31 cI cL ad σ τ) rfl (k := 10) (by decide) (Nat.le_of_ble_eq_true rfl) (jp_31_10 cI cL ad σ τ a2) (hts _ kw_28_9) (fun _ h9 => h9) rfl (by decide +kernel) rfl rfl dX1_grow_59 (fun σ998 H locs eσ998 hP hS => ?_)
          have z999 : (σ998 31 8).toInt = (σ 31 8).toInt := (congrArg Int32.toInt (show σ998 31 8 = (σ 31 8) from (jkp 8 eσ998 (by decide))))
          have z1000 : (σ998 31 10).toInt = A2 := ((congrArg Int32.toInt (show σ998 31 10 = a2 from (jsp eσ998))).trans t2)
          have z1001 : (σ998 31 11).toInt = (σ 31 11).toInt := (congrArg Int32.toInt (show σ998 31 11 = (σ 31 11) from (jkp 11 eσ998 (by decide))))
          have w1002 : ∀ k : Nat, k < 1400 → (-1) ≤ (σ998 33 k).toInt ∧ (σ998 33 k).toInt ≤ 350 := (jrr_fr (jnp 33 eσ998 (by decide)) w9)
          have w1003 : ∀ k : Nat, k < 3159 → (-1) ≤ (σ998 35 k).toInt ∧ (σ998 35 k).toInt ≤ 3 := (jrr_fr (jnp 35 eσ998 (by decide)) w10)
          have w1004 : ∀ k : Nat, k < 1024 → 0 ≤ (σ998 36 k).toInt ∧ (σ998 36 k).toInt ≤ 349 := (jrr_fr (jnp 36 eσ998 (by decide)) w11)
          have I1005 : jI31 σ998 := ⟨(by omega), (by omega), (by omega), (by omega), w1002, w1003, w1004⟩
          have p1006 : jKb σ998 := jKb.fr (jkp 8 eσ998 (by decide)) (jkp 11 eσ998 (by decide)) (jnp 32 eσ998 (by decide)) hs_jKb
          have p1007 : jKh σ998 := jKh.fr (jkp 8 eσ998 (by decide)) (jnp 32 eσ998 (by decide)) (jnp 36 eσ998 (by decide)) (jnp 37 eσ998 (by decide)) hs_jKh
          have p1008 : jKg σ998 := jKg.fr (jkp 8 eσ998 (by decide)) (jkp 9 eσ998 (by decide)) (jkp 11 eσ998 (by decide)) (jkp 12 eσ998 (by decide)) (jnp 32 eσ998 (by decide)) (jnp 33 eσ998 (by decide)) hs_jKg
          exact hret σ998 τ _ _ _ _ ⟨rfl, (fun i hi => (jnp i eσ998 (imp_87 i hi))), (fun i hi => (jkp i eσ998 (imp_92 i hi))), I1005, p1006, p1007, p1008, trivial⟩ hP hS dX1_grow_62
set_option maxHeartbeats 4000000 in
set_option maxRecDepth 100000 in
theorem c_X1_judge_31 (l : Launch) (D : va_G) (cI cL : ClassId) (ad zz : Nat → Nat) (hJ : jD ad) (σ : Nat → Nat → Int32) (τ : Nat → Nat → Int64) (a1 : Int32) (A1 : Int) (t1 : a1.toInt = A1) (a3 : Int32) (A3 : Int) (t3 : a3.toInt = A3) (a4 : Int32) (A4 : Int) (t4 : a4.toInt = A4) (hI16 : jI16 σ) (hI22 : jI22 σ) (hI31 : jI31 σ) (hI26 : jI26 σ) (hs_jN67 : jN67 σ) (hs_jBl : jBl σ) (hs_jKb : jKb σ) (hp0 : 0 ≤ A1 ∧ A1 ≤ 349) (hp1 : A1 < (σ 31 8).toInt) (hp2 : 0 ≤ A3 ∧ A3 ≤ 12) : jMv l yX1_judge cX1_judge 18 none ({ frames := 3, cells := 0, slots := 0, locals := 76 }) D cI cL ad zz [.ref (ad 31), .int a1, .ref (ad 17), .int a3, .int a4] σ τ (fun σ' τ' => τ = τ' ∧ (∀ i : Nat, (i < 24 ∨ 25 < i) ∧ (i < 29 ∨ 30 < i) ∧ (i < 34 ∨ 35 < i) → σ' i = σ i) ∧ (jI31 σ') ∧ (jN67 σ') ∧ (jBl σ') ∧ (jKb σ') ∧ True) := by
  refine jMv.of hJ (by decide +kernel) rfl (Nat.le_of_ble_eq_true rfl) ?_
  intro p e s m args below meth c Q ls hC hret hl hP
  obtain ⟨hx, hb, hr, hml, hown, hts, hK, -, hlocks, hZ⟩ := hC
  have hown : s.vm.findClass RX1 = some m.cls := hown
  have hS : va_S (jA ad) s.heap s.heap [] := va_S.rf
  have hA : ∀ q, jA ad q → jA ad q := fun _ h => h
  have hl : lv_has ls 18 [(0, .ref (ad 31)), (1, .int a1), (2, .ref (ad 17)), (3, .int a3), (4, .int a4)] := hl
  have g1 := jrg t1
  have g3 := jrg t3
  have g4 := jrg t4
  obtain ⟨i1, i2, i3, w4⟩ : (1 ≤ (σ 16 0).toInt ∧ (σ 16 0).toInt ≤ 8) ∧ (1 ≤ (σ 16 1).toInt ∧ (σ 16 1).toInt ≤ 12) ∧ (0 ≤ (σ 16 2).toInt ∧ (σ 16 2).toInt ≤ 999) ∧ (∀ k : Nat, k < 8 → 0 ≤ (σ 17 k).toInt ∧ (σ 17 k).toInt ≤ 3) := id hI16
  obtain ⟨i5, i6, i7, i8, w9, w10, w11⟩ : (0 ≤ (σ 31 8).toInt ∧ (σ 31 8).toInt ≤ 350) ∧ (0 ≤ (σ 31 10).toInt ∧ (σ 31 10).toInt ≤ 12) ∧ (0 ≤ (σ 31 11).toInt ∧ (σ 31 11).toInt ≤ 8) ∧ ((σ 31 10).toInt + (σ 31 11).toInt ≤ 12) ∧ (∀ k : Nat, k < 1400 → (-1) ≤ (σ 33 k).toInt ∧ (σ 33 k).toInt ≤ 350) ∧ (∀ k : Nat, k < 3159 → (-1) ≤ (σ 35 k).toInt ∧ (σ 35 k).toInt ≤ 3) ∧ (∀ k : Nat, k < 1024 → 0 ≤ (σ 36 k).toInt ∧ (σ 36 k).toInt ≤ 349) := id hI31
  refine lv_aload_n hx hb dX1_judge_0 rfl (lv_at hl 0 rfl) ?_
  refine va_get (D := D) hx hb hts inlX1 hown hK hP 31 (jc_31 cI cL ad σ τ) rfl 2 (by decide) (hts _ kw_5_3) (fun _ h9 => h9) rfl dX1_judge_1 ?_
  refine lv_iload_n hx hb dX1_judge_4 rfl (lv_at hl 1 rfl) ?_
  refine jald hx hb hK hP (jc_32 cI cL ad σ τ) (jin t1 (by omega) (by omega)) dX1_judge_5 ?_
  refine jtopr (y := (σ 32 a1.toNatClampNeg)) rfl ?_
  refine lv_ldc (v := 134217727) hx hb hown (hts _ kw_28_10) dX1_judge_6 ?_
  refine lv_iand hx hb dX1_judge_8 ?_
  refine lv_topi (fun x12 ex12 => ?_)
  have gx12 := jrg (rfl : x12.toInt = x12.toInt)
  have g13 : 0 ≤ x12.toInt ∧ x12.toInt ≤ 134217727 := jmask ex12 27 (by decide) (by decide)
  refine lv_istore (lv' := [(5, .int x12), (0, .ref (ad 31)), (1, .int a1), (2, .ref (ad 17)), (3, .int a3), (4, .int a4)]) hx hb dX1_judge_9 hl (by decide) rfl (fun ls hl => ?_)
  refine lv_aload_n hx hb dX1_judge_11 rfl (lv_at hl 1 rfl) ?_
  refine va_get (D := D) hx hb hts inlX1 hown hK hP 31 (jc_31 cI cL ad σ τ) rfl 2 (by decide) (hts _ kw_5_3) (fun _ h9 => h9) rfl dX1_judge_12 ?_
  refine lv_iload_n hx hb dX1_judge_15 rfl (lv_at hl 2 rfl) ?_
  refine jald hx hb hK hP (jc_32 cI cL ad σ τ) (jin t1 (by omega) (by omega)) dX1_judge_16 ?_
  refine jtopr (y := (σ 32 a1.toNatClampNeg)) rfl ?_
  refine lv_bipush (v := 27) hx hb dX1_judge_17 (by decide) ?_
  refine lv_ishr hx hb dX1_judge_19 ?_
  refine lv_topi (fun x14 ex14 => ?_)
  have gx14 := jrg (rfl : x14.toInt = x14.toInt)
  have k15 := jshr27 (x := x14) (k := (σ 32 a1.toNatClampNeg)) (by rw [ex14])
  have k16 := hs_jKb a1.toNatClampNeg (by rw [jnc t1]; omega)
  refine lv_istore (lv' := [(6, .int x14), (5, .int x12), (0, .ref (ad 31)), (1, .int a1), (2, .ref (ad 17)), (3, .int a3), (4, .int a4)]) hx hb dX1_judge_20 hl (by decide) rfl (fun ls hl => ?_)
  refine lv_iload_n hx hb dX1_judge_22 rfl (lv_at hl 3 rfl) ?_
  refine lv_bipush (v := 9) hx hb dX1_judge_23 (by decide) ?_
  refine lv_imul hx hb dX1_judge_25 ?_
  refine lv_topi (fun x17 ex17 => ?_)
  have tx17 : x17.toInt = 9 * A1 := (jmul ex17 t1 jz_9 (by omega) (by omega)).trans (by omega)
  refine lv_istore (lv' := [(7, .int x17), (6, .int x14), (5, .int x12), (0, .ref (ad 31)), (1, .int a1), (2, .ref (ad 17)), (3, .int a3), (4, .int a4)]) hx hb dX1_judge_26 hl (by decide) rfl (fun ls hl => ?_)
  have lp18 : ∀ (x20 : Int32) (x21 : Int32) (H : Heap) (locs : List Loc) (ls : Array Slot), 0 ≤ x20.toInt → x20.toInt ≤ 12 → x21.toInt ≤ 7 → x20.toInt = A3 → x21.toInt ≤ A4 → x21.toInt ≤ A3 + x14.toInt + 1 → jH D cI cL ad σ τ H → va_S (jA ad) s.heap H locs → lv_has ls 18 [(7, .int x17), (6, .int x14), (5, .int x12), (0, .ref (ad 31)), (1, .int a1), (2, .ref (ad 17)), (3, .int a3), (4, .int a4), (8, .int x20), (9, .int x21)] → W p l e ({ frames := 3, cells := 0, slots := 0, locals := 76 }) s m args below meth c H locs 0 0 Q (F0 m 55 ls []) := by
    intro x20 x21 H locs ls h23 h24 h25 h26 h27 h28 hP hS hl
    have gx21 := jrg (rfl : x21.toInt = x21.toInt)
    refine lv_iload hx hb dX1_judge_55 (lv_at hl 8 rfl) ?_
    refine lv_istore (lv' := [(10, .int x20), (7, .int x17), (6, .int x14), (5, .int x12), (0, .ref (ad 31)), (1, .int a1), (2, .ref (ad 17)), (3, .int a3), (4, .int a4), (8, .int x20), (9, .int x21)]) hx hb dX1_judge_57 hl (by decide) rfl (fun ls hl => ?_)
    have lp30 : ∀ (n31 : Nat) (x32 : Int32) (σ33 : Nat → Nat → Int32) (H : Heap) (locs : List Loc) (ls : Array Slot), (-x32.toInt + 20 : Int) < n31 → 0 ≤ x32.toInt → x32.toInt ≤ 12 → (∀ i : Nat, (i < 34 ∨ 35 < i) → σ33 i = σ i) → jI31 σ33 → jH D cI cL ad σ33 τ H → va_S (jA ad) s.heap H locs → lv_has ls 18 [(10, .int x32), (7, .int x17), (6, .int x14), (5, .int x12), (0, .ref (ad 31)), (1, .int a1), (2, .ref (ad 17)), (3, .int a3), (4, .int a4), (8, .int x20), (9, .int x21)] → W p l e ({ frames := 3, cells := 0, slots := 0, locals := 76 }) s m args below meth c H locs 0 0 Q (F0 m 59 ls []) := by
      intro n31
      induction n31 with
      | zero => intro x32 σ33 H locs ls h35 h36 h37; exact absurd h35 (by omega)
      | succ n31 ihlp30 =>
        intro x32 σ33 H locs ls h35 h36 h37 f38 p39 hP hS hl
        obtain ⟨i40, i41, i42, i43, w44, w45, w46⟩ : (0 ≤ (σ33 31 8).toInt ∧ (σ33 31 8).toInt ≤ 350) ∧ (0 ≤ (σ33 31 10).toInt ∧ (σ33 31 10).toInt ≤ 12) ∧ (0 ≤ (σ33 31 11).toInt ∧ (σ33 31 11).toInt ≤ 8) ∧ ((σ33 31 10).toInt + (σ33 31 11).toInt ≤ 12) ∧ (∀ k : Nat, k < 1400 → (-1) ≤ (σ33 33 k).toInt ∧ (σ33 33 k).toInt ≤ 350) ∧ (∀ k : Nat, k < 3159 → (-1) ≤ (σ33 35 k).toInt ∧ (σ33 35 k).toInt ≤ 3) ∧ (∀ k : Nat, k < 1024 → 0 ≤ (σ33 36 k).toInt ∧ (σ33 36 k).toInt ≤ 349) := id p39
        have z47 : (σ33 31 8).toInt = (σ 31 8).toInt := (congrArg Int32.toInt (show σ33 31 8 = (σ 31 8) from (congrFun (f38 31 (by decide)) 8)))
        have z48 : (σ33 31 10).toInt = (σ 31 10).toInt := (congrArg Int32.toInt (show σ33 31 10 = (σ 31 10) from (congrFun (f38 31 (by decide)) 10)))
        have z49 : (σ33 31 11).toInt = (σ 31 11).toInt := (congrArg Int32.toInt (show σ33 31 11 = (σ 31 11) from (congrFun (f38 31 (by decide)) 11)))
        refine lv_iload hx hb dX1_judge_59 (lv_at hl 0 rfl) ?_
        refine lv_iload hx hb dX1_judge_61 (lv_at hl 10 rfl) ?_
        refine lv_icmp_gt (tgt := 94) hx hb dX1_judge_63 (by decide) (fun c50 => ?_) (fun c50 => ?_)
        · have kc50 := jlt c50 rfl rfl
          refine lv_aload_n hx hb dX1_judge_94 rfl (lv_at hl 4 rfl) ?_
          refine va_get (D := D) hx hb hts inlX1 hown hK hP 31 (jc_31 cI cL ad σ33 τ) rfl 4 (by decide) (hts _ kw_5_5) (fun _ h9 => h9) rfl dX1_judge_95 ?_
          refine lv_iload hx hb dX1_judge_98 (lv_at hl 1 rfl) ?_
          refine lv_aload_n hx hb dX1_judge_100 rfl (lv_at hl 4 rfl) ?_
          refine va_get (D := D) hx hb hts inlX1 hown hK hP 31 (jc_31 cI cL ad σ33 τ) rfl 1 (by decide) (hts _ kw_5_11) (fun _ h9 => h9) rfl dX1_judge_101 ?_
          refine va_get (D := D) hx hb hts inlX6 hown hK hP 16 (jc_16 cI cL ad σ33 τ) rfl 0 (by decide) (hts _ kw_27_17) (fun _ h9 => h9) rfl dX1_judge_104 ?_
          have m51 : σ33 16 0 = (σ 16 0) := (congrFun (f38 16 (by decide)) 0)
          refine jtopr m51 ?_
          have g52 := jrg (rfl : (σ 16 0).toInt = (σ 16 0).toInt)
          refine lv_iadd hx hb dX1_judge_107 ?_
          refine lv_topi (fun x53 ex53 => ?_)
          have tx53 : x53.toInt = 9 * A1 + (σ 16 0).toInt := (jadd ex53 tx17 rfl (by omega) (by omega)).trans (by omega)
          refine lv_iconst (v := 0) hx hb dX1_judge_108 (by decide) ?_
          refine jast hx hb hK hP hJ hA hS (jc_34 cI cL ad σ33 τ) (ja_34 cI cL ad σ33 τ _ _) (jin tx53 (by omega) (by omega)) dX1_judge_109 (fun σ54 H locs eσ54 hP hS => ?_)
          refine lv_iconst (v := 0) hx hb dX1_judge_110 (by decide) ?_
          refine lv_istore (lv' := [(10, .int 0), (7, .int x17), (6, .int x14), (5, .int x12), (0, .ref (ad 31)), (1, .int a1), (2, .ref (ad 17)), (3, .int a3), (4, .int a4), (8, .int x20), (9, .int x21)]) hx hb dX1_judge_111 hl (by decide) rfl (fun ls hl => ?_)
          have I66 : jI31 σ54 := jI31_fr (congrFun (jnp 31 eσ54 (by decide)) 8) (congrFun (jnp 31 eσ54 (by decide)) 10) (congrFun (jnp 31 eσ54 (by decide)) 11) (jnp 33 eσ54 (by decide)) (jnp 35 eσ54 (by decide)) (jnp 36 eσ54 (by decide)) p39
          have p68 : jN67 σ54 := jN67.fr ((jnp 24 eσ54 (by decide)).trans (f38 24 (by decide))) hs_jN67
          have p69 : jBl σ54 := jBl.fr ((congrFun (jnp 22 eσ54 (by decide)) 0).trans (congrFun (f38 22 (by decide)) 0)) ((congrFun (jnp 22 eσ54 (by decide)) 1).trans (congrFun (f38 22 (by decide)) 1)) ((jnp 23 eσ54 (by decide)).trans (f38 23 (by decide))) ((congrFun (jnp 26 eσ54 (by decide)) 6).trans (congrFun (f38 26 (by decide)) 6)) ((congrFun (jnp 26 eσ54 (by decide)) 7).trans (congrFun (f38 26 (by decide)) 7)) ((jnp 29 eσ54 (by decide)).trans (f38 29 (by decide))) ((jnp 30 eσ54 (by decide)).trans (f38 30 (by decide))) hs_jBl
          have lp55 : ∀ (n56 : Nat) (x57 : Int32) (σ65 : Nat → Nat → Int32) (H : Heap) (locs : List Loc) (ls : Array Slot), (-x57.toInt + 4 : Int) < n56 → 0 ≤ x57.toInt → x57.toInt ≤ 4 → (∀ i : Nat, (i < 24 ∨ 25 < i) ∧ (i < 29 ∨ 30 < i) ∧ (i < 34 ∨ 35 < i) → σ65 i = σ54 i) → jN67 σ65 → jBl σ65 → jI31 σ65 → jH D cI cL ad σ65 τ H → va_S (jA ad) s.heap H locs → lv_has ls 18 [(10, .int x57), (7, .int x17), (6, .int x14), (5, .int x12), (0, .ref (ad 31)), (1, .int a1), (2, .ref (ad 17)), (3, .int a3), (4, .int a4), (8, .int x20), (9, .int x21)] → W p l e ({ frames := 3, cells := 0, slots := 0, locals := 76 }) s m args below meth c H locs 0 0 Q (F0 m 113 ls []) := by
            intro n56
            induction n56 with
            | zero => intro x57 σ65 H locs ls h70 h71 h72; exact absurd h70 (by omega)
            | succ n56 ihlp55 =>
              intro x57 σ65 H locs ls h70 h71 h72 f73 p74 p75 p76 hP hS hl
              obtain ⟨i77, i78, i79, i80, w81, w82, w83⟩ : (0 ≤ (σ65 31 8).toInt ∧ (σ65 31 8).toInt ≤ 350) ∧ (0 ≤ (σ65 31 10).toInt ∧ (σ65 31 10).toInt ≤ 12) ∧ (0 ≤ (σ65 31 11).toInt ∧ (σ65 31 11).toInt ≤ 8) ∧ ((σ65 31 10).toInt + (σ65 31 11).toInt ≤ 12) ∧ (∀ k : Nat, k < 1400 → (-1) ≤ (σ65 33 k).toInt ∧ (σ65 33 k).toInt ≤ 350) ∧ (∀ k : Nat, k < 3159 → (-1) ≤ (σ65 35 k).toInt ∧ (σ65 35 k).toInt ≤ 3) ∧ (∀ k : Nat, k < 1024 → 0 ≤ (σ65 36 k).toInt ∧ (σ65 36 k).toInt ≤ 349) := id p76
              have z84 : (σ65 31 8).toInt = (σ 31 8).toInt := (congrArg Int32.toInt (show σ65 31 8 = (σ 31 8) from ((congrFun (f73 31 (by decide)) 8).trans ((congrFun (jnp 31 eσ54 (by decide)) 8).trans (congrFun (f38 31 (by decide)) 8)))))
              have z85 : (σ65 31 10).toInt = (σ 31 10).toInt := (congrArg Int32.toInt (show σ65 31 10 = (σ 31 10) from ((congrFun (f73 31 (by decide)) 10).trans ((congrFun (jnp 31 eσ54 (by decide)) 10).trans (congrFun (f38 31 (by decide)) 10)))))
              have z86 : (σ65 31 11).toInt = (σ 31 11).toInt := (congrArg Int32.toInt (show σ65 31 11 = (σ 31 11) from ((congrFun (f73 31 (by decide)) 11).trans ((congrFun (jnp 31 eσ54 (by decide)) 11).trans (congrFun (f38 31 (by decide)) 11)))))
              refine lv_iload hx hb dX1_judge_113 (lv_at hl 0 rfl) ?_
              refine lv_iconst (v := 4) hx hb dX1_judge_115 (by decide) ?_
              refine lv_icmp_ge (tgt := 316) hx hb dX1_judge_116 (by decide) (fun c87 => ?_) (fun c87 => ?_)
              · have kc87 := jle c87 jz_4 rfl
                have p88 : jKb σ65 := jKb.fr ((congrFun (f73 31 (by decide)) 8).trans ((congrFun (jnp 31 eσ54 (by decide)) 8).trans (congrFun (f38 31 (by decide)) 8))) ((congrFun (f73 31 (by decide)) 11).trans ((congrFun (jnp 31 eσ54 (by decide)) 11).trans (congrFun (f38 31 (by decide)) 11))) ((f73 32 (by decide)).trans ((jnp 32 eσ54 (by decide)).trans (f38 32 (by decide)))) hs_jKb
                exact hret σ65 τ _ _ _ _ ⟨rfl, (fun i hi => ((f73 i hi).trans ((jnp i eσ54 (imp_95 i hi)).trans (f38 i (imp_96 i hi))))), p76, p74, p75, p88, trivial⟩ hP hS dX1_judge_316
              · have kc87 := jnle c87 jz_4 rfl
                refine lv_aload_n hx hb dX1_judge_119 rfl (lv_at hl 4 rfl) ?_
                refine va_get (D := D) hx hb hts inlX1 hown hK hP 31 (jc_31 cI cL ad σ65 τ) rfl 3 (by decide) (hts _ kw_5_4) (fun _ h9 => h9) rfl dX1_judge_120 ?_
                refine lv_iload_n hx hb dX1_judge_123 rfl (lv_at hl 5 rfl) ?_
                refine lv_iconst (v := 4) hx hb dX1_judge_124 (by decide) ?_
                refine lv_imul hx hb dX1_judge_125 ?_
                refine lv_topi (fun x89 ex89 => ?_)
                have tx89 : x89.toInt = 4 * A1 := (jmul ex89 t1 jz_4 (by omega) (by omega)).trans (by omega)
                refine lv_iload hx hb dX1_judge_126 (lv_at hl 0 rfl) ?_
                have g90 := jrg (rfl : x57.toInt = x57.toInt)
                refine lv_iadd hx hb dX1_judge_128 ?_
                refine lv_topi (fun x91 ex91 => ?_)
                have tx91 : x91.toInt = 4 * A1 + x57.toInt := (jadd ex91 tx89 rfl (by omega) (by omega)).trans (by omega)
                refine jald hx hb hK hP (jc_33 cI cL ad σ65 τ) (jin tx91 (by omega) (by omega)) dX1_judge_129 ?_
                have g92 := w81 _ (jnat (x := x91) tx91 (n := 1400) (by omega) (by decide))
                refine jtopr (y := (σ 33 x91.toNatClampNeg)) (by rw [f73 33 (by decide), jnp 33 eσ54 (by decide), f38 33 (by decide)]) ?_
                rw [f73 33 (by decide), jnp 33 eσ54 (by decide), f38 33 (by decide)] at g92
                refine lv_bipush (v := 9) hx hb dX1_judge_130 (by decide) ?_
                have g93 := jrg (rfl : (σ 33 x91.toNatClampNeg).toInt = (σ 33 x91.toNatClampNeg).toInt)
                refine lv_imul hx hb dX1_judge_132 ?_
                refine lv_topi (fun x94 ex94 => ?_)
                have tx94 : x94.toInt = 9 * (σ 33 x91.toNatClampNeg).toInt := (jmul ex94 rfl jz_9 (by omega) (by omega)).trans (by omega)
                refine lv_istore (lv' := [(11, .int x94), (10, .int x57), (7, .int x17), (6, .int x14), (5, .int x12), (0, .ref (ad 31)), (1, .int a1), (2, .ref (ad 17)), (3, .int a3), (4, .int a4), (8, .int x20), (9, .int x21)]) hx hb dX1_judge_133 hl (by decide) rfl (fun ls hl => ?_)
                refine lv_iload hx hb dX1_judge_135 (lv_at hl 0 rfl) ?_
                refine lv_if_ge (tgt := 143) hx hb dX1_judge_137 (by decide) (fun c95 => ?_) (fun c95 => ?_)
                · have kc95 := jle c95 jz_0 tx94
                  refine lv_iload hx hb dX1_judge_143 (lv_at hl 4 rfl) ?_
                  refine lv_iload hx hb dX1_judge_145 (lv_at hl 1 rfl) ?_
                  refine jcallS (As := [.int x12, .int x57]) (rest := []) ⟨hx, hb, hml, hown, hts⟩ hK hP hA hS hZ (c_X0_steps l D cI cL ad zz hJ σ65 τ x12 (x12.toInt) rfl x57 (x57.toInt) rfl) cw_RX1_136 ⟨Nat.le_of_ble_eq_true rfl, Nat.le_of_ble_eq_true rfl⟩ rfl rfl rfl hl.1 rfl (Nat.le_of_ble_eq_true rfl) dX1_judge_147 ⟨Nat.zero_le _, Nat.zero_le _⟩ (fun r97 σ96 τ96 H locs h96 hP hS => ?_)
                  obtain ⟨⟨rfl, rfl⟩, w98, h96⟩ := h96
                  have k99 := congrArg Int32.toInt w98
                  have h100 := h96
                  obtain ⟨q102, k101⟩ := h100
                  refine lv_istore (lv' := [(12, .int r97), (11, .int x94), (10, .int x57), (7, .int x17), (6, .int x14), (5, .int x12), (0, .ref (ad 31)), (1, .int a1), (2, .ref (ad 17)), (3, .int a3), (4, .int a4), (8, .int x20), (9, .int x21)]) hx hb dX1_judge_150 hl (by decide) rfl (fun ls hl => ?_)
                  refine lv_iload hx hb dX1_judge_152 (lv_at hl 5 rfl) ?_
                  refine lv_iload hx hb dX1_judge_154 (lv_at hl 2 rfl) ?_
                  refine jcallS (As := [.int x12, .int x57]) (rest := []) ⟨hx, hb, hml, hown, hts⟩ hK hP hA hS hZ (c_X0_left l D cI cL ad zz hJ σ65 τ x12 (x12.toInt) rfl x57 (x57.toInt) rfl) cw_RX1_123 ⟨Nat.le_of_ble_eq_true rfl, Nat.le_of_ble_eq_true rfl⟩ rfl rfl rfl hl.1 rfl (Nat.le_of_ble_eq_true rfl) dX1_judge_156 ⟨Nat.zero_le _, Nat.zero_le _⟩ (fun r104 σ103 τ103 H locs h103 hP hS => ?_)
                  obtain ⟨⟨rfl, rfl⟩, w105, h103⟩ := h103
                  have k106 := congrArg Int32.toInt w105
                  have h107 := h103
                  obtain ⟨q109, k108⟩ := h107
                  refine lv_istore (lv' := [(13, .int r104), (12, .int r97), (11, .int x94), (10, .int x57), (7, .int x17), (6, .int x14), (5, .int x12), (0, .ref (ad 31)), (1, .int a1), (2, .ref (ad 17)), (3, .int a3), (4, .int a4), (8, .int x20), (9, .int x21)]) hx hb dX1_judge_159 hl (by decide) rfl (fun ls hl => ?_)
                  refine lv_iload hx hb dX1_judge_161 (lv_at hl 12 rfl) ?_
                  refine lv_istore (lv' := [(14, .int x20), (13, .int r104), (12, .int r97), (11, .int x94), (10, .int x57), (7, .int x17), (6, .int x14), (5, .int x12), (0, .ref (ad 31)), (1, .int a1), (2, .ref (ad 17)), (3, .int a3), (4, .int a4), (8, .int x20), (9, .int x21)]) hx hb dX1_judge_163 hl (by decide) rfl (fun ls hl => ?_)
                  have lp110 : ∀ (n111 : Nat) (x112 : Int32) (σ116 : Nat → Nat → Int32) (H : Heap) (locs : List Loc) (ls : Array Slot), (-x112.toInt + 20 : Int) < n111 → 0 ≤ x112.toInt → x112.toInt ≤ 12 → (∀ i : Nat, (i < 24 ∨ 25 < i) ∧ (i < 29 ∨ 30 < i) ∧ (i < 34 ∨ 35 < i) → σ116 i = σ65 i) → jN67 σ116 → jBl σ116 → jI31 σ116 → jH D cI cL ad σ116 τ H → va_S (jA ad) s.heap H locs → lv_has ls 18 [(14, .int x112), (13, .int r104), (12, .int r97), (11, .int x94), (10, .int x57), (7, .int x17), (6, .int x14), (5, .int x12), (0, .ref (ad 31)), (1, .int a1), (2, .ref (ad 17)), (3, .int a3), (4, .int a4), (8, .int x20), (9, .int x21)] → W p l e ({ frames := 3, cells := 0, slots := 0, locals := 76 }) s m args below meth c H locs 0 0 Q (F0 m 165 ls []) := by
                    intro n111
                    induction n111 with
                    | zero => intro x112 σ116 H locs ls h118 h119 h120; exact absurd h118 (by omega)
                    | succ n111 ihlp110 =>
                      intro x112 σ116 H locs ls h118 h119 h120 f121 p122 p123 p124 hP hS hl
                      obtain ⟨i125, i126, i127, i128, w129, w130, w131⟩ : (0 ≤ (σ116 31 8).toInt ∧ (σ116 31 8).toInt ≤ 350) ∧ (0 ≤ (σ116 31 10).toInt ∧ (σ116 31 10).toInt ≤ 12) ∧ (0 ≤ (σ116 31 11).toInt ∧ (σ116 31 11).toInt ≤ 8) ∧ ((σ116 31 10).toInt + (σ116 31 11).toInt ≤ 12) ∧ (∀ k : Nat, k < 1400 → (-1) ≤ (σ116 33 k).toInt ∧ (σ116 33 k).toInt ≤ 350) ∧ (∀ k : Nat, k < 3159 → (-1) ≤ (σ116 35 k).toInt ∧ (σ116 35 k).toInt ≤ 3) ∧ (∀ k : Nat, k < 1024 → 0 ≤ (σ116 36 k).toInt ∧ (σ116 36 k).toInt ≤ 349) := id p124
                      have z132 : (σ116 31 8).toInt = (σ 31 8).toInt := (congrArg Int32.toInt (show σ116 31 8 = (σ 31 8) from ((congrFun (f121 31 (by decide)) 8).trans ((congrFun (f73 31 (by decide)) 8).trans ((congrFun (jnp 31 eσ54 (by decide)) 8).trans (congrFun (f38 31 (by decide)) 8))))))
                      have z133 : (σ116 31 10).toInt = (σ 31 10).toInt := (congrArg Int32.toInt (show σ116 31 10 = (σ 31 10) from ((congrFun (f121 31 (by decide)) 10).trans ((congrFun (f73 31 (by decide)) 10).trans ((congrFun (jnp 31 eσ54 (by decide)) 10).trans (congrFun (f38 31 (by decide)) 10))))))
                      have z134 : (σ116 31 11).toInt = (σ 31 11).toInt := (congrArg Int32.toInt (show σ116 31 11 = (σ 31 11) from ((congrFun (f121 31 (by decide)) 11).trans ((congrFun (f73 31 (by decide)) 11).trans ((congrFun (jnp 31 eσ54 (by decide)) 11).trans (congrFun (f38 31 (by decide)) 11))))))
                      refine lv_iload hx hb dX1_judge_165 (lv_at hl 0 rfl) ?_
                      refine lv_iload hx hb dX1_judge_167 (lv_at hl 14 rfl) ?_
                      refine lv_icmp_gt (tgt := 310) hx hb dX1_judge_169 (by decide) (fun c135 => ?_) (fun c135 => ?_)
                      · have kc135 := jlt c135 rfl rfl
                        obtain ⟨x136, ex136⟩ : ∃ y : Int32, y = x57 + 1 := ⟨_, rfl⟩
                        have tx136 : x136.toInt = x57.toInt + 1 := (jadd ex136 rfl jz_1 (by omega) (by omega)).trans (by omega)
                        refine lv_iinc (v := x136) (lv' := [(10, .int x136), (14, .int x112), (13, .int r104), (12, .int r97), (11, .int x94), (7, .int x17), (6, .int x14), (5, .int x12), (0, .ref (ad 31)), (1, .int a1), (2, .ref (ad 17)), (3, .int a3), (4, .int a4), (8, .int x20), (9, .int x21)]) hx hb dX1_judge_310 hl (k := 4) rfl (by rw [ex136]; rfl) (by decide) rfl (fun ls hl => ?_)
                        refine lv_goto (tgt := 113) hx hb dX1_judge_313 (by decide) ?_
                        exact ihlp55 x136 σ116 _ _ ls (by have h90 := tx136; omega) (by have h90 := tx136; omega) (by have h90 := tx136; omega) (fun i hi => ((f121 i hi).trans (f73 i hi)))   p122 p123 p124 hP hS (lv_sub hl [0, 5, 6, 7, 8, 9, 10, 11, 12, 13, 14] rfl)
                      · have kc135 := jnlt c135 rfl rfl
                        refine lv_aload_n hx hb dX1_judge_172 rfl (lv_at hl 8 rfl) ?_
                        refine va_get (D := D) hx hb hts inlX1 hown hK hP 31 (jc_31 cI cL ad σ116 τ) rfl 0 (by decide) (hts _ kw_5_10) (fun _ h9 => h9) rfl dX1_judge_173 ?_
                        refine lv_iload hx hb dX1_judge_176 (lv_at hl 4 rfl) ?_
                        refine lv_aload_n hx hb dX1_judge_178 rfl (lv_at hl 10 rfl) ?_
                        refine lv_iload hx hb dX1_judge_179 (lv_at hl 0 rfl) ?_
                        refine jald hx hb hK hP (jc_17 cI cL ad σ116 τ) (jin rfl (by omega) (by omega)) dX1_judge_181 ?_
                        have w137 : ∀ k : Nat, k < 8 → 0 ≤ (σ116 17 k).toInt ∧ (σ116 17 k).toInt ≤ 3 := (jrr_fr (f121 17 (by decide)) (jrr_fr (f73 17 (by decide)) (jrr_fr (jnp 17 eσ54 (by decide)) (jrr_fr (f38 17 (by decide)) w4))))
                        have g138 := w137 _ (jnat (x := x112) rfl (n := 8) (by omega) (by decide))
                        refine jtopr (y := (σ 17 x112.toNatClampNeg)) (by rw [f121 17 (by decide), f73 17 (by decide), jnp 17 eσ54 (by decide), f38 17 (by decide)]) ?_
                        rw [f121 17 (by decide), f73 17 (by decide), jnp 17 eσ54 (by decide), f38 17 (by decide)] at g138
                        refine lv_iload hx hb dX1_judge_182 (lv_at hl 2 rfl) ?_
                        refine jcallV (As := [.int x57, .int (σ 17 x112.toNatClampNeg), .int r97]) (rest := []) ⟨hx, hb, hml, hown, hts⟩ hK hP hA hS hZ (c_X5_runsOf_26 l D cI cL ad zz hJ σ116 τ x57 (x57.toInt) rfl (σ 17 x112.toNatClampNeg) ((σ 17 x112.toNatClampNeg).toInt) rfl r97 (r97.toInt) rfl (by omega) (by omega) (by omega)) cw_RX1_139 (jc_26 cI cL ad σ116 τ) rfl ⟨Nat.le_of_ble_eq_true rfl, Nat.le_of_ble_eq_true rfl⟩ rfl rfl rfl hl.1 rfl (Nat.le_of_ble_eq_true rfl) dX1_judge_184 ⟨Nat.zero_le _, Nat.zero_le _⟩ (fun r140 σ139 τ139 H locs h139 hP hS => ?_)
                        obtain ⟨⟨rfl, rfl⟩, w141, h139⟩ := h139
                        refine lv_istore (lv' := [(15, .int r140), (14, .int x112), (13, .int r104), (12, .int r97), (11, .int x94), (10, .int x57), (7, .int x17), (6, .int x14), (5, .int x12), (0, .ref (ad 31)), (1, .int a1), (2, .ref (ad 17)), (3, .int a3), (4, .int a4), (8, .int x20), (9, .int x21)]) hx hb dX1_judge_187 hl (by decide) rfl (fun ls hl => ?_)
                        refine lv_aload_n hx hb dX1_judge_189 rfl (lv_at hl 9 rfl) ?_
                        refine va_get (D := D) hx hb hts inlX1 hown hK hP 31 (jc_31 cI cL ad σ116 τ) rfl 0 (by decide) (hts _ kw_5_10) (fun _ h9 => h9) rfl dX1_judge_190 ?_
                        refine lv_iload hx hb dX1_judge_193 (lv_at hl 5 rfl) ?_
                        refine lv_aload_n hx hb dX1_judge_195 rfl (lv_at hl 11 rfl) ?_
                        refine lv_iload hx hb dX1_judge_196 (lv_at hl 1 rfl) ?_
                        refine jald hx hb hK hP (jc_17 cI cL ad σ116 τ) (jin rfl (by omega) (by omega)) dX1_judge_198 ?_
                        refine jtopr (y := (σ 17 x112.toNatClampNeg)) (by rw [f121 17 (by decide), f73 17 (by decide), jnp 17 eσ54 (by decide), f38 17 (by decide)]) ?_
                        refine lv_iload hx hb dX1_judge_199 (lv_at hl 3 rfl) ?_
                        refine lv_iload hx hb dX1_judge_201 (lv_at hl 2 rfl) ?_
                        refine lv_aload_n hx hb dX1_judge_203 rfl (lv_at hl 9 rfl) ?_
                        refine va_get (D := D) hx hb hts inlX1 hown hK hP 31 (jc_31 cI cL ad σ116 τ) rfl 10 (by decide) (hts _ kw_28_9) (fun _ h9 => h9) rfl dX1_judge_204 ?_
                        have m142 : σ116 31 10 = (σ 31 10) := ((congrFun (f121 31 (by decide)) 10).trans ((congrFun (f73 31 (by decide)) 10).trans ((congrFun (jnp 31 eσ54 (by decide)) 10).trans (congrFun (f38 31 (by decide)) 10))))
                        refine jtopr m142 ?_
                        refine lv_iload hx hb dX1_judge_207 (lv_at hl 7 rfl) ?_
                        have g143 := jrg (rfl : (σ 31 10).toInt = (σ 31 10).toInt)
                        have g144 := jrg (rfl : x14.toInt = x14.toInt)
                        refine lv_iadd hx hb dX1_judge_209 ?_
                        refine lv_topi (fun x145 ex145 => ?_)
                        have tx145 : x145.toInt = (σ 31 10).toInt + x14.toInt := (jadd ex145 rfl rfl (by omega) (by omega)).trans (by omega)
                        refine lv_iload hx hb dX1_judge_210 (lv_at hl 1 rfl) ?_
                        have I146 : jI22 σ116 := jI22_fr ((congrFun (f121 22 (by decide)) 0).trans ((congrFun (f73 22 (by decide)) 0).trans ((congrFun (jnp 22 eσ54 (by decide)) 0).trans (congrFun (f38 22 (by decide)) 0)))) ((f121 23 (by decide)).trans ((f73 23 (by decide)).trans ((jnp 23 eσ54 (by decide)).trans (f38 23 (by decide))))) hI22
                        have I147 : jI26 σ116 := jI26_fr ((congrFun (f121 26 (by decide)) 6).trans ((congrFun (f73 26 (by decide)) 6).trans ((congrFun (jnp 26 eσ54 (by decide)) 6).trans (congrFun (f38 26 (by decide)) 6)))) hI26
                        refine jcallV (As := [.int x57, .int (σ 17 x112.toNatClampNeg), .int r97, .int r104, .int x145, .int x112]) (rest := []) ⟨hx, hb, hml, hown, hts⟩ hK hP hA hS hZ (c_X5_outOf_26 l D cI cL ad zz hJ σ116 τ x57 (x57.toInt) rfl (σ 17 x112.toNatClampNeg) ((σ 17 x112.toNatClampNeg).toInt) rfl r97 (r97.toInt) rfl r104 (r104.toInt) rfl x145 ((σ 31 10).toInt + x14.toInt) tx145 x112 (x112.toInt) rfl I146 I147 p122 p123 (by omega) (by omega) (by omega) (by omega) (by omega) (by omega)) cw_RX1_142 (jc_26 cI cL ad σ116 τ) rfl ⟨Nat.le_of_ble_eq_true rfl, Nat.le_of_ble_eq_true rfl⟩ rfl rfl rfl hl.1 rfl (Nat.le_of_ble_eq_true rfl) dX1_judge_212 ⟨Nat.zero_le _, Nat.zero_le _⟩ (fun r149 σ148 τ148 H locs h148 hP hS => ?_)
                        obtain ⟨rfl, f150, p151, p152, w153, h148⟩ := h148
                        refine lv_istore (lv' := [(16, .int r149), (15, .int r140), (14, .int x112), (13, .int r104), (12, .int r97), (11, .int x94), (10, .int x57), (7, .int x17), (6, .int x14), (5, .int x12), (0, .ref (ad 31)), (1, .int a1), (2, .ref (ad 17)), (3, .int a3), (4, .int a4), (8, .int x20), (9, .int x21)]) hx hb dX1_judge_215 hl (by decide) rfl (fun ls hl => ?_)
                        refine lv_aload_n hx hb dX1_judge_217 rfl (lv_at hl 10 rfl) ?_
                        refine va_get (D := D) hx hb hts inlX1 hown hK hP 31 (jc_31 cI cL ad σ148 τ) rfl 1 (by decide) (hts _ kw_5_11) (fun _ h9 => h9) rfl dX1_judge_218 ?_
                        refine lv_iload hx hb dX1_judge_221 (lv_at hl 1 rfl) ?_
                        refine lv_iload hx hb dX1_judge_223 (lv_at hl 0 rfl) ?_
                        refine lv_aload_n hx hb dX1_judge_225 rfl (lv_at hl 10 rfl) ?_
                        refine va_get (D := D) hx hb hts inlX1 hown hK hP 31 (jc_31 cI cL ad σ148 τ) rfl 4 (by decide) (hts _ kw_5_5) (fun _ h9 => h9) rfl dX1_judge_226 ?_
                        refine lv_iload hx hb dX1_judge_229 (lv_at hl 5 rfl) ?_
                        refine lv_iload hx hb dX1_judge_231 (lv_at hl 2 rfl) ?_
                        have g155 := jrg (rfl : x112.toInt = x112.toInt)
                        refine lv_iadd hx hb dX1_judge_233 ?_
                        refine lv_topi (fun x156 ex156 => ?_)
                        have tx156 : x156.toInt = 9 * (σ 33 x91.toNatClampNeg).toInt + x112.toInt := (jadd ex156 tx94 rfl (by omega) (by omega)).trans (by omega)
                        refine lv_iconst (v := 1) hx hb dX1_judge_234 (by decide) ?_
                        refine lv_iadd hx hb dX1_judge_235 ?_
                        refine lv_topi (fun x157 ex157 => ?_)
                        have tx157 : x157.toInt = 9 * (σ 33 x91.toNatClampNeg).toInt + x112.toInt + 1 := (jadd ex157 tx156 jz_1 (by omega) (by omega)).trans (by omega)
                        refine jald hx hb hK hP (jc_34 cI cL ad σ148 τ) (jin tx157 (by omega) (by omega)) dX1_judge_236 ?_
                        refine jtopr (y := (σ116 34 x157.toNatClampNeg)) (by rw [f150 34 (by decide)]) ?_
                        refine lv_aload_n hx hb dX1_judge_237 rfl (lv_at hl 10 rfl) ?_
                        refine va_get (D := D) hx hb hts inlX1 hown hK hP 31 (jc_31 cI cL ad σ148 τ) rfl 4 (by decide) (hts _ kw_5_5) (fun _ h9 => h9) rfl dX1_judge_238 ?_
                        refine lv_iload hx hb dX1_judge_241 (lv_at hl 5 rfl) ?_
                        refine lv_iload hx hb dX1_judge_243 (lv_at hl 2 rfl) ?_
                        refine lv_iadd hx hb dX1_judge_245 ?_
                        refine lv_topi (fun x158 ex158 => ?_)
                        have tx158 : x158.toInt = 9 * (σ 33 x91.toNatClampNeg).toInt + x112.toInt := (jadd ex158 tx94 rfl (by omega) (by omega)).trans (by omega)
                        refine jald hx hb hK hP (jc_34 cI cL ad σ148 τ) (jin tx158 (by omega) (by omega)) dX1_judge_246 ?_
                        refine jtopr (y := (σ116 34 x158.toNatClampNeg)) (by rw [f150 34 (by decide)]) ?_
                        refine jcallV (As := [.int r140, .int r149, .int (σ116 34 x157.toNatClampNeg), .int (σ116 34 x158.toNatClampNeg)]) (rest := []) ⟨hx, hb, hml, hown, hts⟩ hK hP hA hS hZ (c_X6_meanOf_16 l D cI cL ad zz hJ σ148 τ r140 (r140.toInt) rfl r149 (r149.toInt) rfl (σ116 34 x157.toNatClampNeg) ((σ116 34 x157.toNatClampNeg).toInt) rfl (σ116 34 x158.toNatClampNeg) ((σ116 34 x158.toNatClampNeg).toInt) rfl) cw_RX1_146 (jc_16 cI cL ad σ148 τ) rfl ⟨Nat.le_of_ble_eq_true rfl, Nat.le_of_ble_eq_true rfl⟩ rfl rfl rfl hl.1 rfl (Nat.le_of_ble_eq_true rfl) dX1_judge_247 ⟨Nat.zero_le _, Nat.zero_le _⟩ (fun r160 σ159 τ159 H locs h159 hP hS => ?_)
                        obtain ⟨⟨rfl, rfl⟩, w161, h159⟩ := h159
                        refine lv_istore (lv' := [(17, .int r160), (16, .int r149), (15, .int r140), (14, .int x112), (13, .int r104), (12, .int r97), (11, .int x94), (10, .int x57), (7, .int x17), (6, .int x14), (5, .int x12), (0, .ref (ad 31)), (1, .int a1), (2, .ref (ad 17)), (3, .int a3), (4, .int a4), (8, .int x20), (9, .int x21)]) hx hb dX1_judge_250 hl (by decide) rfl (fun ls hl => ?_)
                        refine lv_aload_n hx hb dX1_judge_252 rfl (lv_at hl 11 rfl) ?_
                        refine va_get (D := D) hx hb hts inlX1 hown hK hP 31 (jc_31 cI cL ad σ148 τ) rfl 5 (by decide) (hts _ kw_5_6) (fun _ h9 => h9) rfl dX1_judge_253 ?_
                        refine lv_iload hx hb dX1_judge_256 (lv_at hl 8 rfl) ?_
                        refine lv_iload hx hb dX1_judge_258 (lv_at hl 3 rfl) ?_
                        refine lv_iadd hx hb dX1_judge_260 ?_
                        refine lv_topi (fun x162 ex162 => ?_)
                        have tx162 : x162.toInt = 9 * A1 + x112.toInt := (jadd ex162 tx17 rfl (by omega) (by omega)).trans (by omega)
                        refine jald hx hb hK hP (jc_35 cI cL ad σ148 τ) (jin tx162 (by omega) (by omega)) dX1_judge_261 ?_
                        have w163 : ∀ k : Nat, k < 3159 → (-1) ≤ (σ148 35 k).toInt ∧ (σ148 35 k).toInt ≤ 3 := (jrr_fr (f150 35 (by decide)) w130)
                        have g164 := w163 _ (jnat (x := x162) tx162 (n := 3159) (by omega) (by decide))
                        refine jtopr (y := (σ116 35 x162.toNatClampNeg)) (by rw [f150 35 (by decide)]) ?_
                        rw [f150 35 (by decide)] at g164
                        refine lv_if_lt (tgt := 280) hx hb dX1_judge_262 (by decide) (fun c165 => ?_) (fun c165 => ?_)
                        · have kc165 := jlt c165 rfl jz_0
                          refine lv_aload_n hx hb dX1_judge_280 rfl (lv_at hl 11 rfl) ?_
                          refine va_get (D := D) hx hb hts inlX1 hown hK hP 31 (jc_31 cI cL ad σ148 τ) rfl 4 (by decide) (hts _ kw_5_5) (fun _ h9 => h9) rfl dX1_judge_281 ?_
                          refine lv_iload hx hb dX1_judge_284 (lv_at hl 8 rfl) ?_
                          refine lv_iload hx hb dX1_judge_286 (lv_at hl 3 rfl) ?_
                          refine lv_iadd hx hb dX1_judge_288 ?_
                          refine lv_topi (fun x166 ex166 => ?_)
                          have tx166 : x166.toInt = 9 * A1 + x112.toInt := (jadd ex166 tx17 rfl (by omega) (by omega)).trans (by omega)
                          refine lv_iload hx hb dX1_judge_289 (lv_at hl 0 rfl) ?_
                          refine jast hx hb hK hP hJ hA hS (jc_34 cI cL ad σ148 τ) (ja_34 cI cL ad σ148 τ _ _) (jin tx166 (by omega) (by omega)) dX1_judge_291 (fun σ167 H locs eσ167 hP hS => ?_)
                          refine lv_aload_n hx hb dX1_judge_292 rfl (lv_at hl 11 rfl) ?_
                          refine va_get (D := D) hx hb hts inlX1 hown hK hP 31 (jc_31 cI cL ad σ167 τ) rfl 5 (by decide) (hts _ kw_5_6) (fun _ h9 => h9) rfl dX1_judge_293 ?_
                          refine lv_iload hx hb dX1_judge_296 (lv_at hl 8 rfl) ?_
                          refine lv_iload hx hb dX1_judge_298 (lv_at hl 3 rfl) ?_
                          refine lv_iadd hx hb dX1_judge_300 ?_
                          refine lv_topi (fun x168 ex168 => ?_)
                          have tx168 : x168.toInt = 9 * A1 + x112.toInt := (jadd ex168 tx17 rfl (by omega) (by omega)).trans (by omega)
                          refine lv_iload hx hb dX1_judge_301 (lv_at hl 7 rfl) ?_
                          refine jast hx hb hK hP hJ hA hS (jc_35 cI cL ad σ167 τ) (ja_35 cI cL ad σ167 τ _ _) (jin tx168 (by omega) (by omega)) dX1_judge_303 (fun σ169 H locs eσ169 hP hS => ?_)
                          obtain ⟨x170, ex170⟩ : ∃ y : Int32, y = x112 + 1 := ⟨_, rfl⟩
                          have tx170 : x170.toInt = x112.toInt + 1 := (jadd ex170 rfl jz_1 (by omega) (by omega)).trans (by omega)
                          refine lv_iinc (v := x170) (lv' := [(14, .int x170), (17, .int r160), (16, .int r149), (15, .int r140), (13, .int r104), (12, .int r97), (11, .int x94), (10, .int x57), (7, .int x17), (6, .int x14), (5, .int x12), (0, .ref (ad 31)), (1, .int a1), (2, .ref (ad 17)), (3, .int a3), (4, .int a4), (8, .int x20), (9, .int x21)]) hx hb dX1_judge_304 hl (k := 3) rfl (by rw [ex170]; rfl) (by decide) rfl (fun ls hl => ?_)
                          refine lv_goto (tgt := 165) hx hb dX1_judge_307 (by decide) ?_
                          have p171 : jN67 σ169 := jN67.fr ((jnp 24 eσ169 (by decide)).trans (jnp 24 eσ167 (by decide))) p151
                          have p172 : jBl σ169 := jBl.fr ((congrFun (jnp 22 eσ169 (by decide)) 0).trans (congrFun (jnp 22 eσ167 (by decide)) 0)) ((congrFun (jnp 22 eσ169 (by decide)) 1).trans (congrFun (jnp 22 eσ167 (by decide)) 1)) ((jnp 23 eσ169 (by decide)).trans (jnp 23 eσ167 (by decide))) ((congrFun (jnp 26 eσ169 (by decide)) 6).trans (congrFun (jnp 26 eσ167 (by decide)) 6)) ((congrFun (jnp 26 eσ169 (by decide)) 7).trans (congrFun (jnp 26 eσ167 (by decide)) 7)) ((jnp 29 eσ169 (by decide)).trans (jnp 29 eσ167 (by decide))) ((jnp 30 eσ169 (by decide)).trans (jnp 30 eσ167 (by decide))) p152
                          have z173 : (σ169 31 8).toInt = (σ 31 8).toInt := (congrArg Int32.toInt (show σ169 31 8 = (σ 31 8) from ((congrFun (jnp 31 eσ169 (by decide)) 8).trans ((congrFun (jnp 31 eσ167 (by decide)) 8).trans ((congrFun (f150 31 (by decide)) 8).trans ((congrFun (f121 31 (by decide)) 8).trans ((congrFun (f73 31 (by decide)) 8).trans ((congrFun (jnp 31 eσ54 (by decide)) 8).trans (congrFun (f38 31 (by decide)) 8)))))))))
                          have z174 : (σ169 31 10).toInt = (σ 31 10).toInt := (congrArg Int32.toInt (show σ169 31 10 = (σ 31 10) from ((congrFun (jnp 31 eσ169 (by decide)) 10).trans ((congrFun (jnp 31 eσ167 (by decide)) 10).trans ((congrFun (f150 31 (by decide)) 10).trans m142)))))
                          have z175 : (σ169 31 11).toInt = (σ 31 11).toInt := (congrArg Int32.toInt (show σ169 31 11 = (σ 31 11) from ((congrFun (jnp 31 eσ169 (by decide)) 11).trans ((congrFun (jnp 31 eσ167 (by decide)) 11).trans ((congrFun (f150 31 (by decide)) 11).trans ((congrFun (f121 31 (by decide)) 11).trans ((congrFun (f73 31 (by decide)) 11).trans ((congrFun (jnp 31 eσ54 (by decide)) 11).trans (congrFun (f38 31 (by decide)) 11)))))))))
                          have w176 : ∀ k : Nat, k < 1400 → (-1) ≤ (σ169 33 k).toInt ∧ (σ169 33 k).toInt ≤ 350 := (jrr_fr (jnp 33 eσ169 (by decide)) (jrr_fr (jnp 33 eσ167 (by decide)) (jrr_fr (f150 33 (by decide)) w129)))
                          have w177 : ∀ k : Nat, k < 3159 → (-1) ≤ (σ169 35 k).toInt ∧ (σ169 35 k).toInt ≤ 3 := (by rw [eσ169]; exact jrr_up (jrr_fr (jnp 35 eσ167 (by decide)) w163) (by omega) (by omega))
                          have w178 : ∀ k : Nat, k < 1024 → 0 ≤ (σ169 36 k).toInt ∧ (σ169 36 k).toInt ≤ 349 := (jrr_fr (jnp 36 eσ169 (by decide)) (jrr_fr (jnp 36 eσ167 (by decide)) (jrr_fr (f150 36 (by decide)) w131)))
                          have I179 : jI31 σ169 := ⟨(by omega), (by omega), (by omega), (by omega), w176, w177, w178⟩
                          exact ihlp110 x170 σ169 _ _ ls (by have h90 := tx170; omega) (by have h90 := tx170; omega) (by have h90 := tx170; omega) (fun i hi => ((jnp i eσ169 (imp_97 i hi)).trans ((jnp i eσ167 (imp_95 i hi)).trans ((f150 i (imp_98 i hi)).trans (f121 i hi)))))   p171 p172 I179 hP hS (lv_sub hl [0, 4, 5, 6, 7, 8, 9, 10, 11, 12, 13, 14, 15, 16, 17] rfl)
                        · have kc165 := jnlt c165 rfl jz_0
                          refine lv_iload hx hb dX1_judge_265 (lv_at hl 0 rfl) ?_
                          refine lv_aload_n hx hb dX1_judge_267 rfl (lv_at hl 11 rfl) ?_
                          refine va_get (D := D) hx hb hts inlX1 hown hK hP 31 (jc_31 cI cL ad σ148 τ) rfl 4 (by decide) (hts _ kw_5_5) (fun _ h9 => h9) rfl dX1_judge_268 ?_
                          refine lv_iload hx hb dX1_judge_271 (lv_at hl 8 rfl) ?_
                          refine lv_iload hx hb dX1_judge_273 (lv_at hl 3 rfl) ?_
                          refine lv_iadd hx hb dX1_judge_275 ?_
                          refine lv_topi (fun x180 ex180 => ?_)
                          have tx180 : x180.toInt = 9 * A1 + x112.toInt := (jadd ex180 tx17 rfl (by omega) (by omega)).trans (by omega)
                          refine jald hx hb hK hP (jc_34 cI cL ad σ148 τ) (jin tx180 (by omega) (by omega)) dX1_judge_276 ?_
                          refine jtopr (y := (σ116 34 x180.toNatClampNeg)) (by rw [f150 34 (by decide)]) ?_
                          refine lv_icmp_ge (tgt := 304) hx hb dX1_judge_277 (by decide) (fun c181 => ?_) (fun c181 => ?_)
                          · have kc181 := jle c181 rfl rfl
                            obtain ⟨x182, ex182⟩ : ∃ y : Int32, y = x112 + 1 := ⟨_, rfl⟩
                            have tx182 : x182.toInt = x112.toInt + 1 := (jadd ex182 rfl jz_1 (by omega) (by omega)).trans (by omega)
                            refine lv_iinc (v := x182) (lv' := [(14, .int x182), (17, .int r160), (16, .int r149), (15, .int r140), (13, .int r104), (12, .int r97), (11, .int x94), (10, .int x57), (7, .int x17), (6, .int x14), (5, .int x12), (0, .ref (ad 31)), (1, .int a1), (2, .ref (ad 17)), (3, .int a3), (4, .int a4), (8, .int x20), (9, .int x21)]) hx hb dX1_judge_304 hl (k := 3) rfl (by rw [ex182]; rfl) (by decide) rfl (fun ls hl => ?_)
                            refine lv_goto (tgt := 165) hx hb dX1_judge_307 (by decide) ?_
                            have I183 : jI31 σ148 := jI31_fr (congrFun (f150 31 (by decide)) 8) (congrFun (f150 31 (by decide)) 10) (congrFun (f150 31 (by decide)) 11) (f150 33 (by decide)) (f150 35 (by decide)) (f150 36 (by decide)) p124
                            exact ihlp110 x182 σ148 _ _ ls (by have h90 := tx182; omega) (by have h90 := tx182; omega) (by have h90 := tx182; omega) (fun i hi => ((f150 i (imp_98 i hi)).trans (f121 i hi)))   p151 p152 I183 hP hS (lv_sub hl [0, 4, 5, 6, 7, 8, 9, 10, 11, 12, 13, 14, 15, 16, 17] rfl)
                          · have kc181 := jnle c181 rfl rfl
                            refine lv_aload_n hx hb dX1_judge_280 rfl (lv_at hl 11 rfl) ?_
                            refine va_get (D := D) hx hb hts inlX1 hown hK hP 31 (jc_31 cI cL ad σ148 τ) rfl 4 (by decide) (hts _ kw_5_5) (fun _ h9 => h9) rfl dX1_judge_281 ?_
                            refine lv_iload hx hb dX1_judge_284 (lv_at hl 8 rfl) ?_
                            refine lv_iload hx hb dX1_judge_286 (lv_at hl 3 rfl) ?_
                            refine lv_iadd hx hb dX1_judge_288 ?_
                            refine lv_topi (fun x184 ex184 => ?_)
                            have tx184 : x184.toInt = 9 * A1 + x112.toInt := (jadd ex184 tx17 rfl (by omega) (by omega)).trans (by omega)
                            refine lv_iload hx hb dX1_judge_289 (lv_at hl 0 rfl) ?_
                            refine jast hx hb hK hP hJ hA hS (jc_34 cI cL ad σ148 τ) (ja_34 cI cL ad σ148 τ _ _) (jin tx184 (by omega) (by omega)) dX1_judge_291 (fun σ185 H locs eσ185 hP hS => ?_)
                            refine lv_aload_n hx hb dX1_judge_292 rfl (lv_at hl 11 rfl) ?_
                            refine va_get (D := D) hx hb hts inlX1 hown hK hP 31 (jc_31 cI cL ad σ185 τ) rfl 5 (by decide) (hts _ kw_5_6) (fun _ h9 => h9) rfl dX1_judge_293 ?_
                            refine lv_iload hx hb dX1_judge_296 (lv_at hl 8 rfl) ?_
                            refine lv_iload hx hb dX1_judge_298 (lv_at hl 3 rfl) ?_
                            refine lv_iadd hx hb dX1_judge_300 ?_
                            refine lv_topi (fun x186 ex186 => ?_)
                            have tx186 : x186.toInt = 9 * A1 + x112.toInt := (jadd ex186 tx17 rfl (by omega) (by omega)).trans (by omega)
                            refine lv_iload hx hb dX1_judge_301 (lv_at hl 7 rfl) ?_
                            refine jast hx hb hK hP hJ hA hS (jc_35 cI cL ad σ185 τ) (ja_35 cI cL ad σ185 τ _ _) (jin tx186 (by omega) (by omega)) dX1_judge_303 (fun σ187 H locs eσ187 hP hS => ?_)
                            obtain ⟨x188, ex188⟩ : ∃ y : Int32, y = x112 + 1 := ⟨_, rfl⟩
                            have tx188 : x188.toInt = x112.toInt + 1 := (jadd ex188 rfl jz_1 (by omega) (by omega)).trans (by omega)
                            refine lv_iinc (v := x188) (lv' := [(14, .int x188), (17, .int r160), (16, .int r149), (15, .int r140), (13, .int r104), (12, .int r97), (11, .int x94), (10, .int x57), (7, .int x17), (6, .int x14), (5, .int x12), (0, .ref (ad 31)), (1, .int a1), (2, .ref (ad 17)), (3, .int a3), (4, .int a4), (8, .int x20), (9, .int x21)]) hx hb dX1_judge_304 hl (k := 3) rfl (by rw [ex188]; rfl) (by decide) rfl (fun ls hl => ?_)
                            refine lv_goto (tgt := 165) hx hb dX1_judge_307 (by decide) ?_
                            have p189 : jN67 σ187 := jN67.fr ((jnp 24 eσ187 (by decide)).trans (jnp 24 eσ185 (by decide))) p151
                            have p190 : jBl σ187 := jBl.fr ((congrFun (jnp 22 eσ187 (by decide)) 0).trans (congrFun (jnp 22 eσ185 (by decide)) 0)) ((congrFun (jnp 22 eσ187 (by decide)) 1).trans (congrFun (jnp 22 eσ185 (by decide)) 1)) ((jnp 23 eσ187 (by decide)).trans (jnp 23 eσ185 (by decide))) ((congrFun (jnp 26 eσ187 (by decide)) 6).trans (congrFun (jnp 26 eσ185 (by decide)) 6)) ((congrFun (jnp 26 eσ187 (by decide)) 7).trans (congrFun (jnp 26 eσ185 (by decide)) 7)) ((jnp 29 eσ187 (by decide)).trans (jnp 29 eσ185 (by decide))) ((jnp 30 eσ187 (by decide)).trans (jnp 30 eσ185 (by decide))) p152
                            have z191 : (σ187 31 8).toInt = (σ 31 8).toInt := (congrArg Int32.toInt (show σ187 31 8 = (σ 31 8) from ((congrFun (jnp 31 eσ187 (by decide)) 8).trans ((congrFun (jnp 31 eσ185 (by decide)) 8).trans ((congrFun (f150 31 (by decide)) 8).trans ((congrFun (f121 31 (by decide)) 8).trans ((congrFun (f73 31 (by decide)) 8).trans ((congrFun (jnp 31 eσ54 (by decide)) 8).trans (congrFun (f38 31 (by decide)) 8)))))))))
                            have z192 : (σ187 31 10).toInt = (σ 31 10).toInt := (congrArg Int32.toInt (show σ187 31 10 = (σ 31 10) from ((congrFun (jnp 31 eσ187 (by decide)) 10).trans ((congrFun (jnp 31 eσ185 (by decide)) 10).trans ((congrFun (f150 31 (by decide)) 10).trans m142)))))
                            have z193 : (σ187 31 11).toInt = (σ 31 11).toInt := (congrArg Int32.toInt (show σ187 31 11 = (σ 31 11) from ((congrFun (jnp 31 eσ187 (by decide)) 11).trans ((congrFun (jnp 31 eσ185 (by decide)) 11).trans ((congrFun (f150 31 (by decide)) 11).trans ((congrFun (f121 31 (by decide)) 11).trans ((congrFun (f73 31 (by decide)) 11).trans ((congrFun (jnp 31 eσ54 (by decide)) 11).trans (congrFun (f38 31 (by decide)) 11)))))))))
                            have w194 : ∀ k : Nat, k < 1400 → (-1) ≤ (σ187 33 k).toInt ∧ (σ187 33 k).toInt ≤ 350 := (jrr_fr (jnp 33 eσ187 (by decide)) (jrr_fr (jnp 33 eσ185 (by decide)) (jrr_fr (f150 33 (by decide)) w129)))
                            have w195 : ∀ k : Nat, k < 3159 → (-1) ≤ (σ187 35 k).toInt ∧ (σ187 35 k).toInt ≤ 3 := (by rw [eσ187]; exact jrr_up (jrr_fr (jnp 35 eσ185 (by decide)) w163) (by omega) (by omega))
                            have w196 : ∀ k : Nat, k < 1024 → 0 ≤ (σ187 36 k).toInt ∧ (σ187 36 k).toInt ≤ 349 := (jrr_fr (jnp 36 eσ187 (by decide)) (jrr_fr (jnp 36 eσ185 (by decide)) (jrr_fr (f150 36 (by decide)) w131)))
                            have I197 : jI31 σ187 := ⟨(by omega), (by omega), (by omega), (by omega), w194, w195, w196⟩
                            exact ihlp110 x188 σ187 _ _ ls (by have h90 := tx188; omega) (by have h90 := tx188; omega) (by have h90 := tx188; omega) (fun i hi => ((jnp i eσ187 (imp_97 i hi)).trans ((jnp i eσ185 (imp_95 i hi)).trans ((f150 i (imp_98 i hi)).trans (f121 i hi)))))   p189 p190 I197 hP hS (lv_sub hl [0, 4, 5, 6, 7, 8, 9, 10, 11, 12, 13, 14, 15, 16, 17] rfl)
                  exact lp110 1000000 x20 σ65 _ _ ls (by omega) (by omega) (by omega) (fun _ _ => rfl)  p74 p75 p76 hP hS hl
                · have kc95 := jnle c95 jz_0 tx94
                  refine lv_goto (tgt := 310) hx hb dX1_judge_140 (by decide) ?_
                  obtain ⟨x198, ex198⟩ : ∃ y : Int32, y = x57 + 1 := ⟨_, rfl⟩
                  have tx198 : x198.toInt = x57.toInt + 1 := (jadd ex198 rfl jz_1 (by omega) (by omega)).trans (by omega)
                  refine lv_iinc (v := x198) (lv' := [(10, .int x198), (11, .int x94), (7, .int x17), (6, .int x14), (5, .int x12), (0, .ref (ad 31)), (1, .int a1), (2, .ref (ad 17)), (3, .int a3), (4, .int a4), (8, .int x20), (9, .int x21)]) hx hb dX1_judge_310 hl (k := 1) rfl (by rw [ex198]; rfl) (by decide) rfl (fun ls hl => ?_)
                  refine lv_goto (tgt := 113) hx hb dX1_judge_313 (by decide) ?_
                  exact ihlp55 x198 σ65 _ _ ls (by have h90 := tx198; omega) (by have h90 := tx198; omega) (by have h90 := tx198; omega) (fun i hi => (f73 i hi))   p74 p75 p76 hP hS (lv_sub hl [0, 2, 3, 4, 5, 6, 7, 8, 9, 10, 11] rfl)
          exact lp55 1000000 0 σ54 _ _ ls (by have h90 := jz_0; omega) (by have h90 := jz_0; omega) (by have h90 := jz_0; omega) (fun _ _ => rfl)  p68 p69 I66 hP hS hl
        · have kc50 := jnlt c50 rfl rfl
          refine lv_aload_n hx hb dX1_judge_66 rfl (lv_at hl 4 rfl) ?_
          refine va_get (D := D) hx hb hts inlX1 hown hK hP 31 (jc_31 cI cL ad σ33 τ) rfl 4 (by decide) (hts _ kw_5_5) (fun _ h9 => h9) rfl dX1_judge_67 ?_
          refine lv_iload hx hb dX1_judge_70 (lv_at hl 1 rfl) ?_
          refine lv_iload hx hb dX1_judge_72 (lv_at hl 0 rfl) ?_
          have g199 := jrg (rfl : x32.toInt = x32.toInt)
          refine lv_iadd hx hb dX1_judge_74 ?_
          refine lv_topi (fun x200 ex200 => ?_)
          have tx200 : x200.toInt = 9 * A1 + x32.toInt := (jadd ex200 tx17 rfl (by omega) (by omega)).trans (by omega)
          refine lv_iconst (v := 0) hx hb dX1_judge_75 (by decide) ?_
          refine jast hx hb hK hP hJ hA hS (jc_34 cI cL ad σ33 τ) (ja_34 cI cL ad σ33 τ _ _) (jin tx200 (by omega) (by omega)) dX1_judge_76 (fun σ201 H locs eσ201 hP hS => ?_)
          refine lv_aload_n hx hb dX1_judge_77 rfl (lv_at hl 4 rfl) ?_
          refine va_get (D := D) hx hb hts inlX1 hown hK hP 31 (jc_31 cI cL ad σ201 τ) rfl 5 (by decide) (hts _ kw_5_6) (fun _ h9 => h9) rfl dX1_judge_78 ?_
          refine lv_iload hx hb dX1_judge_81 (lv_at hl 1 rfl) ?_
          refine lv_iload hx hb dX1_judge_83 (lv_at hl 0 rfl) ?_
          refine lv_iadd hx hb dX1_judge_85 ?_
          refine lv_topi (fun x202 ex202 => ?_)
          have tx202 : x202.toInt = 9 * A1 + x32.toInt := (jadd ex202 tx17 rfl (by omega) (by omega)).trans (by omega)
          refine lv_iconst (v := (-1)) hx hb dX1_judge_86 (by decide) ?_
          refine jast hx hb hK hP hJ hA hS (jc_35 cI cL ad σ201 τ) (ja_35 cI cL ad σ201 τ _ _) (jin tx202 (by omega) (by omega)) dX1_judge_87 (fun σ203 H locs eσ203 hP hS => ?_)
          obtain ⟨x204, ex204⟩ : ∃ y : Int32, y = x32 + 1 := ⟨_, rfl⟩
          have tx204 : x204.toInt = x32.toInt + 1 := (jadd ex204 rfl jz_1 (by omega) (by omega)).trans (by omega)
          refine lv_iinc (v := x204) (lv' := [(10, .int x204), (7, .int x17), (6, .int x14), (5, .int x12), (0, .ref (ad 31)), (1, .int a1), (2, .ref (ad 17)), (3, .int a3), (4, .int a4), (8, .int x20), (9, .int x21)]) hx hb dX1_judge_88 hl (k := 0) rfl (by rw [ex204]; rfl) (by decide) rfl (fun ls hl => ?_)
          refine lv_goto (tgt := 59) hx hb dX1_judge_91 (by decide) ?_
          have z205 : (σ203 31 8).toInt = (σ 31 8).toInt := (congrArg Int32.toInt (show σ203 31 8 = (σ 31 8) from ((congrFun (jnp 31 eσ203 (by decide)) 8).trans ((congrFun (jnp 31 eσ201 (by decide)) 8).trans (congrFun (f38 31 (by decide)) 8)))))
          have z206 : (σ203 31 10).toInt = (σ 31 10).toInt := (congrArg Int32.toInt (show σ203 31 10 = (σ 31 10) from ((congrFun (jnp 31 eσ203 (by decide)) 10).trans ((congrFun (jnp 31 eσ201 (by decide)) 10).trans (congrFun (f38 31 (by decide)) 10)))))
          have z207 : (σ203 31 11).toInt = (σ 31 11).toInt := (congrArg Int32.toInt (show σ203 31 11 = (σ 31 11) from ((congrFun (jnp 31 eσ203 (by decide)) 11).trans ((congrFun (jnp 31 eσ201 (by decide)) 11).trans (congrFun (f38 31 (by decide)) 11)))))
          have w208 : ∀ k : Nat, k < 1400 → (-1) ≤ (σ203 33 k).toInt ∧ (σ203 33 k).toInt ≤ 350 := (jrr_fr (jnp 33 eσ203 (by decide)) (jrr_fr (jnp 33 eσ201 (by decide)) w44))
          have w209 : ∀ k : Nat, k < 3159 → (-1) ≤ (σ203 35 k).toInt ∧ (σ203 35 k).toInt ≤ 3 := (by rw [eσ203]; exact jrr_up (jrr_fr (jnp 35 eσ201 (by decide)) w45) (by have h9 := jz_m1; omega) (by have h9 := jz_m1; omega))
          have w210 : ∀ k : Nat, k < 1024 → 0 ≤ (σ203 36 k).toInt ∧ (σ203 36 k).toInt ≤ 349 := (jrr_fr (jnp 36 eσ203 (by decide)) (jrr_fr (jnp 36 eσ201 (by decide)) w46))
          have I211 : jI31 σ203 := ⟨(by omega), (by omega), (by omega), (by omega), w208, w209, w210⟩
          exact ihlp30 x204 σ203 _ _ ls (by have h90 := tx204; omega) (by have h90 := tx204; omega) (by have h90 := tx204; omega) (fun i hi => ((jnp i eσ203 (imp_99 i hi)).trans ((jnp i eσ201 (imp_100 i hi)).trans (f38 i hi))))   I211 hP hS (lv_sub hl [0, 1, 2, 3, 4, 5, 6, 7, 8, 9, 10] rfl)
    exact lp30 1000000 x20 σ _ _ ls (by omega) (by omega) (by omega) (fun _ _ => rfl)  hI31 hP hS hl
  refine lv_iconst (v := 0) hx hb dX1_judge_28 (by decide) ?_
  refine lv_iload_n hx hb dX1_judge_29 rfl (lv_at hl 6 rfl) ?_
  refine va_mmax hx hb (hml.trans hl.1.symm) hown (hts _ kw_28_5) (hts _ kw_21_0) (hts _ kw_21_1) (hts _ kw_21_2) (Nat.le_of_ble_eq_true rfl) (Nat.le_of_ble_eq_true rfl) (Nat.le_of_ble_eq_true rfl) (Nat.le_of_ble_eq_true rfl) dX1_judge_30 ?_
  refine lv_topi (fun x212 ex212 => ?_)
  have g213 := jmax ex212 jz_0 t3
  refine lv_istore (lv' := [(8, .int x212), (7, .int x17), (6, .int x14), (5, .int x12), (0, .ref (ad 31)), (1, .int a1), (2, .ref (ad 17)), (3, .int a3), (4, .int a4)]) hx hb dX1_judge_33 hl (by decide) rfl (fun ls hl => ?_)
  refine lv_iload hx hb dX1_judge_35 (lv_at hl 8 rfl) ?_
  refine lv_aload_n hx hb dX1_judge_37 rfl (lv_at hl 6 rfl) ?_
  refine jalen (v := 8) hx hb hK hP (jc_17 cI cL ad σ τ) (by decide) dX1_judge_38 ?_
  refine lv_iconst (v := 1) hx hb dX1_judge_39 (by decide) ?_
  refine lv_isub hx hb dX1_judge_40 ?_
  refine jtopr (y := 7) (by decide) ?_
  refine va_mmin hx hb (hml.trans hl.1.symm) hown (hts _ kw_28_4) (hts _ kw_22_11) (hts _ kw_21_1) (hts _ kw_22_12) (Nat.le_of_ble_eq_true rfl) (Nat.le_of_ble_eq_true rfl) (Nat.le_of_ble_eq_true rfl) (Nat.le_of_ble_eq_true rfl) dX1_judge_41 ?_
  refine lv_topi (fun x214 ex214 => ?_)
  have g215 := jmin ex214 t4 jz_7
  refine lv_iload_n hx hb dX1_judge_44 rfl (lv_at hl 7 rfl) ?_
  refine lv_iconst (v := 1) hx hb dX1_judge_45 (by decide) ?_
  refine lv_iadd hx hb dX1_judge_46 ?_
  refine lv_topi (fun x216 ex216 => ?_)
  have tx216 : x216.toInt = A3 + 1 := (jadd ex216 t3 jz_1 (by omega) (by omega)).trans (by omega)
  refine lv_iload hx hb dX1_judge_47 (lv_at hl 2 rfl) ?_
  have g217 := jrg (rfl : x14.toInt = x14.toInt)
  refine lv_iadd hx hb dX1_judge_49 ?_
  refine lv_topi (fun x218 ex218 => ?_)
  have tx218 : x218.toInt = A3 + x14.toInt + 1 := (jadd ex218 tx216 rfl (by omega) (by omega)).trans (by omega)
  refine va_mmin hx hb (hml.trans hl.1.symm) hown (hts _ kw_28_4) (hts _ kw_22_11) (hts _ kw_21_1) (hts _ kw_22_12) (Nat.le_of_ble_eq_true rfl) (Nat.le_of_ble_eq_true rfl) (Nat.le_of_ble_eq_true rfl) (Nat.le_of_ble_eq_true rfl) dX1_judge_50 ?_
  refine lv_topi (fun x219 ex219 => ?_)
  have g220 := jmin ex219 rfl tx218
  refine lv_istore (lv' := [(9, .int x219), (8, .int x212), (7, .int x17), (6, .int x14), (5, .int x12), (0, .ref (ad 31)), (1, .int a1), (2, .ref (ad 17)), (3, .int a3), (4, .int a4)]) hx hb dX1_judge_53 hl (by decide) rfl (fun ls hl => ?_)
  exact lp18 x212 x219 _ _ ls (by omega) (by omega) (by omega) (by omega) (by omega) (by omega)    hP hS (lv_sub hl [2, 3, 4, 5, 6, 7, 8, 9, 1, 0] rfl)
set_option maxHeartbeats 4000000 in
set_option maxRecDepth 100000 in
theorem c_X1_seekFor_31 (l : Launch) (D : va_G) (cI cL : ClassId) (ad zz : Nat → Nat) (hJ : jD ad) (σ : Nat → Nat → Int32) (τ : Nat → Nat → Int64) (a2 : Int32) (A2 : Int) (t2 : a2.toInt = A2) (a3 : Int32) (A3 : Int) (t3 : a3.toInt = A3) (a4 : Int32) (A4 : Int) (t4 : a4.toInt = A4) (a5 : Int32) (A5 : Int) (t5 : a5.toInt = A5) (hI16 : jI16 σ) (hI22 : jI22 σ) (hI31 : jI31 σ) (hI26 : jI26 σ) (hs_jN67 : jN67 σ) (hs_jBl : jBl σ) (hs_jKb : jKb σ) (hs_jKh : jKh σ) (hs_jKg : jKg σ) (hp0 : 0 ≤ A2 ∧ A2 ≤ 134217727) (hp1 : 0 ≤ A3 ∧ A3 ≤ 12) (hp2 : 0 ≤ A4 ∧ A4 ≤ 12) : jMv l yX1_seekFor cX1_seekFor 7 none ({ frames := 4, cells := 0, slots := 0, locals := 113 }) D cI cL ad zz [.ref (ad 31), .ref (ad 17), .int a2, .int a3, .int a4, .int a5] σ τ (fun σ' τ' => τ = τ' ∧ (∀ i : Nat, (i < 24 ∨ 25 < i) ∧ (i < 29 ∨ 37 < i) → σ' i = σ i) ∧ (∀ k : Nat, (k < 8 ∨ 8 < k) ∧ (k < 9 ∨ 9 < k) ∧ (k < 10 ∨ 10 < k) ∧ (k < 11 ∨ 11 < k) ∧ (k < 12 ∨ 12 < k) → σ' 31 k = σ 31 k) ∧ (jI31 σ') ∧ (jN67 σ') ∧ (jBl σ') ∧ (jKb σ') ∧ (jKh σ') ∧ (jKg σ') ∧ True) := by
  refine jMv.of hJ (by decide +kernel) rfl (Nat.le_of_ble_eq_true rfl) ?_
  intro p e s m args below meth c Q ls hC hret hl hP
  obtain ⟨hx, hb, hr, hml, hown, hts, hK, -, hlocks, hZ⟩ := hC
  have hown : s.vm.findClass RX1 = some m.cls := hown
  have hS : va_S (jA ad) s.heap s.heap [] := va_S.rf
  have hA : ∀ q, jA ad q → jA ad q := fun _ h => h
  have hl : lv_has ls 7 [(0, .ref (ad 31)), (1, .ref (ad 17)), (2, .int a2), (3, .int a3), (4, .int a4), (5, .int a5)] := hl
  have g2 := jrg t2
  have g3 := jrg t3
  have g4 := jrg t4
  have g5 := jrg t5
  obtain ⟨i1, i2, i3, i4, w5, w6, w7⟩ : (0 ≤ (σ 31 8).toInt ∧ (σ 31 8).toInt ≤ 350) ∧ (0 ≤ (σ 31 10).toInt ∧ (σ 31 10).toInt ≤ 12) ∧ (0 ≤ (σ 31 11).toInt ∧ (σ 31 11).toInt ≤ 8) ∧ ((σ 31 10).toInt + (σ 31 11).toInt ≤ 12) ∧ (∀ k : Nat, k < 1400 → (-1) ≤ (σ 33 k).toInt ∧ (σ 33 k).toInt ≤ 350) ∧ (∀ k : Nat, k < 3159 → (-1) ≤ (σ 35 k).toInt ∧ (σ 35 k).toInt ≤ 3) ∧ (∀ k : Nat, k < 1024 → 0 ≤ (σ 36 k).toInt ∧ (σ 36 k).toInt ≤ 349) := id hI31
  refine lv_aload_n hx hb dX1_seekFor_0 rfl (lv_at hl 0 rfl) ?_
  refine lv_iload_n hx hb dX1_seekFor_1 rfl (lv_at hl 2 rfl) ?_
  refine lv_iload_n hx hb dX1_seekFor_2 rfl (lv_at hl 3 rfl) ?_
  refine jcallVv (As := [.int a2, .int a3]) (rest := []) ⟨hx, hb, hml, hown, hts⟩ hK hP hA hS hZ (c_X1_grow_31 l D cI cL ad zz hJ σ τ a2 (A2) t2 a3 (A3) t3 hI16 hI31 hs_jKb hs_jKh hs_jKg (by omega) (by omega)) cw_RX1_54 (jc_31 cI cL ad σ τ) rfl ⟨Nat.le_of_ble_eq_true rfl, Nat.le_of_ble_eq_true rfl⟩ rfl rfl rfl hl.1 rfl (Nat.le_of_ble_eq_true rfl) dX1_seekFor_3 ⟨Nat.zero_le _, Nat.zero_le _⟩ (fun σ8 τ8 H locs h8 hP hS => ?_)
  obtain ⟨rfl, f10, f11, I12, p13, p14, p15, h8⟩ := h8
  obtain ⟨i17, i18, i19, i20, w21, w22, w23⟩ : (0 ≤ (σ8 31 8).toInt ∧ (σ8 31 8).toInt ≤ 350) ∧ (0 ≤ (σ8 31 10).toInt ∧ (σ8 31 10).toInt ≤ 12) ∧ (0 ≤ (σ8 31 11).toInt ∧ (σ8 31 11).toInt ≤ 8) ∧ ((σ8 31 10).toInt + (σ8 31 11).toInt ≤ 12) ∧ (∀ k : Nat, k < 1400 → (-1) ≤ (σ8 33 k).toInt ∧ (σ8 33 k).toInt ≤ 350) ∧ (∀ k : Nat, k < 3159 → (-1) ≤ (σ8 35 k).toInt ∧ (σ8 35 k).toInt ≤ 3) ∧ (∀ k : Nat, k < 1024 → 0 ≤ (σ8 36 k).toInt ∧ (σ8 36 k).toInt ≤ 349) := id I12
  refine lv_aload_n hx hb dX1_seekFor_6 rfl (lv_at hl 0 rfl) ?_
  refine va_get (D := D) hx hb hts inlX1 hown hK hP 31 (jc_31 cI cL ad σ8 τ) rfl 8 (by decide) (hts _ kw_27_22) (fun _ h9 => h9) rfl dX1_seekFor_7 ?_
  refine lv_iconst (v := 1) hx hb dX1_seekFor_10 (by decide) ?_
  have g24 := jrg (rfl : (σ8 31 8).toInt = (σ8 31 8).toInt)
  refine lv_isub hx hb dX1_seekFor_11 ?_
  refine lv_topi (fun x25 ex25 => ?_)
  have tx25 : x25.toInt = (σ8 31 8).toInt - 1 := (jsub ex25 rfl jz_1 (by omega) (by omega)).trans (by omega)
  refine lv_istore (lv' := [(6, .int x25), (0, .ref (ad 31)), (1, .ref (ad 17)), (2, .int a2), (3, .int a3), (4, .int a4), (5, .int a5)]) hx hb dX1_seekFor_12 hl (by decide) rfl (fun ls hl => ?_)
  have p31 : jN67 σ8 := jN67.fr (f10 24 (by decide)) hs_jN67
  have p32 : jBl σ8 := jBl.fr (congrFun (f10 22 (by decide)) 0) (congrFun (f10 22 (by decide)) 1) (f10 23 (by decide)) (congrFun (f10 26 (by decide)) 6) (congrFun (f10 26 (by decide)) 7) (f10 29 (by decide)) (f10 30 (by decide)) hs_jBl
  have lp26 : ∀ (n27 : Nat) (x28 : Int32) (σ29 : Nat → Nat → Int32) (H : Heap) (locs : List Loc) (ls : Array Slot), (x28.toInt + 1 : Int) < n27 → (-1) ≤ x28.toInt → x28.toInt ≤ 349 → x28.toInt < (σ29 31 8).toInt → (∀ i : Nat, (i < 24 ∨ 25 < i) ∧ (i < 29 ∨ 30 < i) ∧ (i < 34 ∨ 35 < i) → σ29 i = σ8 i) → jN67 σ29 → jBl σ29 → jI31 σ29 → jH D cI cL ad σ29 τ H → va_S (jA ad) s.heap H locs → lv_has ls 7 [(6, .int x28), (0, .ref (ad 31)), (1, .ref (ad 17)), (2, .int a2), (3, .int a3), (4, .int a4), (5, .int a5)] → W p l e ({ frames := 4, cells := 0, slots := 0, locals := 113 }) s m args below meth c H locs 0 0 Q (F0 m 14 ls []) := by
    intro n27
    induction n27 with
    | zero => intro x28 σ29 H locs ls h33 h34 h35 h36; exact absurd h33 (by omega)
    | succ n27 ihlp26 =>
      intro x28 σ29 H locs ls h33 h34 h35 h36 f37 p38 p39 p40 hP hS hl
      obtain ⟨i41, i42, i43, i44, w45, w46, w47⟩ : (0 ≤ (σ29 31 8).toInt ∧ (σ29 31 8).toInt ≤ 350) ∧ (0 ≤ (σ29 31 10).toInt ∧ (σ29 31 10).toInt ≤ 12) ∧ (0 ≤ (σ29 31 11).toInt ∧ (σ29 31 11).toInt ≤ 8) ∧ ((σ29 31 10).toInt + (σ29 31 11).toInt ≤ 12) ∧ (∀ k : Nat, k < 1400 → (-1) ≤ (σ29 33 k).toInt ∧ (σ29 33 k).toInt ≤ 350) ∧ (∀ k : Nat, k < 3159 → (-1) ≤ (σ29 35 k).toInt ∧ (σ29 35 k).toInt ≤ 3) ∧ (∀ k : Nat, k < 1024 → 0 ≤ (σ29 36 k).toInt ∧ (σ29 36 k).toInt ≤ 349) := id p40
      have z48 : (σ29 31 8).toInt = (σ8 31 8).toInt := (congrArg Int32.toInt (show σ29 31 8 = (σ8 31 8) from (congrFun (f37 31 (by decide)) 8)))
      have z49 : (σ29 31 10).toInt = (σ8 31 10).toInt := (congrArg Int32.toInt (show σ29 31 10 = (σ8 31 10) from (congrFun (f37 31 (by decide)) 10)))
      have z50 : (σ29 31 11).toInt = (σ8 31 11).toInt := (congrArg Int32.toInt (show σ29 31 11 = (σ8 31 11) from (congrFun (f37 31 (by decide)) 11)))
      refine lv_iload hx hb dX1_seekFor_14 (lv_at hl 0 rfl) ?_
      refine lv_if_lt (tgt := 36) hx hb dX1_seekFor_16 (by decide) (fun c51 => ?_) (fun c51 => ?_)
      · have kc51 := jlt c51 rfl jz_0
        have p52 : jKb σ29 := jKb.fr (congrFun (f37 31 (by decide)) 8) (congrFun (f37 31 (by decide)) 11) (f37 32 (by decide)) p13
        have p53 : jKh σ29 := jKh.fr (congrFun (f37 31 (by decide)) 8) (f37 32 (by decide)) (f37 36 (by decide)) (f37 37 (by decide)) p14
        have p54 : jKg σ29 := jKg.fr (congrFun (f37 31 (by decide)) 8) (congrFun (f37 31 (by decide)) 9) (congrFun (f37 31 (by decide)) 11) (congrFun (f37 31 (by decide)) 12) (f37 32 (by decide)) (f37 33 (by decide)) p15
        exact hret σ29 τ _ _ _ _ ⟨rfl, (fun i hi => ((f37 i (imp_101 i hi)).trans (f10 i (imp_102 i hi)))), (fun i hi => ((congrFun (f37 31 (by decide)) i).trans (f11 i hi))), p40, p38, p39, p52, p53, p54, trivial⟩ hP hS dX1_seekFor_36
      · have kc51 := jnlt c51 rfl jz_0
        refine lv_aload_n hx hb dX1_seekFor_19 rfl (lv_at hl 1 rfl) ?_
        refine lv_iload hx hb dX1_seekFor_20 (lv_at hl 0 rfl) ?_
        refine lv_aload_n hx hb dX1_seekFor_22 rfl (lv_at hl 2 rfl) ?_
        refine lv_iload hx hb dX1_seekFor_23 (lv_at hl 5 rfl) ?_
        refine lv_iload hx hb dX1_seekFor_25 (lv_at hl 6 rfl) ?_
        have I55 : jI16 σ29 := jI16_fr ((congrFun (f37 16 (by decide)) 0).trans (congrFun (f10 16 (by decide)) 0)) ((congrFun (f37 16 (by decide)) 1).trans (congrFun (f10 16 (by decide)) 1)) ((congrFun (f37 16 (by decide)) 2).trans (congrFun (f10 16 (by decide)) 2)) ((f37 17 (by decide)).trans (f10 17 (by decide))) hI16
        have I56 : jI22 σ29 := jI22_fr ((congrFun (f37 22 (by decide)) 0).trans (congrFun (f10 22 (by decide)) 0)) ((f37 23 (by decide)).trans (f10 23 (by decide))) hI22
        have I57 : jI26 σ29 := jI26_fr ((congrFun (f37 26 (by decide)) 6).trans (congrFun (f10 26 (by decide)) 6)) hI26
        have p58 : jKb σ29 := jKb.fr (congrFun (f37 31 (by decide)) 8) (congrFun (f37 31 (by decide)) 11) (f37 32 (by decide)) p13
        refine jcallVv (As := [.int x28, .ref (ad 17), .int a4, .int a5]) (rest := []) ⟨hx, hb, hml, hown, hts⟩ hK hP hA hS hZ (c_X1_judge_31 l D cI cL ad zz hJ σ29 τ x28 (x28.toInt) rfl a4 (A4) t4 a5 (A5) t5 I55 I56 p40 I57 p38 p39 p58 (by omega) (by omega) (by omega)) cw_RX1_61 (jc_31 cI cL ad σ29 τ) rfl ⟨Nat.le_of_ble_eq_true rfl, Nat.le_of_ble_eq_true rfl⟩ rfl rfl rfl hl.1 rfl (Nat.le_of_ble_eq_true rfl) dX1_seekFor_27 ⟨Nat.zero_le _, Nat.zero_le _⟩ (fun σ59 τ59 H locs h59 hP hS => ?_)
        obtain ⟨rfl, f61, I62, p63, p64, p65, h59⟩ := h59
        obtain ⟨i67, i68, i69, i70, w71, w72, w73⟩ : (0 ≤ (σ59 31 8).toInt ∧ (σ59 31 8).toInt ≤ 350) ∧ (0 ≤ (σ59 31 10).toInt ∧ (σ59 31 10).toInt ≤ 12) ∧ (0 ≤ (σ59 31 11).toInt ∧ (σ59 31 11).toInt ≤ 8) ∧ ((σ59 31 10).toInt + (σ59 31 11).toInt ≤ 12) ∧ (∀ k : Nat, k < 1400 → (-1) ≤ (σ59 33 k).toInt ∧ (σ59 33 k).toInt ≤ 350) ∧ (∀ k : Nat, k < 3159 → (-1) ≤ (σ59 35 k).toInt ∧ (σ59 35 k).toInt ≤ 3) ∧ (∀ k : Nat, k < 1024 → 0 ≤ (σ59 36 k).toInt ∧ (σ59 36 k).toInt ≤ 349) := id I62
        have z74 : (σ59 31 8).toInt = (σ8 31 8).toInt := (congrArg Int32.toInt (show σ59 31 8 = (σ8 31 8) from ((congrFun (f61 31 (by decide)) 8).trans (congrFun (f37 31 (by decide)) 8))))
        have z75 : (σ59 31 10).toInt = (σ8 31 10).toInt := (congrArg Int32.toInt (show σ59 31 10 = (σ8 31 10) from ((congrFun (f61 31 (by decide)) 10).trans (congrFun (f37 31 (by decide)) 10))))
        have z76 : (σ59 31 11).toInt = (σ8 31 11).toInt := (congrArg Int32.toInt (show σ59 31 11 = (σ8 31 11) from ((congrFun (f61 31 (by decide)) 11).trans (congrFun (f37 31 (by decide)) 11))))
        obtain ⟨x77, ex77⟩ : ∃ y : Int32, y = x28 + (-1) := ⟨_, rfl⟩
        have tx77 : x77.toInt = x28.toInt - 1 := (jadd ex77 rfl jz_m1 (by omega) (by omega)).trans (by omega)
        refine lv_iinc (v := x77) (lv' := [(6, .int x77), (0, .ref (ad 31)), (1, .ref (ad 17)), (2, .int a2), (3, .int a3), (4, .int a4), (5, .int a5)]) hx hb dX1_seekFor_30 hl (k := 0) rfl (by rw [ex77]; rfl) (by decide) rfl (fun ls hl => ?_)
        refine lv_goto (tgt := 14) hx hb dX1_seekFor_33 (by decide) ?_
        exact ihlp26 x77 σ59 _ _ ls (by have h90 := tx77; omega) (by have h90 := tx77; omega) (by have h90 := tx77; omega) (by have h90 := tx77; omega) (fun i hi => ((f61 i hi).trans (f37 i hi)))   p63 p64 I62 hP hS (lv_sub hl [0, 1, 2, 3, 4, 5, 6] rfl)
  exact lp26 1000000 x25 σ8 _ _ ls (by have h90 := tx25; omega) (by have h90 := tx25; omega) (by have h90 := tx25; omega) (by have h90 := tx25; omega) (fun _ _ => rfl)  p31 p32 I12 hP hS hl
set_option maxHeartbeats 4000000 in
set_option maxRecDepth 100000 in
theorem c_X1_judge_31_v1 (l : Launch) (D : va_G) (cI cL : ClassId) (ad zz : Nat → Nat) (hJ : jD ad) (σ : Nat → Nat → Int32) (τ : Nat → Nat → Int64) (a1 : Int32) (A1 : Int) (t1 : a1.toInt = A1) (a3 : Int32) (A3 : Int) (t3 : a3.toInt = A3) (a4 : Int32) (A4 : Int) (t4 : a4.toInt = A4) (hI16 : jI16 σ) (hI22 : jI22 σ) (hI31 : jI31 σ) (hI0 : jI0 σ) (hI26 : jI26 σ) (hs_jN67 : jN67 σ) (hs_jBl : jBl σ) (hs_jKb : jKb σ) (hp0 : 0 ≤ A1 ∧ A1 ≤ 349) (hp1 : A1 < (σ 31 8).toInt) (hp2 : 0 ≤ A3 ∧ A3 ≤ 12) : jMv l yX1_judge cX1_judge 18 none ({ frames := 3, cells := 0, slots := 0, locals := 76 }) D cI cL ad zz [.ref (ad 31), .int a1, .ref (ad 1), .int a3, .int a4] σ τ (fun σ' τ' => τ = τ' ∧ (∀ i : Nat, (i < 24 ∨ 25 < i) ∧ (i < 29 ∨ 30 < i) ∧ (i < 34 ∨ 35 < i) → σ' i = σ i) ∧ (jI31 σ') ∧ (jN67 σ') ∧ (jBl σ') ∧ (jKb σ') ∧ True) := by
  refine jMv.of hJ (by decide +kernel) rfl (Nat.le_of_ble_eq_true rfl) ?_
  intro p e s m args below meth c Q ls hC hret hl hP
  obtain ⟨hx, hb, hr, hml, hown, hts, hK, -, hlocks, hZ⟩ := hC
  have hown : s.vm.findClass RX1 = some m.cls := hown
  have hS : va_S (jA ad) s.heap s.heap [] := va_S.rf
  have hA : ∀ q, jA ad q → jA ad q := fun _ h => h
  have hl : lv_has ls 18 [(0, .ref (ad 31)), (1, .int a1), (2, .ref (ad 1)), (3, .int a3), (4, .int a4)] := hl
  have g1 := jrg t1
  have g3 := jrg t3
  have g4 := jrg t4
  obtain ⟨i1, i2, i3, w4⟩ : (1 ≤ (σ 16 0).toInt ∧ (σ 16 0).toInt ≤ 8) ∧ (1 ≤ (σ 16 1).toInt ∧ (σ 16 1).toInt ≤ 12) ∧ (0 ≤ (σ 16 2).toInt ∧ (σ 16 2).toInt ≤ 999) ∧ (∀ k : Nat, k < 8 → 0 ≤ (σ 17 k).toInt ∧ (σ 17 k).toInt ≤ 3) := id hI16
  obtain ⟨i5, i6, i7, i8, w9, w10, w11⟩ : (0 ≤ (σ 31 8).toInt ∧ (σ 31 8).toInt ≤ 350) ∧ (0 ≤ (σ 31 10).toInt ∧ (σ 31 10).toInt ≤ 12) ∧ (0 ≤ (σ 31 11).toInt ∧ (σ 31 11).toInt ≤ 8) ∧ ((σ 31 10).toInt + (σ 31 11).toInt ≤ 12) ∧ (∀ k : Nat, k < 1400 → (-1) ≤ (σ 33 k).toInt ∧ (σ 33 k).toInt ≤ 350) ∧ (∀ k : Nat, k < 3159 → (-1) ≤ (σ 35 k).toInt ∧ (σ 35 k).toInt ≤ 3) ∧ (∀ k : Nat, k < 1024 → 0 ≤ (σ 36 k).toInt ∧ (σ 36 k).toInt ≤ 349) := id hI31
  have w12 : ∀ k : Nat, k < 8 → 0 ≤ (σ 1 k).toInt ∧ (σ 1 k).toInt ≤ 3 := hI0
  refine lv_aload_n hx hb dX1_judge_0 rfl (lv_at hl 0 rfl) ?_
  refine va_get (D := D) hx hb hts inlX1 hown hK hP 31 (jc_31 cI cL ad σ τ) rfl 2 (by decide) (hts _ kw_5_3) (fun _ h9 => h9) rfl dX1_judge_1 ?_
  refine lv_iload_n hx hb dX1_judge_4 rfl (lv_at hl 1 rfl) ?_
  refine jald hx hb hK hP (jc_32 cI cL ad σ τ) (jin t1 (by omega) (by omega)) dX1_judge_5 ?_
  refine jtopr (y := (σ 32 a1.toNatClampNeg)) rfl ?_
  refine lv_ldc (v := 134217727) hx hb hown (hts _ kw_28_10) dX1_judge_6 ?_
  refine lv_iand hx hb dX1_judge_8 ?_
  refine lv_topi (fun x13 ex13 => ?_)
  have gx13 := jrg (rfl : x13.toInt = x13.toInt)
  have g14 : 0 ≤ x13.toInt ∧ x13.toInt ≤ 134217727 := jmask ex13 27 (by decide) (by decide)
  refine lv_istore (lv' := [(5, .int x13), (0, .ref (ad 31)), (1, .int a1), (2, .ref (ad 1)), (3, .int a3), (4, .int a4)]) hx hb dX1_judge_9 hl (by decide) rfl (fun ls hl => ?_)
  refine lv_aload_n hx hb dX1_judge_11 rfl (lv_at hl 1 rfl) ?_
  refine va_get (D := D) hx hb hts inlX1 hown hK hP 31 (jc_31 cI cL ad σ τ) rfl 2 (by decide) (hts _ kw_5_3) (fun _ h9 => h9) rfl dX1_judge_12 ?_
  refine lv_iload_n hx hb dX1_judge_15 rfl (lv_at hl 2 rfl) ?_
  refine jald hx hb hK hP (jc_32 cI cL ad σ τ) (jin t1 (by omega) (by omega)) dX1_judge_16 ?_
  refine jtopr (y := (σ 32 a1.toNatClampNeg)) rfl ?_
  refine lv_bipush (v := 27) hx hb dX1_judge_17 (by decide) ?_
  refine lv_ishr hx hb dX1_judge_19 ?_
  refine lv_topi (fun x15 ex15 => ?_)
  have gx15 := jrg (rfl : x15.toInt = x15.toInt)
  have k16 := jshr27 (x := x15) (k := (σ 32 a1.toNatClampNeg)) (by rw [ex15])
  have k17 := hs_jKb a1.toNatClampNeg (by rw [jnc t1]; omega)
  refine lv_istore (lv' := [(6, .int x15), (5, .int x13), (0, .ref (ad 31)), (1, .int a1), (2, .ref (ad 1)), (3, .int a3), (4, .int a4)]) hx hb dX1_judge_20 hl (by decide) rfl (fun ls hl => ?_)
  refine lv_iload_n hx hb dX1_judge_22 rfl (lv_at hl 3 rfl) ?_
  refine lv_bipush (v := 9) hx hb dX1_judge_23 (by decide) ?_
  refine lv_imul hx hb dX1_judge_25 ?_
  refine lv_topi (fun x18 ex18 => ?_)
  have tx18 : x18.toInt = 9 * A1 := (jmul ex18 t1 jz_9 (by omega) (by omega)).trans (by omega)
  refine lv_istore (lv' := [(7, .int x18), (6, .int x15), (5, .int x13), (0, .ref (ad 31)), (1, .int a1), (2, .ref (ad 1)), (3, .int a3), (4, .int a4)]) hx hb dX1_judge_26 hl (by decide) rfl (fun ls hl => ?_)
  have lp19 : ∀ (x21 : Int32) (x22 : Int32) (H : Heap) (locs : List Loc) (ls : Array Slot), 0 ≤ x21.toInt → x21.toInt ≤ 12 → x22.toInt ≤ 7 → x21.toInt = A3 → x22.toInt ≤ A4 → x22.toInt ≤ A3 + x15.toInt + 1 → jH D cI cL ad σ τ H → va_S (jA ad) s.heap H locs → lv_has ls 18 [(7, .int x18), (6, .int x15), (5, .int x13), (0, .ref (ad 31)), (1, .int a1), (2, .ref (ad 1)), (3, .int a3), (4, .int a4), (8, .int x21), (9, .int x22)] → W p l e ({ frames := 3, cells := 0, slots := 0, locals := 76 }) s m args below meth c H locs 0 0 Q (F0 m 55 ls []) := by
    intro x21 x22 H locs ls h24 h25 h26 h27 h28 h29 hP hS hl
    have gx22 := jrg (rfl : x22.toInt = x22.toInt)
    refine lv_iload hx hb dX1_judge_55 (lv_at hl 8 rfl) ?_
    refine lv_istore (lv' := [(10, .int x21), (7, .int x18), (6, .int x15), (5, .int x13), (0, .ref (ad 31)), (1, .int a1), (2, .ref (ad 1)), (3, .int a3), (4, .int a4), (8, .int x21), (9, .int x22)]) hx hb dX1_judge_57 hl (by decide) rfl (fun ls hl => ?_)
    have lp31 : ∀ (n32 : Nat) (x33 : Int32) (σ34 : Nat → Nat → Int32) (H : Heap) (locs : List Loc) (ls : Array Slot), (-x33.toInt + 20 : Int) < n32 → 0 ≤ x33.toInt → x33.toInt ≤ 12 → (∀ i : Nat, (i < 34 ∨ 35 < i) → σ34 i = σ i) → jI31 σ34 → jH D cI cL ad σ34 τ H → va_S (jA ad) s.heap H locs → lv_has ls 18 [(10, .int x33), (7, .int x18), (6, .int x15), (5, .int x13), (0, .ref (ad 31)), (1, .int a1), (2, .ref (ad 1)), (3, .int a3), (4, .int a4), (8, .int x21), (9, .int x22)] → W p l e ({ frames := 3, cells := 0, slots := 0, locals := 76 }) s m args below meth c H locs 0 0 Q (F0 m 59 ls []) := by
      intro n32
      induction n32 with
      | zero => intro x33 σ34 H locs ls h36 h37 h38; exact absurd h36 (by omega)
      | succ n32 ihlp31 =>
        intro x33 σ34 H locs ls h36 h37 h38 f39 p40 hP hS hl
        obtain ⟨i41, i42, i43, i44, w45, w46, w47⟩ : (0 ≤ (σ34 31 8).toInt ∧ (σ34 31 8).toInt ≤ 350) ∧ (0 ≤ (σ34 31 10).toInt ∧ (σ34 31 10).toInt ≤ 12) ∧ (0 ≤ (σ34 31 11).toInt ∧ (σ34 31 11).toInt ≤ 8) ∧ ((σ34 31 10).toInt + (σ34 31 11).toInt ≤ 12) ∧ (∀ k : Nat, k < 1400 → (-1) ≤ (σ34 33 k).toInt ∧ (σ34 33 k).toInt ≤ 350) ∧ (∀ k : Nat, k < 3159 → (-1) ≤ (σ34 35 k).toInt ∧ (σ34 35 k).toInt ≤ 3) ∧ (∀ k : Nat, k < 1024 → 0 ≤ (σ34 36 k).toInt ∧ (σ34 36 k).toInt ≤ 349) := id p40
        have z48 : (σ34 31 8).toInt = (σ 31 8).toInt := (congrArg Int32.toInt (show σ34 31 8 = (σ 31 8) from (congrFun (f39 31 (by decide)) 8)))
        have z49 : (σ34 31 10).toInt = (σ 31 10).toInt := (congrArg Int32.toInt (show σ34 31 10 = (σ 31 10) from (congrFun (f39 31 (by decide)) 10)))
        have z50 : (σ34 31 11).toInt = (σ 31 11).toInt := (congrArg Int32.toInt (show σ34 31 11 = (σ 31 11) from (congrFun (f39 31 (by decide)) 11)))
        refine lv_iload hx hb dX1_judge_59 (lv_at hl 0 rfl) ?_
        refine lv_iload hx hb dX1_judge_61 (lv_at hl 10 rfl) ?_
        refine lv_icmp_gt (tgt := 94) hx hb dX1_judge_63 (by decide) (fun c51 => ?_) (fun c51 => ?_)
        · have kc51 := jlt c51 rfl rfl
          refine lv_aload_n hx hb dX1_judge_94 rfl (lv_at hl 4 rfl) ?_
          refine va_get (D := D) hx hb hts inlX1 hown hK hP 31 (jc_31 cI cL ad σ34 τ) rfl 4 (by decide) (hts _ kw_5_5) (fun _ h9 => h9) rfl dX1_judge_95 ?_
          refine lv_iload hx hb dX1_judge_98 (lv_at hl 1 rfl) ?_
          refine lv_aload_n hx hb dX1_judge_100 rfl (lv_at hl 4 rfl) ?_
          refine va_get (D := D) hx hb hts inlX1 hown hK hP 31 (jc_31 cI cL ad σ34 τ) rfl 1 (by decide) (hts _ kw_5_11) (fun _ h9 => h9) rfl dX1_judge_101 ?_
          refine va_get (D := D) hx hb hts inlX6 hown hK hP 16 (jc_16 cI cL ad σ34 τ) rfl 0 (by decide) (hts _ kw_27_17) (fun _ h9 => h9) rfl dX1_judge_104 ?_
          have m52 : σ34 16 0 = (σ 16 0) := (congrFun (f39 16 (by decide)) 0)
          refine jtopr m52 ?_
          have g53 := jrg (rfl : (σ 16 0).toInt = (σ 16 0).toInt)
          refine lv_iadd hx hb dX1_judge_107 ?_
          refine lv_topi (fun x54 ex54 => ?_)
          have tx54 : x54.toInt = 9 * A1 + (σ 16 0).toInt := (jadd ex54 tx18 rfl (by omega) (by omega)).trans (by omega)
          refine lv_iconst (v := 0) hx hb dX1_judge_108 (by decide) ?_
          refine jast hx hb hK hP hJ hA hS (jc_34 cI cL ad σ34 τ) (ja_34 cI cL ad σ34 τ _ _) (jin tx54 (by omega) (by omega)) dX1_judge_109 (fun σ55 H locs eσ55 hP hS => ?_)
          refine lv_iconst (v := 0) hx hb dX1_judge_110 (by decide) ?_
          refine lv_istore (lv' := [(10, .int 0), (7, .int x18), (6, .int x15), (5, .int x13), (0, .ref (ad 31)), (1, .int a1), (2, .ref (ad 1)), (3, .int a3), (4, .int a4), (8, .int x21), (9, .int x22)]) hx hb dX1_judge_111 hl (by decide) rfl (fun ls hl => ?_)
          have I67 : jI31 σ55 := jI31_fr (congrFun (jnp 31 eσ55 (by decide)) 8) (congrFun (jnp 31 eσ55 (by decide)) 10) (congrFun (jnp 31 eσ55 (by decide)) 11) (jnp 33 eσ55 (by decide)) (jnp 35 eσ55 (by decide)) (jnp 36 eσ55 (by decide)) p40
          have p69 : jN67 σ55 := jN67.fr ((jnp 24 eσ55 (by decide)).trans (f39 24 (by decide))) hs_jN67
          have p70 : jBl σ55 := jBl.fr ((congrFun (jnp 22 eσ55 (by decide)) 0).trans (congrFun (f39 22 (by decide)) 0)) ((congrFun (jnp 22 eσ55 (by decide)) 1).trans (congrFun (f39 22 (by decide)) 1)) ((jnp 23 eσ55 (by decide)).trans (f39 23 (by decide))) ((congrFun (jnp 26 eσ55 (by decide)) 6).trans (congrFun (f39 26 (by decide)) 6)) ((congrFun (jnp 26 eσ55 (by decide)) 7).trans (congrFun (f39 26 (by decide)) 7)) ((jnp 29 eσ55 (by decide)).trans (f39 29 (by decide))) ((jnp 30 eσ55 (by decide)).trans (f39 30 (by decide))) hs_jBl
          have lp56 : ∀ (n57 : Nat) (x58 : Int32) (σ66 : Nat → Nat → Int32) (H : Heap) (locs : List Loc) (ls : Array Slot), (-x58.toInt + 4 : Int) < n57 → 0 ≤ x58.toInt → x58.toInt ≤ 4 → (∀ i : Nat, (i < 24 ∨ 25 < i) ∧ (i < 29 ∨ 30 < i) ∧ (i < 34 ∨ 35 < i) → σ66 i = σ55 i) → jN67 σ66 → jBl σ66 → jI31 σ66 → jH D cI cL ad σ66 τ H → va_S (jA ad) s.heap H locs → lv_has ls 18 [(10, .int x58), (7, .int x18), (6, .int x15), (5, .int x13), (0, .ref (ad 31)), (1, .int a1), (2, .ref (ad 1)), (3, .int a3), (4, .int a4), (8, .int x21), (9, .int x22)] → W p l e ({ frames := 3, cells := 0, slots := 0, locals := 76 }) s m args below meth c H locs 0 0 Q (F0 m 113 ls []) := by
            intro n57
            induction n57 with
            | zero => intro x58 σ66 H locs ls h71 h72 h73; exact absurd h71 (by omega)
            | succ n57 ihlp56 =>
              intro x58 σ66 H locs ls h71 h72 h73 f74 p75 p76 p77 hP hS hl
              obtain ⟨i78, i79, i80, i81, w82, w83, w84⟩ : (0 ≤ (σ66 31 8).toInt ∧ (σ66 31 8).toInt ≤ 350) ∧ (0 ≤ (σ66 31 10).toInt ∧ (σ66 31 10).toInt ≤ 12) ∧ (0 ≤ (σ66 31 11).toInt ∧ (σ66 31 11).toInt ≤ 8) ∧ ((σ66 31 10).toInt + (σ66 31 11).toInt ≤ 12) ∧ (∀ k : Nat, k < 1400 → (-1) ≤ (σ66 33 k).toInt ∧ (σ66 33 k).toInt ≤ 350) ∧ (∀ k : Nat, k < 3159 → (-1) ≤ (σ66 35 k).toInt ∧ (σ66 35 k).toInt ≤ 3) ∧ (∀ k : Nat, k < 1024 → 0 ≤ (σ66 36 k).toInt ∧ (σ66 36 k).toInt ≤ 349) := id p77
              have z85 : (σ66 31 8).toInt = (σ 31 8).toInt := (congrArg Int32.toInt (show σ66 31 8 = (σ 31 8) from ((congrFun (f74 31 (by decide)) 8).trans ((congrFun (jnp 31 eσ55 (by decide)) 8).trans (congrFun (f39 31 (by decide)) 8)))))
              have z86 : (σ66 31 10).toInt = (σ 31 10).toInt := (congrArg Int32.toInt (show σ66 31 10 = (σ 31 10) from ((congrFun (f74 31 (by decide)) 10).trans ((congrFun (jnp 31 eσ55 (by decide)) 10).trans (congrFun (f39 31 (by decide)) 10)))))
              have z87 : (σ66 31 11).toInt = (σ 31 11).toInt := (congrArg Int32.toInt (show σ66 31 11 = (σ 31 11) from ((congrFun (f74 31 (by decide)) 11).trans ((congrFun (jnp 31 eσ55 (by decide)) 11).trans (congrFun (f39 31 (by decide)) 11)))))
              refine lv_iload hx hb dX1_judge_113 (lv_at hl 0 rfl) ?_
              refine lv_iconst (v := 4) hx hb dX1_judge_115 (by decide) ?_
              refine lv_icmp_ge (tgt := 316) hx hb dX1_judge_116 (by decide) (fun c88 => ?_) (fun c88 => ?_)
              · have kc88 := jle c88 jz_4 rfl
                have p89 : jKb σ66 := jKb.fr ((congrFun (f74 31 (by decide)) 8).trans ((congrFun (jnp 31 eσ55 (by decide)) 8).trans (congrFun (f39 31 (by decide)) 8))) ((congrFun (f74 31 (by decide)) 11).trans ((congrFun (jnp 31 eσ55 (by decide)) 11).trans (congrFun (f39 31 (by decide)) 11))) ((f74 32 (by decide)).trans ((jnp 32 eσ55 (by decide)).trans (f39 32 (by decide)))) hs_jKb
                exact hret σ66 τ _ _ _ _ ⟨rfl, (fun i hi => ((f74 i hi).trans ((jnp i eσ55 (imp_95 i hi)).trans (f39 i (imp_96 i hi))))), p77, p75, p76, p89, trivial⟩ hP hS dX1_judge_316
              · have kc88 := jnle c88 jz_4 rfl
                refine lv_aload_n hx hb dX1_judge_119 rfl (lv_at hl 4 rfl) ?_
                refine va_get (D := D) hx hb hts inlX1 hown hK hP 31 (jc_31 cI cL ad σ66 τ) rfl 3 (by decide) (hts _ kw_5_4) (fun _ h9 => h9) rfl dX1_judge_120 ?_
                refine lv_iload_n hx hb dX1_judge_123 rfl (lv_at hl 5 rfl) ?_
                refine lv_iconst (v := 4) hx hb dX1_judge_124 (by decide) ?_
                refine lv_imul hx hb dX1_judge_125 ?_
                refine lv_topi (fun x90 ex90 => ?_)
                have tx90 : x90.toInt = 4 * A1 := (jmul ex90 t1 jz_4 (by omega) (by omega)).trans (by omega)
                refine lv_iload hx hb dX1_judge_126 (lv_at hl 0 rfl) ?_
                have g91 := jrg (rfl : x58.toInt = x58.toInt)
                refine lv_iadd hx hb dX1_judge_128 ?_
                refine lv_topi (fun x92 ex92 => ?_)
                have tx92 : x92.toInt = 4 * A1 + x58.toInt := (jadd ex92 tx90 rfl (by omega) (by omega)).trans (by omega)
                refine jald hx hb hK hP (jc_33 cI cL ad σ66 τ) (jin tx92 (by omega) (by omega)) dX1_judge_129 ?_
                have g93 := w82 _ (jnat (x := x92) tx92 (n := 1400) (by omega) (by decide))
                refine jtopr (y := (σ 33 x92.toNatClampNeg)) (by rw [f74 33 (by decide), jnp 33 eσ55 (by decide), f39 33 (by decide)]) ?_
                rw [f74 33 (by decide), jnp 33 eσ55 (by decide), f39 33 (by decide)] at g93
                refine lv_bipush (v := 9) hx hb dX1_judge_130 (by decide) ?_
                have g94 := jrg (rfl : (σ 33 x92.toNatClampNeg).toInt = (σ 33 x92.toNatClampNeg).toInt)
                refine lv_imul hx hb dX1_judge_132 ?_
                refine lv_topi (fun x95 ex95 => ?_)
                have tx95 : x95.toInt = 9 * (σ 33 x92.toNatClampNeg).toInt := (jmul ex95 rfl jz_9 (by omega) (by omega)).trans (by omega)
                refine lv_istore (lv' := [(11, .int x95), (10, .int x58), (7, .int x18), (6, .int x15), (5, .int x13), (0, .ref (ad 31)), (1, .int a1), (2, .ref (ad 1)), (3, .int a3), (4, .int a4), (8, .int x21), (9, .int x22)]) hx hb dX1_judge_133 hl (by decide) rfl (fun ls hl => ?_)
                refine lv_iload hx hb dX1_judge_135 (lv_at hl 0 rfl) ?_
                refine lv_if_ge (tgt := 143) hx hb dX1_judge_137 (by decide) (fun c96 => ?_) (fun c96 => ?_)
                · have kc96 := jle c96 jz_0 tx95
                  refine lv_iload hx hb dX1_judge_143 (lv_at hl 4 rfl) ?_
                  refine lv_iload hx hb dX1_judge_145 (lv_at hl 1 rfl) ?_
                  refine jcallS (As := [.int x13, .int x58]) (rest := []) ⟨hx, hb, hml, hown, hts⟩ hK hP hA hS hZ (c_X0_steps l D cI cL ad zz hJ σ66 τ x13 (x13.toInt) rfl x58 (x58.toInt) rfl) cw_RX1_136 ⟨Nat.le_of_ble_eq_true rfl, Nat.le_of_ble_eq_true rfl⟩ rfl rfl rfl hl.1 rfl (Nat.le_of_ble_eq_true rfl) dX1_judge_147 ⟨Nat.zero_le _, Nat.zero_le _⟩ (fun r98 σ97 τ97 H locs h97 hP hS => ?_)
                  obtain ⟨⟨rfl, rfl⟩, w99, h97⟩ := h97
                  have k100 := congrArg Int32.toInt w99
                  have h101 := h97
                  obtain ⟨q103, k102⟩ := h101
                  refine lv_istore (lv' := [(12, .int r98), (11, .int x95), (10, .int x58), (7, .int x18), (6, .int x15), (5, .int x13), (0, .ref (ad 31)), (1, .int a1), (2, .ref (ad 1)), (3, .int a3), (4, .int a4), (8, .int x21), (9, .int x22)]) hx hb dX1_judge_150 hl (by decide) rfl (fun ls hl => ?_)
                  refine lv_iload hx hb dX1_judge_152 (lv_at hl 5 rfl) ?_
                  refine lv_iload hx hb dX1_judge_154 (lv_at hl 2 rfl) ?_
                  refine jcallS (As := [.int x13, .int x58]) (rest := []) ⟨hx, hb, hml, hown, hts⟩ hK hP hA hS hZ (c_X0_left l D cI cL ad zz hJ σ66 τ x13 (x13.toInt) rfl x58 (x58.toInt) rfl) cw_RX1_123 ⟨Nat.le_of_ble_eq_true rfl, Nat.le_of_ble_eq_true rfl⟩ rfl rfl rfl hl.1 rfl (Nat.le_of_ble_eq_true rfl) dX1_judge_156 ⟨Nat.zero_le _, Nat.zero_le _⟩ (fun r105 σ104 τ104 H locs h104 hP hS => ?_)
                  obtain ⟨⟨rfl, rfl⟩, w106, h104⟩ := h104
                  have k107 := congrArg Int32.toInt w106
                  have h108 := h104
                  obtain ⟨q110, k109⟩ := h108
                  refine lv_istore (lv' := [(13, .int r105), (12, .int r98), (11, .int x95), (10, .int x58), (7, .int x18), (6, .int x15), (5, .int x13), (0, .ref (ad 31)), (1, .int a1), (2, .ref (ad 1)), (3, .int a3), (4, .int a4), (8, .int x21), (9, .int x22)]) hx hb dX1_judge_159 hl (by decide) rfl (fun ls hl => ?_)
                  refine lv_iload hx hb dX1_judge_161 (lv_at hl 12 rfl) ?_
                  refine lv_istore (lv' := [(14, .int x21), (13, .int r105), (12, .int r98), (11, .int x95), (10, .int x58), (7, .int x18), (6, .int x15), (5, .int x13), (0, .ref (ad 31)), (1, .int a1), (2, .ref (ad 1)), (3, .int a3), (4, .int a4), (8, .int x21), (9, .int x22)]) hx hb dX1_judge_163 hl (by decide) rfl (fun ls hl => ?_)
                  have lp111 : ∀ (n112 : Nat) (x113 : Int32) (σ117 : Nat → Nat → Int32) (H : Heap) (locs : List Loc) (ls : Array Slot), (-x113.toInt + 20 : Int) < n112 → 0 ≤ x113.toInt → x113.toInt ≤ 12 → (∀ i : Nat, (i < 24 ∨ 25 < i) ∧ (i < 29 ∨ 30 < i) ∧ (i < 34 ∨ 35 < i) → σ117 i = σ66 i) → jN67 σ117 → jBl σ117 → jI31 σ117 → jH D cI cL ad σ117 τ H → va_S (jA ad) s.heap H locs → lv_has ls 18 [(14, .int x113), (13, .int r105), (12, .int r98), (11, .int x95), (10, .int x58), (7, .int x18), (6, .int x15), (5, .int x13), (0, .ref (ad 31)), (1, .int a1), (2, .ref (ad 1)), (3, .int a3), (4, .int a4), (8, .int x21), (9, .int x22)] → W p l e ({ frames := 3, cells := 0, slots := 0, locals := 76 }) s m args below meth c H locs 0 0 Q (F0 m 165 ls []) := by
                    intro n112
                    induction n112 with
                    | zero => intro x113 σ117 H locs ls h119 h120 h121; exact absurd h119 (by omega)
                    | succ n112 ihlp111 =>
                      intro x113 σ117 H locs ls h119 h120 h121 f122 p123 p124 p125 hP hS hl
                      obtain ⟨i126, i127, i128, i129, w130, w131, w132⟩ : (0 ≤ (σ117 31 8).toInt ∧ (σ117 31 8).toInt ≤ 350) ∧ (0 ≤ (σ117 31 10).toInt ∧ (σ117 31 10).toInt ≤ 12) ∧ (0 ≤ (σ117 31 11).toInt ∧ (σ117 31 11).toInt ≤ 8) ∧ ((σ117 31 10).toInt + (σ117 31 11).toInt ≤ 12) ∧ (∀ k : Nat, k < 1400 → (-1) ≤ (σ117 33 k).toInt ∧ (σ117 33 k).toInt ≤ 350) ∧ (∀ k : Nat, k < 3159 → (-1) ≤ (σ117 35 k).toInt ∧ (σ117 35 k).toInt ≤ 3) ∧ (∀ k : Nat, k < 1024 → 0 ≤ (σ117 36 k).toInt ∧ (σ117 36 k).toInt ≤ 349) := id p125
                      have z133 : (σ117 31 8).toInt = (σ 31 8).toInt := (congrArg Int32.toInt (show σ117 31 8 = (σ 31 8) from ((congrFun (f122 31 (by decide)) 8).trans ((congrFun (f74 31 (by decide)) 8).trans ((congrFun (jnp 31 eσ55 (by decide)) 8).trans (congrFun (f39 31 (by decide)) 8))))))
                      have z134 : (σ117 31 10).toInt = (σ 31 10).toInt := (congrArg Int32.toInt (show σ117 31 10 = (σ 31 10) from ((congrFun (f122 31 (by decide)) 10).trans ((congrFun (f74 31 (by decide)) 10).trans ((congrFun (jnp 31 eσ55 (by decide)) 10).trans (congrFun (f39 31 (by decide)) 10))))))
                      have z135 : (σ117 31 11).toInt = (σ 31 11).toInt := (congrArg Int32.toInt (show σ117 31 11 = (σ 31 11) from ((congrFun (f122 31 (by decide)) 11).trans ((congrFun (f74 31 (by decide)) 11).trans ((congrFun (jnp 31 eσ55 (by decide)) 11).trans (congrFun (f39 31 (by decide)) 11))))))
                      refine lv_iload hx hb dX1_judge_165 (lv_at hl 0 rfl) ?_
                      refine lv_iload hx hb dX1_judge_167 (lv_at hl 14 rfl) ?_
                      refine lv_icmp_gt (tgt := 310) hx hb dX1_judge_169 (by decide) (fun c136 => ?_) (fun c136 => ?_)
                      · have kc136 := jlt c136 rfl rfl
                        obtain ⟨x137, ex137⟩ : ∃ y : Int32, y = x58 + 1 := ⟨_, rfl⟩
                        have tx137 : x137.toInt = x58.toInt + 1 := (jadd ex137 rfl jz_1 (by omega) (by omega)).trans (by omega)
                        refine lv_iinc (v := x137) (lv' := [(10, .int x137), (14, .int x113), (13, .int r105), (12, .int r98), (11, .int x95), (7, .int x18), (6, .int x15), (5, .int x13), (0, .ref (ad 31)), (1, .int a1), (2, .ref (ad 1)), (3, .int a3), (4, .int a4), (8, .int x21), (9, .int x22)]) hx hb dX1_judge_310 hl (k := 4) rfl (by rw [ex137]; rfl) (by decide) rfl (fun ls hl => ?_)
                        refine lv_goto (tgt := 113) hx hb dX1_judge_313 (by decide) ?_
                        exact ihlp56 x137 σ117 _ _ ls (by have h90 := tx137; omega) (by have h90 := tx137; omega) (by have h90 := tx137; omega) (fun i hi => ((f122 i hi).trans (f74 i hi)))   p123 p124 p125 hP hS (lv_sub hl [0, 5, 6, 7, 8, 9, 10, 11, 12, 13, 14] rfl)
                      · have kc136 := jnlt c136 rfl rfl
                        refine lv_aload_n hx hb dX1_judge_172 rfl (lv_at hl 8 rfl) ?_
                        refine va_get (D := D) hx hb hts inlX1 hown hK hP 31 (jc_31 cI cL ad σ117 τ) rfl 0 (by decide) (hts _ kw_5_10) (fun _ h9 => h9) rfl dX1_judge_173 ?_
                        refine lv_iload hx hb dX1_judge_176 (lv_at hl 4 rfl) ?_
                        refine lv_aload_n hx hb dX1_judge_178 rfl (lv_at hl 10 rfl) ?_
                        refine lv_iload hx hb dX1_judge_179 (lv_at hl 0 rfl) ?_
                        refine jald hx hb hK hP (jc_1 cI cL ad σ117 τ) (jin rfl (by omega) (by omega)) dX1_judge_181 ?_
                        have w138 : ∀ k : Nat, k < 8 → 0 ≤ (σ117 1 k).toInt ∧ (σ117 1 k).toInt ≤ 3 := (jrr_fr (f122 1 (by decide)) (jrr_fr (f74 1 (by decide)) (jrr_fr (jnp 1 eσ55 (by decide)) (jrr_fr (f39 1 (by decide)) w12))))
                        have g139 := w138 _ (jnat (x := x113) rfl (n := 8) (by omega) (by decide))
                        refine jtopr (y := (σ 1 x113.toNatClampNeg)) (by rw [f122 1 (by decide), f74 1 (by decide), jnp 1 eσ55 (by decide), f39 1 (by decide)]) ?_
                        rw [f122 1 (by decide), f74 1 (by decide), jnp 1 eσ55 (by decide), f39 1 (by decide)] at g139
                        refine lv_iload hx hb dX1_judge_182 (lv_at hl 2 rfl) ?_
                        refine jcallV (As := [.int x58, .int (σ 1 x113.toNatClampNeg), .int r98]) (rest := []) ⟨hx, hb, hml, hown, hts⟩ hK hP hA hS hZ (c_X5_runsOf_26 l D cI cL ad zz hJ σ117 τ x58 (x58.toInt) rfl (σ 1 x113.toNatClampNeg) ((σ 1 x113.toNatClampNeg).toInt) rfl r98 (r98.toInt) rfl (by omega) (by omega) (by omega)) cw_RX1_139 (jc_26 cI cL ad σ117 τ) rfl ⟨Nat.le_of_ble_eq_true rfl, Nat.le_of_ble_eq_true rfl⟩ rfl rfl rfl hl.1 rfl (Nat.le_of_ble_eq_true rfl) dX1_judge_184 ⟨Nat.zero_le _, Nat.zero_le _⟩ (fun r141 σ140 τ140 H locs h140 hP hS => ?_)
                        obtain ⟨⟨rfl, rfl⟩, w142, h140⟩ := h140
                        refine lv_istore (lv' := [(15, .int r141), (14, .int x113), (13, .int r105), (12, .int r98), (11, .int x95), (10, .int x58), (7, .int x18), (6, .int x15), (5, .int x13), (0, .ref (ad 31)), (1, .int a1), (2, .ref (ad 1)), (3, .int a3), (4, .int a4), (8, .int x21), (9, .int x22)]) hx hb dX1_judge_187 hl (by decide) rfl (fun ls hl => ?_)
                        refine lv_aload_n hx hb dX1_judge_189 rfl (lv_at hl 9 rfl) ?_
                        refine va_get (D := D) hx hb hts inlX1 hown hK hP 31 (jc_31 cI cL ad σ117 τ) rfl 0 (by decide) (hts _ kw_5_10) (fun _ h9 => h9) rfl dX1_judge_190 ?_
                        refine lv_iload hx hb dX1_judge_193 (lv_at hl 5 rfl) ?_
                        refine lv_aload_n hx hb dX1_judge_195 rfl (lv_at hl 11 rfl) ?_
                        refine lv_iload hx hb dX1_judge_196 (lv_at hl 1 rfl) ?_
                        refine jald hx hb hK hP (jc_1 cI cL ad σ117 τ) (jin rfl (by omega) (by omega)) dX1_judge_198 ?_
                        refine jtopr (y := (σ 1 x113.toNatClampNeg)) (by rw [f122 1 (by decide), f74 1 (by decide), jnp 1 eσ55 (by decide), f39 1 (by decide)]) ?_
                        refine lv_iload hx hb dX1_judge_199 (lv_at hl 3 rfl) ?_
                        refine lv_iload hx hb dX1_judge_201 (lv_at hl 2 rfl) ?_
                        refine lv_aload_n hx hb dX1_judge_203 rfl (lv_at hl 9 rfl) ?_
                        refine va_get (D := D) hx hb hts inlX1 hown hK hP 31 (jc_31 cI cL ad σ117 τ) rfl 10 (by decide) (hts _ kw_28_9) (fun _ h9 => h9) rfl dX1_judge_204 ?_
                        have m143 : σ117 31 10 = (σ 31 10) := ((congrFun (f122 31 (by decide)) 10).trans ((congrFun (f74 31 (by decide)) 10).trans ((congrFun (jnp 31 eσ55 (by decide)) 10).trans (congrFun (f39 31 (by decide)) 10))))
                        refine jtopr m143 ?_
                        refine lv_iload hx hb dX1_judge_207 (lv_at hl 7 rfl) ?_
                        have g144 := jrg (rfl : (σ 31 10).toInt = (σ 31 10).toInt)
                        have g145 := jrg (rfl : x15.toInt = x15.toInt)
                        refine lv_iadd hx hb dX1_judge_209 ?_
                        refine lv_topi (fun x146 ex146 => ?_)
                        have tx146 : x146.toInt = (σ 31 10).toInt + x15.toInt := (jadd ex146 rfl rfl (by omega) (by omega)).trans (by omega)
                        refine lv_iload hx hb dX1_judge_210 (lv_at hl 1 rfl) ?_
                        have I147 : jI22 σ117 := jI22_fr ((congrFun (f122 22 (by decide)) 0).trans ((congrFun (f74 22 (by decide)) 0).trans ((congrFun (jnp 22 eσ55 (by decide)) 0).trans (congrFun (f39 22 (by decide)) 0)))) ((f122 23 (by decide)).trans ((f74 23 (by decide)).trans ((jnp 23 eσ55 (by decide)).trans (f39 23 (by decide))))) hI22
                        have I148 : jI26 σ117 := jI26_fr ((congrFun (f122 26 (by decide)) 6).trans ((congrFun (f74 26 (by decide)) 6).trans ((congrFun (jnp 26 eσ55 (by decide)) 6).trans (congrFun (f39 26 (by decide)) 6)))) hI26
                        refine jcallV (As := [.int x58, .int (σ 1 x113.toNatClampNeg), .int r98, .int r105, .int x146, .int x113]) (rest := []) ⟨hx, hb, hml, hown, hts⟩ hK hP hA hS hZ (c_X5_outOf_26 l D cI cL ad zz hJ σ117 τ x58 (x58.toInt) rfl (σ 1 x113.toNatClampNeg) ((σ 1 x113.toNatClampNeg).toInt) rfl r98 (r98.toInt) rfl r105 (r105.toInt) rfl x146 ((σ 31 10).toInt + x15.toInt) tx146 x113 (x113.toInt) rfl I147 I148 p123 p124 (by omega) (by omega) (by omega) (by omega) (by omega) (by omega)) cw_RX1_142 (jc_26 cI cL ad σ117 τ) rfl ⟨Nat.le_of_ble_eq_true rfl, Nat.le_of_ble_eq_true rfl⟩ rfl rfl rfl hl.1 rfl (Nat.le_of_ble_eq_true rfl) dX1_judge_212 ⟨Nat.zero_le _, Nat.zero_le _⟩ (fun r150 σ149 τ149 H locs h149 hP hS => ?_)
                        obtain ⟨rfl, f151, p152, p153, w154, h149⟩ := h149
                        refine lv_istore (lv' := [(16, .int r150), (15, .int r141), (14, .int x113), (13, .int r105), (12, .int r98), (11, .int x95), (10, .int x58), (7, .int x18), (6, .int x15), (5, .int x13), (0, .ref (ad 31)), (1, .int a1), (2, .ref (ad 1)), (3, .int a3), (4, .int a4), (8, .int x21), (9, .int x22)]) hx hb dX1_judge_215 hl (by decide) rfl (fun ls hl => ?_)
                        refine lv_aload_n hx hb dX1_judge_217 rfl (lv_at hl 10 rfl) ?_
                        refine va_get (D := D) hx hb hts inlX1 hown hK hP 31 (jc_31 cI cL ad σ149 τ) rfl 1 (by decide) (hts _ kw_5_11) (fun _ h9 => h9) rfl dX1_judge_218 ?_
                        refine lv_iload hx hb dX1_judge_221 (lv_at hl 1 rfl) ?_
                        refine lv_iload hx hb dX1_judge_223 (lv_at hl 0 rfl) ?_
                        refine lv_aload_n hx hb dX1_judge_225 rfl (lv_at hl 10 rfl) ?_
                        refine va_get (D := D) hx hb hts inlX1 hown hK hP 31 (jc_31 cI cL ad σ149 τ) rfl 4 (by decide) (hts _ kw_5_5) (fun _ h9 => h9) rfl dX1_judge_226 ?_
                        refine lv_iload hx hb dX1_judge_229 (lv_at hl 5 rfl) ?_
                        refine lv_iload hx hb dX1_judge_231 (lv_at hl 2 rfl) ?_
                        have g156 := jrg (rfl : x113.toInt = x113.toInt)
                        refine lv_iadd hx hb dX1_judge_233 ?_
                        refine lv_topi (fun x157 ex157 => ?_)
                        have tx157 : x157.toInt = 9 * (σ 33 x92.toNatClampNeg).toInt + x113.toInt := (jadd ex157 tx95 rfl (by omega) (by omega)).trans (by omega)
                        refine lv_iconst (v := 1) hx hb dX1_judge_234 (by decide) ?_
                        refine lv_iadd hx hb dX1_judge_235 ?_
                        refine lv_topi (fun x158 ex158 => ?_)
                        have tx158 : x158.toInt = 9 * (σ 33 x92.toNatClampNeg).toInt + x113.toInt + 1 := (jadd ex158 tx157 jz_1 (by omega) (by omega)).trans (by omega)
                        refine jald hx hb hK hP (jc_34 cI cL ad σ149 τ) (jin tx158 (by omega) (by omega)) dX1_judge_236 ?_
                        refine jtopr (y := (σ117 34 x158.toNatClampNeg)) (by rw [f151 34 (by decide)]) ?_
                        refine lv_aload_n hx hb dX1_judge_237 rfl (lv_at hl 10 rfl) ?_
                        refine va_get (D := D) hx hb hts inlX1 hown hK hP 31 (jc_31 cI cL ad σ149 τ) rfl 4 (by decide) (hts _ kw_5_5) (fun _ h9 => h9) rfl dX1_judge_238 ?_
                        refine lv_iload hx hb dX1_judge_241 (lv_at hl 5 rfl) ?_
                        refine lv_iload hx hb dX1_judge_243 (lv_at hl 2 rfl) ?_
                        refine lv_iadd hx hb dX1_judge_245 ?_
                        refine lv_topi (fun x159 ex159 => ?_)
                        have tx159 : x159.toInt = 9 * (σ 33 x92.toNatClampNeg).toInt + x113.toInt := (jadd ex159 tx95 rfl (by omega) (by omega)).trans (by omega)
                        refine jald hx hb hK hP (jc_34 cI cL ad σ149 τ) (jin tx159 (by omega) (by omega)) dX1_judge_246 ?_
                        refine jtopr (y := (σ117 34 x159.toNatClampNeg)) (by rw [f151 34 (by decide)]) ?_
                        refine jcallV (As := [.int r141, .int r150, .int (σ117 34 x158.toNatClampNeg), .int (σ117 34 x159.toNatClampNeg)]) (rest := []) ⟨hx, hb, hml, hown, hts⟩ hK hP hA hS hZ (c_X6_meanOf_16 l D cI cL ad zz hJ σ149 τ r141 (r141.toInt) rfl r150 (r150.toInt) rfl (σ117 34 x158.toNatClampNeg) ((σ117 34 x158.toNatClampNeg).toInt) rfl (σ117 34 x159.toNatClampNeg) ((σ117 34 x159.toNatClampNeg).toInt) rfl) cw_RX1_146 (jc_16 cI cL ad σ149 τ) rfl ⟨Nat.le_of_ble_eq_true rfl, Nat.le_of_ble_eq_true rfl⟩ rfl rfl rfl hl.1 rfl (Nat.le_of_ble_eq_true rfl) dX1_judge_247 ⟨Nat.zero_le _, Nat.zero_le _⟩ (fun r161 σ160 τ160 H locs h160 hP hS => ?_)
                        obtain ⟨⟨rfl, rfl⟩, w162, h160⟩ := h160
                        refine lv_istore (lv' := [(17, .int r161), (16, .int r150), (15, .int r141), (14, .int x113), (13, .int r105), (12, .int r98), (11, .int x95), (10, .int x58), (7, .int x18), (6, .int x15), (5, .int x13), (0, .ref (ad 31)), (1, .int a1), (2, .ref (ad 1)), (3, .int a3), (4, .int a4), (8, .int x21), (9, .int x22)]) hx hb dX1_judge_250 hl (by decide) rfl (fun ls hl => ?_)
                        refine lv_aload_n hx hb dX1_judge_252 rfl (lv_at hl 11 rfl) ?_
                        refine va_get (D := D) hx hb hts inlX1 hown hK hP 31 (jc_31 cI cL ad σ149 τ) rfl 5 (by decide) (hts _ kw_5_6) (fun _ h9 => h9) rfl dX1_judge_253 ?_
                        refine lv_iload hx hb dX1_judge_256 (lv_at hl 8 rfl) ?_
                        refine lv_iload hx hb dX1_judge_258 (lv_at hl 3 rfl) ?_
                        refine lv_iadd hx hb dX1_judge_260 ?_
                        refine lv_topi (fun x163 ex163 => ?_)
                        have tx163 : x163.toInt = 9 * A1 + x113.toInt := (jadd ex163 tx18 rfl (by omega) (by omega)).trans (by omega)
                        refine jald hx hb hK hP (jc_35 cI cL ad σ149 τ) (jin tx163 (by omega) (by omega)) dX1_judge_261 ?_
                        have w164 : ∀ k : Nat, k < 3159 → (-1) ≤ (σ149 35 k).toInt ∧ (σ149 35 k).toInt ≤ 3 := (jrr_fr (f151 35 (by decide)) w131)
                        have g165 := w164 _ (jnat (x := x163) tx163 (n := 3159) (by omega) (by decide))
                        refine jtopr (y := (σ117 35 x163.toNatClampNeg)) (by rw [f151 35 (by decide)]) ?_
                        rw [f151 35 (by decide)] at g165
                        refine lv_if_lt (tgt := 280) hx hb dX1_judge_262 (by decide) (fun c166 => ?_) (fun c166 => ?_)
                        · have kc166 := jlt c166 rfl jz_0
                          refine lv_aload_n hx hb dX1_judge_280 rfl (lv_at hl 11 rfl) ?_
                          refine va_get (D := D) hx hb hts inlX1 hown hK hP 31 (jc_31 cI cL ad σ149 τ) rfl 4 (by decide) (hts _ kw_5_5) (fun _ h9 => h9) rfl dX1_judge_281 ?_
                          refine lv_iload hx hb dX1_judge_284 (lv_at hl 8 rfl) ?_
                          refine lv_iload hx hb dX1_judge_286 (lv_at hl 3 rfl) ?_
                          refine lv_iadd hx hb dX1_judge_288 ?_
                          refine lv_topi (fun x167 ex167 => ?_)
                          have tx167 : x167.toInt = 9 * A1 + x113.toInt := (jadd ex167 tx18 rfl (by omega) (by omega)).trans (by omega)
                          refine lv_iload hx hb dX1_judge_289 (lv_at hl 0 rfl) ?_
                          refine jast hx hb hK hP hJ hA hS (jc_34 cI cL ad σ149 τ) (ja_34 cI cL ad σ149 τ _ _) (jin tx167 (by omega) (by omega)) dX1_judge_291 (fun σ168 H locs eσ168 hP hS => ?_)
                          refine lv_aload_n hx hb dX1_judge_292 rfl (lv_at hl 11 rfl) ?_
                          refine va_get (D := D) hx hb hts inlX1 hown hK hP 31 (jc_31 cI cL ad σ168 τ) rfl 5 (by decide) (hts _ kw_5_6) (fun _ h9 => h9) rfl dX1_judge_293 ?_
                          refine lv_iload hx hb dX1_judge_296 (lv_at hl 8 rfl) ?_
                          refine lv_iload hx hb dX1_judge_298 (lv_at hl 3 rfl) ?_
                          refine lv_iadd hx hb dX1_judge_300 ?_
                          refine lv_topi (fun x169 ex169 => ?_)
                          have tx169 : x169.toInt = 9 * A1 + x113.toInt := (jadd ex169 tx18 rfl (by omega) (by omega)).trans (by omega)
                          refine lv_iload hx hb dX1_judge_301 (lv_at hl 7 rfl) ?_
                          refine jast hx hb hK hP hJ hA hS (jc_35 cI cL ad σ168 τ) (ja_35 cI cL ad σ168 τ _ _) (jin tx169 (by omega) (by omega)) dX1_judge_303 (fun σ170 H locs eσ170 hP hS => ?_)
                          obtain ⟨x171, ex171⟩ : ∃ y : Int32, y = x113 + 1 := ⟨_, rfl⟩
                          have tx171 : x171.toInt = x113.toInt + 1 := (jadd ex171 rfl jz_1 (by omega) (by omega)).trans (by omega)
                          refine lv_iinc (v := x171) (lv' := [(14, .int x171), (17, .int r161), (16, .int r150), (15, .int r141), (13, .int r105), (12, .int r98), (11, .int x95), (10, .int x58), (7, .int x18), (6, .int x15), (5, .int x13), (0, .ref (ad 31)), (1, .int a1), (2, .ref (ad 1)), (3, .int a3), (4, .int a4), (8, .int x21), (9, .int x22)]) hx hb dX1_judge_304 hl (k := 3) rfl (by rw [ex171]; rfl) (by decide) rfl (fun ls hl => ?_)
                          refine lv_goto (tgt := 165) hx hb dX1_judge_307 (by decide) ?_
                          have p172 : jN67 σ170 := jN67.fr ((jnp 24 eσ170 (by decide)).trans (jnp 24 eσ168 (by decide))) p152
                          have p173 : jBl σ170 := jBl.fr ((congrFun (jnp 22 eσ170 (by decide)) 0).trans (congrFun (jnp 22 eσ168 (by decide)) 0)) ((congrFun (jnp 22 eσ170 (by decide)) 1).trans (congrFun (jnp 22 eσ168 (by decide)) 1)) ((jnp 23 eσ170 (by decide)).trans (jnp 23 eσ168 (by decide))) ((congrFun (jnp 26 eσ170 (by decide)) 6).trans (congrFun (jnp 26 eσ168 (by decide)) 6)) ((congrFun (jnp 26 eσ170 (by decide)) 7).trans (congrFun (jnp 26 eσ168 (by decide)) 7)) ((jnp 29 eσ170 (by decide)).trans (jnp 29 eσ168 (by decide))) ((jnp 30 eσ170 (by decide)).trans (jnp 30 eσ168 (by decide))) p153
                          have z174 : (σ170 31 8).toInt = (σ 31 8).toInt := (congrArg Int32.toInt (show σ170 31 8 = (σ 31 8) from ((congrFun (jnp 31 eσ170 (by decide)) 8).trans ((congrFun (jnp 31 eσ168 (by decide)) 8).trans ((congrFun (f151 31 (by decide)) 8).trans ((congrFun (f122 31 (by decide)) 8).trans ((congrFun (f74 31 (by decide)) 8).trans ((congrFun (jnp 31 eσ55 (by decide)) 8).trans (congrFun (f39 31 (by decide)) 8)))))))))
                          have z175 : (σ170 31 10).toInt = (σ 31 10).toInt := (congrArg Int32.toInt (show σ170 31 10 = (σ 31 10) from ((congrFun (jnp 31 eσ170 (by decide)) 10).trans ((congrFun (jnp 31 eσ168 (by decide)) 10).trans ((congrFun (f151 31 (by decide)) 10).trans m143)))))
                          have z176 : (σ170 31 11).toInt = (σ 31 11).toInt := (congrArg Int32.toInt (show σ170 31 11 = (σ 31 11) from ((congrFun (jnp 31 eσ170 (by decide)) 11).trans ((congrFun (jnp 31 eσ168 (by decide)) 11).trans ((congrFun (f151 31 (by decide)) 11).trans ((congrFun (f122 31 (by decide)) 11).trans ((congrFun (f74 31 (by decide)) 11).trans ((congrFun (jnp 31 eσ55 (by decide)) 11).trans (congrFun (f39 31 (by decide)) 11)))))))))
                          have w177 : ∀ k : Nat, k < 1400 → (-1) ≤ (σ170 33 k).toInt ∧ (σ170 33 k).toInt ≤ 350 := (jrr_fr (jnp 33 eσ170 (by decide)) (jrr_fr (jnp 33 eσ168 (by decide)) (jrr_fr (f151 33 (by decide)) w130)))
                          have w178 : ∀ k : Nat, k < 3159 → (-1) ≤ (σ170 35 k).toInt ∧ (σ170 35 k).toInt ≤ 3 := (by rw [eσ170]; exact jrr_up (jrr_fr (jnp 35 eσ168 (by decide)) w164) (by omega) (by omega))
                          have w179 : ∀ k : Nat, k < 1024 → 0 ≤ (σ170 36 k).toInt ∧ (σ170 36 k).toInt ≤ 349 := (jrr_fr (jnp 36 eσ170 (by decide)) (jrr_fr (jnp 36 eσ168 (by decide)) (jrr_fr (f151 36 (by decide)) w132)))
                          have I180 : jI31 σ170 := ⟨(by omega), (by omega), (by omega), (by omega), w177, w178, w179⟩
                          exact ihlp111 x171 σ170 _ _ ls (by have h90 := tx171; omega) (by have h90 := tx171; omega) (by have h90 := tx171; omega) (fun i hi => ((jnp i eσ170 (imp_97 i hi)).trans ((jnp i eσ168 (imp_95 i hi)).trans ((f151 i (imp_98 i hi)).trans (f122 i hi)))))   p172 p173 I180 hP hS (lv_sub hl [0, 4, 5, 6, 7, 8, 9, 10, 11, 12, 13, 14, 15, 16, 17] rfl)
                        · have kc166 := jnlt c166 rfl jz_0
                          refine lv_iload hx hb dX1_judge_265 (lv_at hl 0 rfl) ?_
                          refine lv_aload_n hx hb dX1_judge_267 rfl (lv_at hl 11 rfl) ?_
                          refine va_get (D := D) hx hb hts inlX1 hown hK hP 31 (jc_31 cI cL ad σ149 τ) rfl 4 (by decide) (hts _ kw_5_5) (fun _ h9 => h9) rfl dX1_judge_268 ?_
                          refine lv_iload hx hb dX1_judge_271 (lv_at hl 8 rfl) ?_
                          refine lv_iload hx hb dX1_judge_273 (lv_at hl 3 rfl) ?_
                          refine lv_iadd hx hb dX1_judge_275 ?_
                          refine lv_topi (fun x181 ex181 => ?_)
                          have tx181 : x181.toInt = 9 * A1 + x113.toInt := (jadd ex181 tx18 rfl (by omega) (by omega)).trans (by omega)
                          refine jald hx hb hK hP (jc_34 cI cL ad σ149 τ) (jin tx181 (by omega) (by omega)) dX1_judge_276 ?_
                          refine jtopr (y := (σ117 34 x181.toNatClampNeg)) (by rw [f151 34 (by decide)]) ?_
                          refine lv_icmp_ge (tgt := 304) hx hb dX1_judge_277 (by decide) (fun c182 => ?_) (fun c182 => ?_)
                          · have kc182 := jle c182 rfl rfl
                            obtain ⟨x183, ex183⟩ : ∃ y : Int32, y = x113 + 1 := ⟨_, rfl⟩
                            have tx183 : x183.toInt = x113.toInt + 1 := (jadd ex183 rfl jz_1 (by omega) (by omega)).trans (by omega)
                            refine lv_iinc (v := x183) (lv' := [(14, .int x183), (17, .int r161), (16, .int r150), (15, .int r141), (13, .int r105), (12, .int r98), (11, .int x95), (10, .int x58), (7, .int x18), (6, .int x15), (5, .int x13), (0, .ref (ad 31)), (1, .int a1), (2, .ref (ad 1)), (3, .int a3), (4, .int a4), (8, .int x21), (9, .int x22)]) hx hb dX1_judge_304 hl (k := 3) rfl (by rw [ex183]; rfl) (by decide) rfl (fun ls hl => ?_)
                            refine lv_goto (tgt := 165) hx hb dX1_judge_307 (by decide) ?_
                            have I184 : jI31 σ149 := jI31_fr (congrFun (f151 31 (by decide)) 8) (congrFun (f151 31 (by decide)) 10) (congrFun (f151 31 (by decide)) 11) (f151 33 (by decide)) (f151 35 (by decide)) (f151 36 (by decide)) p125
                            exact ihlp111 x183 σ149 _ _ ls (by have h90 := tx183; omega) (by have h90 := tx183; omega) (by have h90 := tx183; omega) (fun i hi => ((f151 i (imp_98 i hi)).trans (f122 i hi)))   p152 p153 I184 hP hS (lv_sub hl [0, 4, 5, 6, 7, 8, 9, 10, 11, 12, 13, 14, 15, 16, 17] rfl)
                          · have kc182 := jnle c182 rfl rfl
                            refine lv_aload_n hx hb dX1_judge_280 rfl (lv_at hl 11 rfl) ?_
                            refine va_get (D := D) hx hb hts inlX1 hown hK hP 31 (jc_31 cI cL ad σ149 τ) rfl 4 (by decide) (hts _ kw_5_5) (fun _ h9 => h9) rfl dX1_judge_281 ?_
                            refine lv_iload hx hb dX1_judge_284 (lv_at hl 8 rfl) ?_
                            refine lv_iload hx hb dX1_judge_286 (lv_at hl 3 rfl) ?_
                            refine lv_iadd hx hb dX1_judge_288 ?_
                            refine lv_topi (fun x185 ex185 => ?_)
                            have tx185 : x185.toInt = 9 * A1 + x113.toInt := (jadd ex185 tx18 rfl (by omega) (by omega)).trans (by omega)
                            refine lv_iload hx hb dX1_judge_289 (lv_at hl 0 rfl) ?_
                            refine jast hx hb hK hP hJ hA hS (jc_34 cI cL ad σ149 τ) (ja_34 cI cL ad σ149 τ _ _) (jin tx185 (by omega) (by omega)) dX1_judge_291 (fun σ186 H locs eσ186 hP hS => ?_)
                            refine lv_aload_n hx hb dX1_judge_292 rfl (lv_at hl 11 rfl) ?_
                            refine va_get (D := D) hx hb hts inlX1 hown hK hP 31 (jc_31 cI cL ad σ186 τ) rfl 5 (by decide) (hts _ kw_5_6) (fun _ h9 => h9) rfl dX1_judge_293 ?_
                            refine lv_iload hx hb dX1_judge_296 (lv_at hl 8 rfl) ?_
                            refine lv_iload hx hb dX1_judge_298 (lv_at hl 3 rfl) ?_
                            refine lv_iadd hx hb dX1_judge_300 ?_
                            refine lv_topi (fun x187 ex187 => ?_)
                            have tx187 : x187.toInt = 9 * A1 + x113.toInt := (jadd ex187 tx18 rfl (by omega) (by omega)).trans (by omega)
                            refine lv_iload hx hb dX1_judge_301 (lv_at hl 7 rfl) ?_
                            refine jast hx hb hK hP hJ hA hS (jc_35 cI cL ad σ186 τ) (ja_35 cI cL ad σ186 τ _ _) (jin tx187 (by omega) (by omega)) dX1_judge_303 (fun σ188 H locs eσ188 hP hS => ?_)
                            obtain ⟨x189, ex189⟩ : ∃ y : Int32, y = x113 + 1 := ⟨_, rfl⟩
                            have tx189 : x189.toInt = x113.toInt + 1 := (jadd ex189 rfl jz_1 (by omega) (by omega)).trans (by omega)
                            refine lv_iinc (v := x189) (lv' := [(14, .int x189), (17, .int r161), (16, .int r150), (15, .int r141), (13, .int r105), (12, .int r98), (11, .int x95), (10, .int x58), (7, .int x18), (6, .int x15), (5, .int x13), (0, .ref (ad 31)), (1, .int a1), (2, .ref (ad 1)), (3, .int a3), (4, .int a4), (8, .int x21), (9, .int x22)]) hx hb dX1_judge_304 hl (k := 3) rfl (by rw [ex189]; rfl) (by decide) rfl (fun ls hl => ?_)
                            refine lv_goto (tgt := 165) hx hb dX1_judge_307 (by decide) ?_
                            have p190 : jN67 σ188 := jN67.fr ((jnp 24 eσ188 (by decide)).trans (jnp 24 eσ186 (by decide))) p152
                            have p191 : jBl σ188 := jBl.fr ((congrFun (jnp 22 eσ188 (by decide)) 0).trans (congrFun (jnp 22 eσ186 (by decide)) 0)) ((congrFun (jnp 22 eσ188 (by decide)) 1).trans (congrFun (jnp 22 eσ186 (by decide)) 1)) ((jnp 23 eσ188 (by decide)).trans (jnp 23 eσ186 (by decide))) ((congrFun (jnp 26 eσ188 (by decide)) 6).trans (congrFun (jnp 26 eσ186 (by decide)) 6)) ((congrFun (jnp 26 eσ188 (by decide)) 7).trans (congrFun (jnp 26 eσ186 (by decide)) 7)) ((jnp 29 eσ188 (by decide)).trans (jnp 29 eσ186 (by decide))) ((jnp 30 eσ188 (by decide)).trans (jnp 30 eσ186 (by decide))) p153
                            have z192 : (σ188 31 8).toInt = (σ 31 8).toInt := (congrArg Int32.toInt (show σ188 31 8 = (σ 31 8) from ((congrFun (jnp 31 eσ188 (by decide)) 8).trans ((congrFun (jnp 31 eσ186 (by decide)) 8).trans ((congrFun (f151 31 (by decide)) 8).trans ((congrFun (f122 31 (by decide)) 8).trans ((congrFun (f74 31 (by decide)) 8).trans ((congrFun (jnp 31 eσ55 (by decide)) 8).trans (congrFun (f39 31 (by decide)) 8)))))))))
                            have z193 : (σ188 31 10).toInt = (σ 31 10).toInt := (congrArg Int32.toInt (show σ188 31 10 = (σ 31 10) from ((congrFun (jnp 31 eσ188 (by decide)) 10).trans ((congrFun (jnp 31 eσ186 (by decide)) 10).trans ((congrFun (f151 31 (by decide)) 10).trans m143)))))
                            have z194 : (σ188 31 11).toInt = (σ 31 11).toInt := (congrArg Int32.toInt (show σ188 31 11 = (σ 31 11) from ((congrFun (jnp 31 eσ188 (by decide)) 11).trans ((congrFun (jnp 31 eσ186 (by decide)) 11).trans ((congrFun (f151 31 (by decide)) 11).trans ((congrFun (f122 31 (by decide)) 11).trans ((congrFun (f74 31 (by decide)) 11).trans ((congrFun (jnp 31 eσ55 (by decide)) 11).trans (congrFun (f39 31 (by decide)) 11)))))))))
                            have w195 : ∀ k : Nat, k < 1400 → (-1) ≤ (σ188 33 k).toInt ∧ (σ188 33 k).toInt ≤ 350 := (jrr_fr (jnp 33 eσ188 (by decide)) (jrr_fr (jnp 33 eσ186 (by decide)) (jrr_fr (f151 33 (by decide)) w130)))
                            have w196 : ∀ k : Nat, k < 3159 → (-1) ≤ (σ188 35 k).toInt ∧ (σ188 35 k).toInt ≤ 3 := (by rw [eσ188]; exact jrr_up (jrr_fr (jnp 35 eσ186 (by decide)) w164) (by omega) (by omega))
                            have w197 : ∀ k : Nat, k < 1024 → 0 ≤ (σ188 36 k).toInt ∧ (σ188 36 k).toInt ≤ 349 := (jrr_fr (jnp 36 eσ188 (by decide)) (jrr_fr (jnp 36 eσ186 (by decide)) (jrr_fr (f151 36 (by decide)) w132)))
                            have I198 : jI31 σ188 := ⟨(by omega), (by omega), (by omega), (by omega), w195, w196, w197⟩
                            exact ihlp111 x189 σ188 _ _ ls (by have h90 := tx189; omega) (by have h90 := tx189; omega) (by have h90 := tx189; omega) (fun i hi => ((jnp i eσ188 (imp_97 i hi)).trans ((jnp i eσ186 (imp_95 i hi)).trans ((f151 i (imp_98 i hi)).trans (f122 i hi)))))   p190 p191 I198 hP hS (lv_sub hl [0, 4, 5, 6, 7, 8, 9, 10, 11, 12, 13, 14, 15, 16, 17] rfl)
                  exact lp111 1000000 x21 σ66 _ _ ls (by omega) (by omega) (by omega) (fun _ _ => rfl)  p75 p76 p77 hP hS hl
                · have kc96 := jnle c96 jz_0 tx95
                  refine lv_goto (tgt := 310) hx hb dX1_judge_140 (by decide) ?_
                  obtain ⟨x199, ex199⟩ : ∃ y : Int32, y = x58 + 1 := ⟨_, rfl⟩
                  have tx199 : x199.toInt = x58.toInt + 1 := (jadd ex199 rfl jz_1 (by omega) (by omega)).trans (by omega)
                  refine lv_iinc (v := x199) (lv' := [(10, .int x199), (11, .int x95), (7, .int x18), (6, .int x15), (5, .int x13), (0, .ref (ad 31)), (1, .int a1), (2, .ref (ad 1)), (3, .int a3), (4, .int a4), (8, .int x21), (9, .int x22)]) hx hb dX1_judge_310 hl (k := 1) rfl (by rw [ex199]; rfl) (by decide) rfl (fun ls hl => ?_)
                  refine lv_goto (tgt := 113) hx hb dX1_judge_313 (by decide) ?_
                  exact ihlp56 x199 σ66 _ _ ls (by have h90 := tx199; omega) (by have h90 := tx199; omega) (by have h90 := tx199; omega) (fun i hi => (f74 i hi))   p75 p76 p77 hP hS (lv_sub hl [0, 2, 3, 4, 5, 6, 7, 8, 9, 10, 11] rfl)
          exact lp56 1000000 0 σ55 _ _ ls (by have h90 := jz_0; omega) (by have h90 := jz_0; omega) (by have h90 := jz_0; omega) (fun _ _ => rfl)  p69 p70 I67 hP hS hl
        · have kc51 := jnlt c51 rfl rfl
          refine lv_aload_n hx hb dX1_judge_66 rfl (lv_at hl 4 rfl) ?_
          refine va_get (D := D) hx hb hts inlX1 hown hK hP 31 (jc_31 cI cL ad σ34 τ) rfl 4 (by decide) (hts _ kw_5_5) (fun _ h9 => h9) rfl dX1_judge_67 ?_
          refine lv_iload hx hb dX1_judge_70 (lv_at hl 1 rfl) ?_
          refine lv_iload hx hb dX1_judge_72 (lv_at hl 0 rfl) ?_
          have g200 := jrg (rfl : x33.toInt = x33.toInt)
          refine lv_iadd hx hb dX1_judge_74 ?_
          refine lv_topi (fun x201 ex201 => ?_)
          have tx201 : x201.toInt = 9 * A1 + x33.toInt := (jadd ex201 tx18 rfl (by omega) (by omega)).trans (by omega)
          refine lv_iconst (v := 0) hx hb dX1_judge_75 (by decide) ?_
          refine jast hx hb hK hP hJ hA hS (jc_34 cI cL ad σ34 τ) (ja_34 cI cL ad σ34 τ _ _) (jin tx201 (by omega) (by omega)) dX1_judge_76 (fun σ202 H locs eσ202 hP hS => ?_)
          refine lv_aload_n hx hb dX1_judge_77 rfl (lv_at hl 4 rfl) ?_
          refine va_get (D := D) hx hb hts inlX1 hown hK hP 31 (jc_31 cI cL ad σ202 τ) rfl 5 (by decide) (hts _ kw_5_6) (fun _ h9 => h9) rfl dX1_judge_78 ?_
          refine lv_iload hx hb dX1_judge_81 (lv_at hl 1 rfl) ?_
          refine lv_iload hx hb dX1_judge_83 (lv_at hl 0 rfl) ?_
          refine lv_iadd hx hb dX1_judge_85 ?_
          refine lv_topi (fun x203 ex203 => ?_)
          have tx203 : x203.toInt = 9 * A1 + x33.toInt := (jadd ex203 tx18 rfl (by omega) (by omega)).trans (by omega)
          refine lv_iconst (v := (-1)) hx hb dX1_judge_86 (by decide) ?_
          refine jast hx hb hK hP hJ hA hS (jc_35 cI cL ad σ202 τ) (ja_35 cI cL ad σ202 τ _ _) (jin tx203 (by omega) (by omega)) dX1_judge_87 (fun σ204 H locs eσ204 hP hS => ?_)
          obtain ⟨x205, ex205⟩ : ∃ y : Int32, y = x33 + 1 := ⟨_, rfl⟩
          have tx205 : x205.toInt = x33.toInt + 1 := (jadd ex205 rfl jz_1 (by omega) (by omega)).trans (by omega)
          refine lv_iinc (v := x205) (lv' := [(10, .int x205), (7, .int x18), (6, .int x15), (5, .int x13), (0, .ref (ad 31)), (1, .int a1), (2, .ref (ad 1)), (3, .int a3), (4, .int a4), (8, .int x21), (9, .int x22)]) hx hb dX1_judge_88 hl (k := 0) rfl (by rw [ex205]; rfl) (by decide) rfl (fun ls hl => ?_)
          refine lv_goto (tgt := 59) hx hb dX1_judge_91 (by decide) ?_
          have z206 : (σ204 31 8).toInt = (σ 31 8).toInt := (congrArg Int32.toInt (show σ204 31 8 = (σ 31 8) from ((congrFun (jnp 31 eσ204 (by decide)) 8).trans ((congrFun (jnp 31 eσ202 (by decide)) 8).trans (congrFun (f39 31 (by decide)) 8)))))
          have z207 : (σ204 31 10).toInt = (σ 31 10).toInt := (congrArg Int32.toInt (show σ204 31 10 = (σ 31 10) from ((congrFun (jnp 31 eσ204 (by decide)) 10).trans ((congrFun (jnp 31 eσ202 (by decide)) 10).trans (congrFun (f39 31 (by decide)) 10)))))
          have z208 : (σ204 31 11).toInt = (σ 31 11).toInt := (congrArg Int32.toInt (show σ204 31 11 = (σ 31 11) from ((congrFun (jnp 31 eσ204 (by decide)) 11).trans ((congrFun (jnp 31 eσ202 (by decide)) 11).trans (congrFun (f39 31 (by decide)) 11)))))
          have w209 : ∀ k : Nat, k < 1400 → (-1) ≤ (σ204 33 k).toInt ∧ (σ204 33 k).toInt ≤ 350 := (jrr_fr (jnp 33 eσ204 (by decide)) (jrr_fr (jnp 33 eσ202 (by decide)) w45))
          have w210 : ∀ k : Nat, k < 3159 → (-1) ≤ (σ204 35 k).toInt ∧ (σ204 35 k).toInt ≤ 3 := (by rw [eσ204]; exact jrr_up (jrr_fr (jnp 35 eσ202 (by decide)) w46) (by have h9 := jz_m1; omega) (by have h9 := jz_m1; omega))
          have w211 : ∀ k : Nat, k < 1024 → 0 ≤ (σ204 36 k).toInt ∧ (σ204 36 k).toInt ≤ 349 := (jrr_fr (jnp 36 eσ204 (by decide)) (jrr_fr (jnp 36 eσ202 (by decide)) w47))
          have I212 : jI31 σ204 := ⟨(by omega), (by omega), (by omega), (by omega), w209, w210, w211⟩
          exact ihlp31 x205 σ204 _ _ ls (by have h90 := tx205; omega) (by have h90 := tx205; omega) (by have h90 := tx205; omega) (fun i hi => ((jnp i eσ204 (imp_99 i hi)).trans ((jnp i eσ202 (imp_100 i hi)).trans (f39 i hi))))   I212 hP hS (lv_sub hl [0, 1, 2, 3, 4, 5, 6, 7, 8, 9, 10] rfl)
    exact lp31 1000000 x21 σ _ _ ls (by omega) (by omega) (by omega) (fun _ _ => rfl)  hI31 hP hS hl
  refine lv_iconst (v := 0) hx hb dX1_judge_28 (by decide) ?_
  refine lv_iload_n hx hb dX1_judge_29 rfl (lv_at hl 6 rfl) ?_
  refine va_mmax hx hb (hml.trans hl.1.symm) hown (hts _ kw_28_5) (hts _ kw_21_0) (hts _ kw_21_1) (hts _ kw_21_2) (Nat.le_of_ble_eq_true rfl) (Nat.le_of_ble_eq_true rfl) (Nat.le_of_ble_eq_true rfl) (Nat.le_of_ble_eq_true rfl) dX1_judge_30 ?_
  refine lv_topi (fun x213 ex213 => ?_)
  have g214 := jmax ex213 jz_0 t3
  refine lv_istore (lv' := [(8, .int x213), (7, .int x18), (6, .int x15), (5, .int x13), (0, .ref (ad 31)), (1, .int a1), (2, .ref (ad 1)), (3, .int a3), (4, .int a4)]) hx hb dX1_judge_33 hl (by decide) rfl (fun ls hl => ?_)
  refine lv_iload hx hb dX1_judge_35 (lv_at hl 8 rfl) ?_
  refine lv_aload_n hx hb dX1_judge_37 rfl (lv_at hl 6 rfl) ?_
  refine jalen (v := 8) hx hb hK hP (jc_1 cI cL ad σ τ) (by decide) dX1_judge_38 ?_
  refine lv_iconst (v := 1) hx hb dX1_judge_39 (by decide) ?_
  refine lv_isub hx hb dX1_judge_40 ?_
  refine jtopr (y := 7) (by decide) ?_
  refine va_mmin hx hb (hml.trans hl.1.symm) hown (hts _ kw_28_4) (hts _ kw_22_11) (hts _ kw_21_1) (hts _ kw_22_12) (Nat.le_of_ble_eq_true rfl) (Nat.le_of_ble_eq_true rfl) (Nat.le_of_ble_eq_true rfl) (Nat.le_of_ble_eq_true rfl) dX1_judge_41 ?_
  refine lv_topi (fun x215 ex215 => ?_)
  have g216 := jmin ex215 t4 jz_7
  refine lv_iload_n hx hb dX1_judge_44 rfl (lv_at hl 7 rfl) ?_
  refine lv_iconst (v := 1) hx hb dX1_judge_45 (by decide) ?_
  refine lv_iadd hx hb dX1_judge_46 ?_
  refine lv_topi (fun x217 ex217 => ?_)
  have tx217 : x217.toInt = A3 + 1 := (jadd ex217 t3 jz_1 (by omega) (by omega)).trans (by omega)
  refine lv_iload hx hb dX1_judge_47 (lv_at hl 2 rfl) ?_
  have g218 := jrg (rfl : x15.toInt = x15.toInt)
  refine lv_iadd hx hb dX1_judge_49 ?_
  refine lv_topi (fun x219 ex219 => ?_)
  have tx219 : x219.toInt = A3 + x15.toInt + 1 := (jadd ex219 tx217 rfl (by omega) (by omega)).trans (by omega)
  refine va_mmin hx hb (hml.trans hl.1.symm) hown (hts _ kw_28_4) (hts _ kw_22_11) (hts _ kw_21_1) (hts _ kw_22_12) (Nat.le_of_ble_eq_true rfl) (Nat.le_of_ble_eq_true rfl) (Nat.le_of_ble_eq_true rfl) (Nat.le_of_ble_eq_true rfl) dX1_judge_50 ?_
  refine lv_topi (fun x220 ex220 => ?_)
  have g221 := jmin ex220 rfl tx219
  refine lv_istore (lv' := [(9, .int x220), (8, .int x213), (7, .int x18), (6, .int x15), (5, .int x13), (0, .ref (ad 31)), (1, .int a1), (2, .ref (ad 1)), (3, .int a3), (4, .int a4)]) hx hb dX1_judge_53 hl (by decide) rfl (fun ls hl => ?_)
  exact lp19 x213 x220 _ _ ls (by omega) (by omega) (by omega) (by omega) (by omega) (by omega)    hP hS (lv_sub hl [2, 3, 4, 5, 6, 7, 8, 9, 1, 0] rfl)
set_option maxHeartbeats 4000000 in
set_option maxRecDepth 100000 in
theorem c_X1_seekFor_31_v1 (l : Launch) (D : va_G) (cI cL : ClassId) (ad zz : Nat → Nat) (hJ : jD ad) (σ : Nat → Nat → Int32) (τ : Nat → Nat → Int64) (a2 : Int32) (A2 : Int) (t2 : a2.toInt = A2) (a3 : Int32) (A3 : Int) (t3 : a3.toInt = A3) (a4 : Int32) (A4 : Int) (t4 : a4.toInt = A4) (a5 : Int32) (A5 : Int) (t5 : a5.toInt = A5) (hI16 : jI16 σ) (hI22 : jI22 σ) (hI31 : jI31 σ) (hI0 : jI0 σ) (hI26 : jI26 σ) (hs_jN67 : jN67 σ) (hs_jBl : jBl σ) (hs_jKb : jKb σ) (hs_jKh : jKh σ) (hs_jKg : jKg σ) (hp0 : 0 ≤ A2 ∧ A2 ≤ 134217727) (hp1 : 0 ≤ A3 ∧ A3 ≤ 12) (hp2 : 0 ≤ A4 ∧ A4 ≤ 12) : jMv l yX1_seekFor cX1_seekFor 7 none ({ frames := 4, cells := 0, slots := 0, locals := 113 }) D cI cL ad zz [.ref (ad 31), .ref (ad 1), .int a2, .int a3, .int a4, .int a5] σ τ (fun σ' τ' => τ = τ' ∧ (∀ i : Nat, (i < 24 ∨ 25 < i) ∧ (i < 29 ∨ 37 < i) → σ' i = σ i) ∧ (∀ k : Nat, (k < 8 ∨ 8 < k) ∧ (k < 9 ∨ 9 < k) ∧ (k < 10 ∨ 10 < k) ∧ (k < 11 ∨ 11 < k) ∧ (k < 12 ∨ 12 < k) → σ' 31 k = σ 31 k) ∧ (jI31 σ') ∧ (jN67 σ') ∧ (jBl σ') ∧ (jKb σ') ∧ (jKh σ') ∧ (jKg σ') ∧ True) := by
  refine jMv.of hJ (by decide +kernel) rfl (Nat.le_of_ble_eq_true rfl) ?_
  intro p e s m args below meth c Q ls hC hret hl hP
  obtain ⟨hx, hb, hr, hml, hown, hts, hK, -, hlocks, hZ⟩ := hC
  have hown : s.vm.findClass RX1 = some m.cls := hown
  have hS : va_S (jA ad) s.heap s.heap [] := va_S.rf
  have hA : ∀ q, jA ad q → jA ad q := fun _ h => h
  have hl : lv_has ls 7 [(0, .ref (ad 31)), (1, .ref (ad 1)), (2, .int a2), (3, .int a3), (4, .int a4), (5, .int a5)] := hl
  have g2 := jrg t2
  have g3 := jrg t3
  have g4 := jrg t4
  have g5 := jrg t5
  obtain ⟨i1, i2, i3, i4, w5, w6, w7⟩ : (0 ≤ (σ 31 8).toInt ∧ (σ 31 8).toInt ≤ 350) ∧ (0 ≤ (σ 31 10).toInt ∧ (σ 31 10).toInt ≤ 12) ∧ (0 ≤ (σ 31 11).toInt ∧ (σ 31 11).toInt ≤ 8) ∧ ((σ 31 10).toInt + (σ 31 11).toInt ≤ 12) ∧ (∀ k : Nat, k < 1400 → (-1) ≤ (σ 33 k).toInt ∧ (σ 33 k).toInt ≤ 350) ∧ (∀ k : Nat, k < 3159 → (-1) ≤ (σ 35 k).toInt ∧ (σ 35 k).toInt ≤ 3) ∧ (∀ k : Nat, k < 1024 → 0 ≤ (σ 36 k).toInt ∧ (σ 36 k).toInt ≤ 349) := id hI31
  refine lv_aload_n hx hb dX1_seekFor_0 rfl (lv_at hl 0 rfl) ?_
  refine lv_iload_n hx hb dX1_seekFor_1 rfl (lv_at hl 2 rfl) ?_
  refine lv_iload_n hx hb dX1_seekFor_2 rfl (lv_at hl 3 rfl) ?_
  refine jcallVv (As := [.int a2, .int a3]) (rest := []) ⟨hx, hb, hml, hown, hts⟩ hK hP hA hS hZ (c_X1_grow_31 l D cI cL ad zz hJ σ τ a2 (A2) t2 a3 (A3) t3 hI16 hI31 hs_jKb hs_jKh hs_jKg (by omega) (by omega)) cw_RX1_54 (jc_31 cI cL ad σ τ) rfl ⟨Nat.le_of_ble_eq_true rfl, Nat.le_of_ble_eq_true rfl⟩ rfl rfl rfl hl.1 rfl (Nat.le_of_ble_eq_true rfl) dX1_seekFor_3 ⟨Nat.zero_le _, Nat.zero_le _⟩ (fun σ8 τ8 H locs h8 hP hS => ?_)
  obtain ⟨rfl, f10, f11, I12, p13, p14, p15, h8⟩ := h8
  obtain ⟨i17, i18, i19, i20, w21, w22, w23⟩ : (0 ≤ (σ8 31 8).toInt ∧ (σ8 31 8).toInt ≤ 350) ∧ (0 ≤ (σ8 31 10).toInt ∧ (σ8 31 10).toInt ≤ 12) ∧ (0 ≤ (σ8 31 11).toInt ∧ (σ8 31 11).toInt ≤ 8) ∧ ((σ8 31 10).toInt + (σ8 31 11).toInt ≤ 12) ∧ (∀ k : Nat, k < 1400 → (-1) ≤ (σ8 33 k).toInt ∧ (σ8 33 k).toInt ≤ 350) ∧ (∀ k : Nat, k < 3159 → (-1) ≤ (σ8 35 k).toInt ∧ (σ8 35 k).toInt ≤ 3) ∧ (∀ k : Nat, k < 1024 → 0 ≤ (σ8 36 k).toInt ∧ (σ8 36 k).toInt ≤ 349) := id I12
  refine lv_aload_n hx hb dX1_seekFor_6 rfl (lv_at hl 0 rfl) ?_
  refine va_get (D := D) hx hb hts inlX1 hown hK hP 31 (jc_31 cI cL ad σ8 τ) rfl 8 (by decide) (hts _ kw_27_22) (fun _ h9 => h9) rfl dX1_seekFor_7 ?_
  refine lv_iconst (v := 1) hx hb dX1_seekFor_10 (by decide) ?_
  have g24 := jrg (rfl : (σ8 31 8).toInt = (σ8 31 8).toInt)
  refine lv_isub hx hb dX1_seekFor_11 ?_
  refine lv_topi (fun x25 ex25 => ?_)
  have tx25 : x25.toInt = (σ8 31 8).toInt - 1 := (jsub ex25 rfl jz_1 (by omega) (by omega)).trans (by omega)
  refine lv_istore (lv' := [(6, .int x25), (0, .ref (ad 31)), (1, .ref (ad 1)), (2, .int a2), (3, .int a3), (4, .int a4), (5, .int a5)]) hx hb dX1_seekFor_12 hl (by decide) rfl (fun ls hl => ?_)
  have p31 : jN67 σ8 := jN67.fr (f10 24 (by decide)) hs_jN67
  have p32 : jBl σ8 := jBl.fr (congrFun (f10 22 (by decide)) 0) (congrFun (f10 22 (by decide)) 1) (f10 23 (by decide)) (congrFun (f10 26 (by decide)) 6) (congrFun (f10 26 (by decide)) 7) (f10 29 (by decide)) (f10 30 (by decide)) hs_jBl
  have lp26 : ∀ (n27 : Nat) (x28 : Int32) (σ29 : Nat → Nat → Int32) (H : Heap) (locs : List Loc) (ls : Array Slot), (x28.toInt + 1 : Int) < n27 → (-1) ≤ x28.toInt → x28.toInt ≤ 349 → x28.toInt < (σ29 31 8).toInt → (∀ i : Nat, (i < 24 ∨ 25 < i) ∧ (i < 29 ∨ 30 < i) ∧ (i < 34 ∨ 35 < i) → σ29 i = σ8 i) → jN67 σ29 → jBl σ29 → jI31 σ29 → jH D cI cL ad σ29 τ H → va_S (jA ad) s.heap H locs → lv_has ls 7 [(6, .int x28), (0, .ref (ad 31)), (1, .ref (ad 1)), (2, .int a2), (3, .int a3), (4, .int a4), (5, .int a5)] → W p l e ({ frames := 4, cells := 0, slots := 0, locals := 113 }) s m args below meth c H locs 0 0 Q (F0 m 14 ls []) := by
    intro n27
    induction n27 with
    | zero => intro x28 σ29 H locs ls h33 h34 h35 h36; exact absurd h33 (by omega)
    | succ n27 ihlp26 =>
      intro x28 σ29 H locs ls h33 h34 h35 h36 f37 p38 p39 p40 hP hS hl
      obtain ⟨i41, i42, i43, i44, w45, w46, w47⟩ : (0 ≤ (σ29 31 8).toInt ∧ (σ29 31 8).toInt ≤ 350) ∧ (0 ≤ (σ29 31 10).toInt ∧ (σ29 31 10).toInt ≤ 12) ∧ (0 ≤ (σ29 31 11).toInt ∧ (σ29 31 11).toInt ≤ 8) ∧ ((σ29 31 10).toInt + (σ29 31 11).toInt ≤ 12) ∧ (∀ k : Nat, k < 1400 → (-1) ≤ (σ29 33 k).toInt ∧ (σ29 33 k).toInt ≤ 350) ∧ (∀ k : Nat, k < 3159 → (-1) ≤ (σ29 35 k).toInt ∧ (σ29 35 k).toInt ≤ 3) ∧ (∀ k : Nat, k < 1024 → 0 ≤ (σ29 36 k).toInt ∧ (σ29 36 k).toInt ≤ 349) := id p40
      have z48 : (σ29 31 8).toInt = (σ8 31 8).toInt := (congrArg Int32.toInt (show σ29 31 8 = (σ8 31 8) from (congrFun (f37 31 (by decide)) 8)))
      have z49 : (σ29 31 10).toInt = (σ8 31 10).toInt := (congrArg Int32.toInt (show σ29 31 10 = (σ8 31 10) from (congrFun (f37 31 (by decide)) 10)))
      have z50 : (σ29 31 11).toInt = (σ8 31 11).toInt := (congrArg Int32.toInt (show σ29 31 11 = (σ8 31 11) from (congrFun (f37 31 (by decide)) 11)))
      refine lv_iload hx hb dX1_seekFor_14 (lv_at hl 0 rfl) ?_
      refine lv_if_lt (tgt := 36) hx hb dX1_seekFor_16 (by decide) (fun c51 => ?_) (fun c51 => ?_)
      · have kc51 := jlt c51 rfl jz_0
        have p52 : jKb σ29 := jKb.fr (congrFun (f37 31 (by decide)) 8) (congrFun (f37 31 (by decide)) 11) (f37 32 (by decide)) p13
        have p53 : jKh σ29 := jKh.fr (congrFun (f37 31 (by decide)) 8) (f37 32 (by decide)) (f37 36 (by decide)) (f37 37 (by decide)) p14
        have p54 : jKg σ29 := jKg.fr (congrFun (f37 31 (by decide)) 8) (congrFun (f37 31 (by decide)) 9) (congrFun (f37 31 (by decide)) 11) (congrFun (f37 31 (by decide)) 12) (f37 32 (by decide)) (f37 33 (by decide)) p15
        exact hret σ29 τ _ _ _ _ ⟨rfl, (fun i hi => ((f37 i (imp_101 i hi)).trans (f10 i (imp_102 i hi)))), (fun i hi => ((congrFun (f37 31 (by decide)) i).trans (f11 i hi))), p40, p38, p39, p52, p53, p54, trivial⟩ hP hS dX1_seekFor_36
      · have kc51 := jnlt c51 rfl jz_0
        refine lv_aload_n hx hb dX1_seekFor_19 rfl (lv_at hl 1 rfl) ?_
        refine lv_iload hx hb dX1_seekFor_20 (lv_at hl 0 rfl) ?_
        refine lv_aload_n hx hb dX1_seekFor_22 rfl (lv_at hl 2 rfl) ?_
        refine lv_iload hx hb dX1_seekFor_23 (lv_at hl 5 rfl) ?_
        refine lv_iload hx hb dX1_seekFor_25 (lv_at hl 6 rfl) ?_
        have I55 : jI16 σ29 := jI16_fr ((congrFun (f37 16 (by decide)) 0).trans (congrFun (f10 16 (by decide)) 0)) ((congrFun (f37 16 (by decide)) 1).trans (congrFun (f10 16 (by decide)) 1)) ((congrFun (f37 16 (by decide)) 2).trans (congrFun (f10 16 (by decide)) 2)) ((f37 17 (by decide)).trans (f10 17 (by decide))) hI16
        have I56 : jI22 σ29 := jI22_fr ((congrFun (f37 22 (by decide)) 0).trans (congrFun (f10 22 (by decide)) 0)) ((f37 23 (by decide)).trans (f10 23 (by decide))) hI22
        have I57 : jI0 σ29 := jI0_fr ((f37 1 (by decide)).trans (f10 1 (by decide))) hI0
        have I58 : jI26 σ29 := jI26_fr ((congrFun (f37 26 (by decide)) 6).trans (congrFun (f10 26 (by decide)) 6)) hI26
        have p59 : jKb σ29 := jKb.fr (congrFun (f37 31 (by decide)) 8) (congrFun (f37 31 (by decide)) 11) (f37 32 (by decide)) p13
        refine jcallVv (As := [.int x28, .ref (ad 1), .int a4, .int a5]) (rest := []) ⟨hx, hb, hml, hown, hts⟩ hK hP hA hS hZ (c_X1_judge_31_v1 l D cI cL ad zz hJ σ29 τ x28 (x28.toInt) rfl a4 (A4) t4 a5 (A5) t5 I55 I56 p40 I57 I58 p38 p39 p59 (by omega) (by omega) (by omega)) cw_RX1_61 (jc_31 cI cL ad σ29 τ) rfl ⟨Nat.le_of_ble_eq_true rfl, Nat.le_of_ble_eq_true rfl⟩ rfl rfl rfl hl.1 rfl (Nat.le_of_ble_eq_true rfl) dX1_seekFor_27 ⟨Nat.zero_le _, Nat.zero_le _⟩ (fun σ60 τ60 H locs h60 hP hS => ?_)
        obtain ⟨rfl, f62, I63, p64, p65, p66, h60⟩ := h60
        obtain ⟨i68, i69, i70, i71, w72, w73, w74⟩ : (0 ≤ (σ60 31 8).toInt ∧ (σ60 31 8).toInt ≤ 350) ∧ (0 ≤ (σ60 31 10).toInt ∧ (σ60 31 10).toInt ≤ 12) ∧ (0 ≤ (σ60 31 11).toInt ∧ (σ60 31 11).toInt ≤ 8) ∧ ((σ60 31 10).toInt + (σ60 31 11).toInt ≤ 12) ∧ (∀ k : Nat, k < 1400 → (-1) ≤ (σ60 33 k).toInt ∧ (σ60 33 k).toInt ≤ 350) ∧ (∀ k : Nat, k < 3159 → (-1) ≤ (σ60 35 k).toInt ∧ (σ60 35 k).toInt ≤ 3) ∧ (∀ k : Nat, k < 1024 → 0 ≤ (σ60 36 k).toInt ∧ (σ60 36 k).toInt ≤ 349) := id I63
        have z75 : (σ60 31 8).toInt = (σ8 31 8).toInt := (congrArg Int32.toInt (show σ60 31 8 = (σ8 31 8) from ((congrFun (f62 31 (by decide)) 8).trans (congrFun (f37 31 (by decide)) 8))))
        have z76 : (σ60 31 10).toInt = (σ8 31 10).toInt := (congrArg Int32.toInt (show σ60 31 10 = (σ8 31 10) from ((congrFun (f62 31 (by decide)) 10).trans (congrFun (f37 31 (by decide)) 10))))
        have z77 : (σ60 31 11).toInt = (σ8 31 11).toInt := (congrArg Int32.toInt (show σ60 31 11 = (σ8 31 11) from ((congrFun (f62 31 (by decide)) 11).trans (congrFun (f37 31 (by decide)) 11))))
        obtain ⟨x78, ex78⟩ : ∃ y : Int32, y = x28 + (-1) := ⟨_, rfl⟩
        have tx78 : x78.toInt = x28.toInt - 1 := (jadd ex78 rfl jz_m1 (by omega) (by omega)).trans (by omega)
        refine lv_iinc (v := x78) (lv' := [(6, .int x78), (0, .ref (ad 31)), (1, .ref (ad 1)), (2, .int a2), (3, .int a3), (4, .int a4), (5, .int a5)]) hx hb dX1_seekFor_30 hl (k := 0) rfl (by rw [ex78]; rfl) (by decide) rfl (fun ls hl => ?_)
        refine lv_goto (tgt := 14) hx hb dX1_seekFor_33 (by decide) ?_
        exact ihlp26 x78 σ60 _ _ ls (by have h90 := tx78; omega) (by have h90 := tx78; omega) (by have h90 := tx78; omega) (by have h90 := tx78; omega) (fun i hi => ((f62 i hi).trans (f37 i hi)))   p64 p65 I63 hP hS (lv_sub hl [0, 1, 2, 3, 4, 5, 6] rfl)
  exact lp26 1000000 x25 σ8 _ _ ls (by have h90 := tx25; omega) (by have h90 := tx25; omega) (by have h90 := tx25; omega) (by have h90 := tx25; omega) (fun _ _ => rfl)  p31 p32 I12 hP hS hl
set_option maxHeartbeats 4000000 in
set_option maxRecDepth 100000 in
theorem c_X1_seek_31 (l : Launch) (D : va_G) (cI cL : ClassId) (ad zz : Nat → Nat) (hJ : jD ad) (σ : Nat → Nat → Int32) (τ : Nat → Nat → Int64) (a1 : Int32) (A1 : Int) (t1 : a1.toInt = A1) (a2 : Int32) (A2 : Int) (t2 : a2.toInt = A2) (a3 : Int32) (A3 : Int) (t3 : a3.toInt = A3) (hI16 : jI16 σ) (hI22 : jI22 σ) (hI31 : jI31 σ) (hI26 : jI26 σ) (hs_jN67 : jN67 σ) (hs_jBl : jBl σ) (hs_jKb : jKb σ) (hs_jKh : jKh σ) (hs_jKg : jKg σ) (hp0 : 0 ≤ A1 ∧ A1 ≤ 134217727) (hp1 : 0 ≤ A2 ∧ A2 ≤ 12) (hp2 : 0 ≤ A3 ∧ A3 ≤ 12) : jMv l yX1_seek cX1_seek 4 none ({ frames := 5, cells := 0, slots := 0, locals := 139 }) D cI cL ad zz [.ref (ad 31), .int a1, .int a2, .int a3] σ τ (fun σ' τ' => τ = τ' ∧ (∀ i : Nat, (i < 24 ∨ 25 < i) ∧ (i < 29 ∨ 37 < i) → σ' i = σ i) ∧ (∀ k : Nat, (k < 8 ∨ 8 < k) ∧ (k < 9 ∨ 9 < k) ∧ (k < 10 ∨ 10 < k) ∧ (k < 11 ∨ 11 < k) ∧ (k < 12 ∨ 12 < k) → σ' 31 k = σ 31 k) ∧ (jI31 σ') ∧ (jN67 σ') ∧ (jBl σ') ∧ (jKb σ') ∧ (jKh σ') ∧ (jKg σ') ∧ True) := by
  refine jMv.of hJ (by decide +kernel) rfl (Nat.le_of_ble_eq_true rfl) ?_
  intro p e s m args below meth c Q ls hC hret hl hP
  obtain ⟨hx, hb, hr, hml, hown, hts, hK, -, hlocks, hZ⟩ := hC
  have hown : s.vm.findClass RX1 = some m.cls := hown
  have hS : va_S (jA ad) s.heap s.heap [] := va_S.rf
  have hA : ∀ q, jA ad q → jA ad q := fun _ h => h
  have hl : lv_has ls 4 [(0, .ref (ad 31)), (1, .int a1), (2, .int a2), (3, .int a3)] := hl
  have g1 := jrg t1
  have g2 := jrg t2
  have g3 := jrg t3
  obtain ⟨i1, i2, i3, w4⟩ : (1 ≤ (σ 16 0).toInt ∧ (σ 16 0).toInt ≤ 8) ∧ (1 ≤ (σ 16 1).toInt ∧ (σ 16 1).toInt ≤ 12) ∧ (0 ≤ (σ 16 2).toInt ∧ (σ 16 2).toInt ≤ 999) ∧ (∀ k : Nat, k < 8 → 0 ≤ (σ 17 k).toInt ∧ (σ 17 k).toInt ≤ 3) := id hI16
  refine lv_aload_n hx hb dX1_seek_0 rfl (lv_at hl 0 rfl) ?_
  refine lv_aload_n hx hb dX1_seek_1 rfl (lv_at hl 0 rfl) ?_
  refine va_get (D := D) hx hb hts inlX1 hown hK hP 31 (jc_31 cI cL ad σ τ) rfl 1 (by decide) (hts _ kw_5_11) (fun _ h9 => h9) rfl dX1_seek_2 ?_
  refine va_get (D := D) hx hb hts inlX6 hown hK hP 16 (jc_16 cI cL ad σ τ) rfl 3 (by decide) (hts _ kw_27_16) (fun _ h9 => h9) rfl dX1_seek_5 ?_
  refine lv_iload_n hx hb dX1_seek_8 rfl (lv_at hl 1 rfl) ?_
  refine lv_iload_n hx hb dX1_seek_9 rfl (lv_at hl 2 rfl) ?_
  refine lv_iload_n hx hb dX1_seek_10 rfl (lv_at hl 3 rfl) ?_
  refine lv_aload_n hx hb dX1_seek_11 rfl (lv_at hl 0 rfl) ?_
  refine va_get (D := D) hx hb hts inlX1 hown hK hP 31 (jc_31 cI cL ad σ τ) rfl 1 (by decide) (hts _ kw_5_11) (fun _ h9 => h9) rfl dX1_seek_12 ?_
  refine va_get (D := D) hx hb hts inlX6 hown hK hP 16 (jc_16 cI cL ad σ τ) rfl 0 (by decide) (hts _ kw_27_17) (fun _ h9 => h9) rfl dX1_seek_15 ?_
  refine lv_iconst (v := 1) hx hb dX1_seek_18 (by decide) ?_
  have g5 := jrg (rfl : (σ 16 0).toInt = (σ 16 0).toInt)
  refine lv_isub hx hb dX1_seek_19 ?_
  refine lv_topi (fun x6 ex6 => ?_)
  have tx6 : x6.toInt = (σ 16 0).toInt - 1 := (jsub ex6 rfl jz_1 (by omega) (by omega)).trans (by omega)
  refine jcallVv (As := [.ref (ad 17), .int a1, .int a2, .int a3, .int x6]) (rest := []) ⟨hx, hb, hml, hown, hts⟩ hK hP hA hS hZ (c_X1_seekFor_31 l D cI cL ad zz hJ σ τ a1 (A1) t1 a2 (A2) t2 a3 (A3) t3 x6 ((σ 16 0).toInt - 1) tx6 hI16 hI22 hI31 hI26 hs_jN67 hs_jBl hs_jKb hs_jKh hs_jKg (by omega) (by omega) (by omega)) cw_RX1_50 (jc_31 cI cL ad σ τ) rfl ⟨Nat.le_of_ble_eq_true rfl, Nat.le_of_ble_eq_true rfl⟩ rfl rfl rfl hl.1 rfl (Nat.le_of_ble_eq_true rfl) dX1_seek_20 ⟨Nat.zero_le _, Nat.zero_le _⟩ (fun σ7 τ7 H locs h7 hP hS => ?_)
  obtain ⟨rfl, f9, f10, I11, p12, p13, p14, p15, p16, h7⟩ := h7
  exact hret σ7 τ _ _ _ _ ⟨rfl, (fun i hi => (f9 i hi)), (fun i hi => (f10 i hi)), I11, p12, p13, p14, p15, p16, trivial⟩ hP hS dX1_seek_23
