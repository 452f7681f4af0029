set_option maxHeartbeats 4000000 in
set_option maxRecDepth 100000 in
theorem c_X1_valueAt_31 (l : Launch) (D : va_G) (cI cL : ClassId) (ad zz : Nat → Nat) (hJ : jD ad) (σ : Nat → Nat → Int32) (τ : Nat → Nat → Int64) (a1 : Int32) (A1 : Int) (t1 : a1.toInt = A1) (a2 : Int32) (A2 : Int) (t2 : a2.toInt = A2) (hI16 : jI16 σ) (hI31 : jI31 σ) : jM l yX1_valueAt cX1_valueAt 3 (some .int) ({ frames := 0, cells := 0, slots := 0, locals := 0 }) D cI cL ad zz [.ref (ad 31), .int a1, .int a2] σ τ (fun r σ' τ' => (σ = σ' ∧ τ = τ') ∧ True) := by
  refine jM.of hJ (by decide +kernel) (nt := .int) rfl (Nat.le_of_ble_eq_true rfl) ?_
  intro p e s m args below meth c Q ls hC hret hl hP
  obtain ⟨hx, hb, hr, hml, hown, hts, hK, -, hlocks, hZ⟩ := hC
  have hown : s.vm.findClass RX1 = some m.cls := hown
  have hS : va_S (jA ad) s.heap s.heap [] := va_S.rf
  have hA : ∀ q, jA ad q → jA ad q := fun _ h => h
  have hl : lv_has ls 3 [(0, .ref (ad 31)), (1, .int a1), (2, .int a2)] := hl
  have g1 := jrg t1
  have g2 := jrg t2
  obtain ⟨i1, i2, i3, w4⟩ : (1 ≤ (σ 16 0).toInt ∧ (σ 16 0).toInt ≤ 8) ∧ (1 ≤ (σ 16 1).toInt ∧ (σ 16 1).toInt ≤ 12) ∧ (0 ≤ (σ 16 2).toInt ∧ (σ 16 2).toInt ≤ 999) ∧ (∀ k : Nat, k < 8 → 0 ≤ (σ 17 k).toInt ∧ (σ 17 k).toInt ≤ 3) := id hI16
  obtain ⟨i5, w6, w7⟩ : (0 ≤ (σ 31 8).toInt ∧ (σ 31 8).toInt ≤ 350) ∧ (∀ k : Nat, k < 1400 → (-1) ≤ (σ 33 k).toInt ∧ (σ 33 k).toInt ≤ 350) ∧ (∀ k : Nat, k < 1024 → 0 ≤ (σ 36 k).toInt ∧ (σ 36 k).toInt ≤ 349) := id hI31
  refine lv_iload_n hx hb dX1_valueAt_0 rfl (lv_at hl 1 rfl) ?_
  refine lv_if_lt (tgt := 27) hx hb dX1_valueAt_1 (by decide) (fun c8 => ?_) (fun c8 => ?_)
  · have kc8 := jlt c8 t1 jz_0
    refine lv_iconst (v := 0) hx hb dX1_valueAt_27 (by decide) ?_
    refine lv_goto (tgt := 42) hx hb dX1_valueAt_28 (by decide) ?_
    exact hret 0 σ τ _ _ _ _ rfl ⟨⟨rfl, rfl⟩, trivial⟩ hP hS dX1_valueAt_42
  · have kc8 := jnlt c8 t1 jz_0
    refine lv_iload_n hx hb dX1_valueAt_4 rfl (lv_at hl 1 rfl) ?_
    refine lv_aload_n hx hb dX1_valueAt_5 rfl (lv_at hl 0 rfl) ?_
    refine va_get (D := D) hx hb hts inlX1 hown hK hP 31 (jc_31 cI cL ad σ τ) rfl 8 (by decide) (hts _ kw_27_22) (fun _ h9 => h9) rfl dX1_valueAt_6 ?_
    refine lv_icmp_ge (tgt := 27) hx hb dX1_valueAt_9 (by decide) (fun c9 => ?_) (fun c9 => ?_)
    · have kc9 := jle c9 rfl t1
      refine lv_iconst (v := 0) hx hb dX1_valueAt_27 (by decide) ?_
      refine lv_goto (tgt := 42) hx hb dX1_valueAt_28 (by decide) ?_
      exact hret 0 σ τ _ _ _ _ rfl ⟨⟨rfl, rfl⟩, trivial⟩ hP hS dX1_valueAt_42
    · have kc9 := jnle c9 rfl t1
      refine lv_iload_n hx hb dX1_valueAt_12 rfl (lv_at hl 2 rfl) ?_
      refine lv_if_lt (tgt := 27) hx hb dX1_valueAt_13 (by decide) (fun c10 => ?_) (fun c10 => ?_)
      · have kc10 := jlt c10 t2 jz_0
        refine lv_iconst (v := 0) hx hb dX1_valueAt_27 (by decide) ?_
        refine lv_goto (tgt := 42) hx hb dX1_valueAt_28 (by decide) ?_
        exact hret 0 σ τ _ _ _ _ rfl ⟨⟨rfl, rfl⟩, trivial⟩ hP hS dX1_valueAt_42
      · have kc10 := jnlt c10 t2 jz_0
        refine lv_iload_n hx hb dX1_valueAt_16 rfl (lv_at hl 2 rfl) ?_
        refine lv_aload_n hx hb dX1_valueAt_17 rfl (lv_at hl 0 rfl) ?_
        refine va_get (D := D) hx hb hts inlX1 hown hK hP 31 (jc_31 cI cL ad σ τ) rfl 1 (by decide) (hts _ kw_5_11) (fun _ h9 => h9) rfl dX1_valueAt_18 ?_
        refine va_get (D := D) hx hb hts inlX6 hown hK hP 16 (jc_16 cI cL ad σ τ) rfl 0 (by decide) (hts _ kw_27_17) (fun _ h9 => h9) rfl dX1_valueAt_21 ?_
        refine lv_icmp_lt (tgt := 31) hx hb dX1_valueAt_24 (by decide) (fun c11 => ?_) (fun c11 => ?_)
        · have kc11 := jlt c11 t2 rfl
          refine lv_aload_n hx hb dX1_valueAt_31 rfl (lv_at hl 0 rfl) ?_
          refine va_get (D := D) hx hb hts inlX1 hown hK hP 31 (jc_31 cI cL ad σ τ) rfl 4 (by decide) (hts _ kw_5_5) (fun _ h9 => h9) rfl dX1_valueAt_32 ?_
          refine lv_iload_n hx hb dX1_valueAt_35 rfl (lv_at hl 1 rfl) ?_
          refine lv_bipush (v := 9) hx hb dX1_valueAt_36 (by decide) ?_
          refine lv_imul hx hb dX1_valueAt_38 ?_
          refine lv_topi (fun x12 ex12 => ?_)
          have tx12 : x12.toInt = 9 * A1 := (jmul ex12 t1 jz_9 (by omega) (by omega)).trans (by omega)
          refine lv_iload_n hx hb dX1_valueAt_39 rfl (lv_at hl 2 rfl) ?_
          refine lv_iadd hx hb dX1_valueAt_40 ?_
          refine lv_topi (fun x13 ex13 => ?_)
          have tx13 : x13.toInt = 9 * A1 + A2 := (jadd ex13 tx12 t2 (by omega) (by omega)).trans (by omega)
          refine jald hx hb hK hP (jc_34 cI cL ad σ τ) (jin tx13 (by omega) (by omega)) dX1_valueAt_41 ?_
          refine lv_topi (fun x14 ex14 => ?_)
          exact hret x14 σ τ _ _ _ _ rfl ⟨⟨rfl, rfl⟩, trivial⟩ hP hS dX1_valueAt_42
        · have kc11 := jnlt c11 t2 rfl
          refine lv_iconst (v := 0) hx hb dX1_valueAt_27 (by decide) ?_
          refine lv_goto (tgt := 42) hx hb dX1_valueAt_28 (by decide) ?_
          exact hret 0 σ τ _ _ _ _ rfl ⟨⟨rfl, rfl⟩, trivial⟩ hP hS dX1_valueAt_42
set_option maxHeartbeats 4000000 in
set_option maxRecDepth 100000 in
theorem c_X1_whomAt_31 (l : Launch) (D : va_G) (cI cL : ClassId) (ad zz : Nat → Nat) (hJ : jD ad) (σ : Nat → Nat → Int32) (τ : Nat → Nat → Int64) (a1 : Int32) (A1 : Int) (t1 : a1.toInt = A1) (a2 : Int32) (A2 : Int) (t2 : a2.toInt = A2) (hI16 : jI16 σ) (hI31 : jI31 σ) : jM l yX1_whomAt cX1_whomAt 3 (some .int) ({ frames := 0, cells := 0, slots := 0, locals := 0 }) D cI cL ad zz [.ref (ad 31), .int a1, .int a2] σ τ (fun r σ' τ' => (σ = σ' ∧ τ = τ') ∧ True) := by
  refine jM.of hJ (by decide +kernel) (nt := .int) rfl (Nat.le_of_ble_eq_true rfl) ?_
  intro p e s m args below meth c Q ls hC hret hl hP
  obtain ⟨hx, hb, hr, hml, hown, hts, hK, -, hlocks, hZ⟩ := hC
  have hown : s.vm.findClass RX1 = some m.cls := hown
  have hS : va_S (jA ad) s.heap s.heap [] := va_S.rf
  have hA : ∀ q, jA ad q → jA ad q := fun _ h => h
  have hl : lv_has ls 3 [(0, .ref (ad 31)), (1, .int a1), (2, .int a2)] := hl
  have g1 := jrg t1
  have g2 := jrg t2
  obtain ⟨i1, i2, i3, w4⟩ : (1 ≤ (σ 16 0).toInt ∧ (σ 16 0).toInt ≤ 8) ∧ (1 ≤ (σ 16 1).toInt ∧ (σ 16 1).toInt ≤ 12) ∧ (0 ≤ (σ 16 2).toInt ∧ (σ 16 2).toInt ≤ 999) ∧ (∀ k : Nat, k < 8 → 0 ≤ (σ 17 k).toInt ∧ (σ 17 k).toInt ≤ 3) := id hI16
  obtain ⟨i5, w6, w7⟩ : (0 ≤ (σ 31 8).toInt ∧ (σ 31 8).toInt ≤ 350) ∧ (∀ k : Nat, k < 1400 → (-1) ≤ (σ 33 k).toInt ∧ (σ 33 k).toInt ≤ 350) ∧ (∀ k : Nat, k < 1024 → 0 ≤ (σ 36 k).toInt ∧ (σ 36 k).toInt ≤ 349) := id hI31
  refine lv_iload_n hx hb dX1_whomAt_0 rfl (lv_at hl 1 rfl) ?_
  refine lv_if_lt (tgt := 27) hx hb dX1_whomAt_1 (by decide) (fun c8 => ?_) (fun c8 => ?_)
  · have kc8 := jlt c8 t1 jz_0
    refine lv_iconst (v := (-1)) hx hb dX1_whomAt_27 (by decide) ?_
    refine lv_goto (tgt := 42) hx hb dX1_whomAt_28 (by decide) ?_
    exact hret (-1) σ τ _ _ _ _ rfl ⟨⟨rfl, rfl⟩, trivial⟩ hP hS dX1_whomAt_42
  · have kc8 := jnlt c8 t1 jz_0
    refine lv_iload_n hx hb dX1_whomAt_4 rfl (lv_at hl 1 rfl) ?_
    refine lv_aload_n hx hb dX1_whomAt_5 rfl (lv_at hl 0 rfl) ?_
    refine va_get (D := D) hx hb hts inlX1 hown hK hP 31 (jc_31 cI cL ad σ τ) rfl 8 (by decide) (hts _ kw_27_22) (fun _ h9 => h9) rfl dX1_whomAt_6 ?_
    refine lv_icmp_ge (tgt := 27) hx hb dX1_whomAt_9 (by decide) (fun c9 => ?_) (fun c9 => ?_)
    · have kc9 := jle c9 rfl t1
      refine lv_iconst (v := (-1)) hx hb dX1_whomAt_27 (by decide) ?_
      refine lv_goto (tgt := 42) hx hb dX1_whomAt_28 (by decide) ?_
      exact hret (-1) σ τ _ _ _ _ rfl ⟨⟨rfl, rfl⟩, trivial⟩ hP hS dX1_whomAt_42
    · have kc9 := jnle c9 rfl t1
      refine lv_iload_n hx hb dX1_whomAt_12 rfl (lv_at hl 2 rfl) ?_
      refine lv_if_lt (tgt := 27) hx hb dX1_whomAt_13 (by decide) (fun c10 => ?_) (fun c10 => ?_)
      · have kc10 := jlt c10 t2 jz_0
        refine lv_iconst (v := (-1)) hx hb dX1_whomAt_27 (by decide) ?_
        refine lv_goto (tgt := 42) hx hb dX1_whomAt_28 (by decide) ?_
        exact hret (-1) σ τ _ _ _ _ rfl ⟨⟨rfl, rfl⟩, trivial⟩ hP hS dX1_whomAt_42
      · have kc10 := jnlt c10 t2 jz_0
        refine lv_iload_n hx hb dX1_whomAt_16 rfl (lv_at hl 2 rfl) ?_
        refine lv_aload_n hx hb dX1_whomAt_17 rfl (lv_at hl 0 rfl) ?_
        refine va_get (D := D) hx hb hts inlX1 hown hK hP 31 (jc_31 cI cL ad σ τ) rfl 1 (by decide) (hts _ kw_5_11) (fun _ h9 => h9) rfl dX1_whomAt_18 ?_
        refine va_get (D := D) hx hb hts inlX6 hown hK hP 16 (jc_16 cI cL ad σ τ) rfl 0 (by decide) (hts _ kw_27_17) (fun _ h9 => h9) rfl dX1_whomAt_21 ?_
        refine lv_icmp_lt (tgt := 31) hx hb dX1_whomAt_24 (by decide) (fun c11 => ?_) (fun c11 => ?_)
        · have kc11 := jlt c11 t2 rfl
          refine lv_aload_n hx hb dX1_whomAt_31 rfl (lv_at hl 0 rfl) ?_
          refine va_get (D := D) hx hb hts inlX1 hown hK hP 31 (jc_31 cI cL ad σ τ) rfl 5 (by decide) (hts _ kw_5_6) (fun _ h9 => h9) rfl dX1_whomAt_32 ?_
          refine lv_iload_n hx hb dX1_whomAt_35 rfl (lv_at hl 1 rfl) ?_
          refine lv_bipush (v := 9) hx hb dX1_whomAt_36 (by decide) ?_
          refine lv_imul hx hb dX1_whomAt_38 ?_
          refine lv_topi (fun x12 ex12 => ?_)
          have tx12 : x12.toInt = 9 * A1 := (jmul ex12 t1 jz_9 (by omega) (by omega)).trans (by omega)
          refine lv_iload_n hx hb dX1_whomAt_39 rfl (lv_at hl 2 rfl) ?_
          refine lv_iadd hx hb dX1_whomAt_40 ?_
          refine lv_topi (fun x13 ex13 => ?_)
          have tx13 : x13.toInt = 9 * A1 + A2 := (jadd ex13 tx12 t2 (by omega) (by omega)).trans (by omega)
          refine jald hx hb hK hP (jc_35 cI cL ad σ τ) (jin tx13 (by omega) (by omega)) dX1_whomAt_41 ?_
          refine lv_topi (fun x14 ex14 => ?_)
          exact hret x14 σ τ _ _ _ _ rfl ⟨⟨rfl, rfl⟩, trivial⟩ hP hS dX1_whomAt_42
        · have kc11 := jnlt c11 t2 rfl
          refine lv_iconst (v := (-1)) hx hb dX1_whomAt_27 (by decide) ?_
          refine lv_goto (tgt := 42) hx hb dX1_whomAt_28 (by decide) ?_
          exact hret (-1) σ τ _ _ _ _ rfl ⟨⟨rfl, rfl⟩, trivial⟩ hP hS dX1_whomAt_42
set_option maxHeartbeats 4000000 in
set_option maxRecDepth 100000 in
theorem c_X1_isTaken_31 (l : Launch) (D : va_G) (cI cL : ClassId) (ad zz : Nat → Nat) (hJ : jD ad) (σ : Nat → Nat → Int32) (τ : Nat → Nat → Int64) (a1 : Int32) (A1 : Int) (t1 : a1.toInt = A1) (hI31 : jI31 σ) (hp0 : 0 ≤ A1 ∧ A1 ≤ 1023) : jM l yX1_isTaken cX1_isTaken 3 (some .boolean) ({ frames := 0, cells := 0, slots := 0, locals := 0 }) D cI cL ad zz [.ref (ad 31), .int a1] σ τ (fun r σ' τ' => (σ = σ' ∧ τ = τ') ∧ ((r = 1 ∧ True) ∨ (r = 0 ∧ True))) := by
  refine jM.of hJ (by decide +kernel) (nt := .boolean) rfl (Nat.le_of_ble_eq_true rfl) ?_
  intro p e s m args below meth c Q ls hC hret hl hP
  obtain ⟨hx, hb, hr, hml, hown, hts, hK, -, hlocks, hZ⟩ := hC
  have hown : s.vm.findClass RX1 = some m.cls := hown
  have hS : va_S (jA ad) s.heap s.heap [] := va_S.rf
  have hA : ∀ q, jA ad q → jA ad q := fun _ h => h
  have hl : lv_has ls 3 [(0, .ref (ad 31)), (1, .int a1)] := hl
  have g1 := jrg t1
  obtain ⟨i1, w2, w3⟩ : (0 ≤ (σ 31 8).toInt ∧ (σ 31 8).toInt ≤ 350) ∧ (∀ k : Nat, k < 1400 → (-1) ≤ (σ 33 k).toInt ∧ (σ 33 k).toInt ≤ 350) ∧ (∀ k : Nat, k < 1024 → 0 ≤ (σ 36 k).toInt ∧ (σ 36 k).toInt ≤ 349) := id hI31
  refine lv_aload_n hx hb dX1_isTaken_0 rfl (lv_at hl 0 rfl) ?_
  refine va_get (D := D) hx hb hts inlX1 hown hK hP 31 (jc_31 cI cL ad σ τ) rfl 6 (by decide) (hts _ kw_5_7) (fun _ h9 => h9) rfl dX1_isTaken_1 ?_
  refine lv_iload_n hx hb dX1_isTaken_4 rfl (lv_at hl 1 rfl) ?_
  refine jald hx hb hK hP (jc_36 cI cL ad σ τ) (jin t1 (by omega) (by omega)) dX1_isTaken_5 ?_
  have g4 := w3 _ (jnat (x := a1) t1 (n := 1024) (by omega) (by decide))
  refine lv_topi (fun x5 ex5 => ?_)
  rw [← ex5] at g4
  refine lv_istore_n (lv' := [(2, .int x5), (0, .ref (ad 31)), (1, .int a1)]) hx hb dX1_isTaken_6 rfl hl (by decide) rfl (fun ls hl => ?_)
  refine lv_iload_n hx hb dX1_isTaken_7 rfl (lv_at hl 0 rfl) ?_
  refine lv_aload_n hx hb dX1_isTaken_8 rfl (lv_at hl 1 rfl) ?_
  refine va_get (D := D) hx hb hts inlX1 hown hK hP 31 (jc_31 cI cL ad σ τ) rfl 8 (by decide) (hts _ kw_27_22) (fun _ h9 => h9) rfl dX1_isTaken_9 ?_
  refine lv_icmp_ge (tgt := 29) hx hb dX1_isTaken_12 (by decide) (fun c6 => ?_) (fun c6 => ?_)
  · have kc6 := jle c6 rfl rfl
    refine lv_iconst (v := 0) hx hb dX1_isTaken_29 (by decide) ?_
    exact hret 0 σ τ _ _ _ _ rfl ⟨⟨rfl, rfl⟩, Or.inr (⟨rfl, trivial⟩)⟩ hP hS dX1_isTaken_30
  · have kc6 := jnle c6 rfl rfl
    refine lv_aload_n hx hb dX1_isTaken_15 rfl (lv_at hl 1 rfl) ?_
    refine va_get (D := D) hx hb hts inlX1 hown hK hP 31 (jc_31 cI cL ad σ τ) rfl 7 (by decide) (hts _ kw_5_8) (fun _ h9 => h9) rfl dX1_isTaken_16 ?_
    refine lv_iload_n hx hb dX1_isTaken_19 rfl (lv_at hl 0 rfl) ?_
    refine jald hx hb hK hP (jc_37 cI cL ad σ τ) (jin rfl (by omega) (by omega)) dX1_isTaken_20 ?_
    refine lv_topi (fun x7 ex7 => ?_)
    refine lv_iload_n hx hb dX1_isTaken_21 rfl (lv_at hl 2 rfl) ?_
    refine lv_icmp_ne (tgt := 29) hx hb dX1_isTaken_22 (by decide) (fun c8 => ?_) (fun c8 => ?_)
    · have kc8 := jne c8 rfl t1
      refine lv_iconst (v := 0) hx hb dX1_isTaken_29 (by decide) ?_
      exact hret 0 σ τ _ _ _ _ rfl ⟨⟨rfl, rfl⟩, Or.inr (⟨rfl, trivial⟩)⟩ hP hS dX1_isTaken_30
    · have kc8 := jeq c8 rfl t1
      refine lv_iconst (v := 1) hx hb dX1_isTaken_25 (by decide) ?_
      refine lv_goto (tgt := 30) hx hb dX1_isTaken_26 (by decide) ?_
      exact hret 1 σ τ _ _ _ _ rfl ⟨⟨rfl, rfl⟩, Or.inl ⟨rfl, trivial⟩⟩ hP hS dX1_isTaken_30
set_option maxHeartbeats 4000000 in
set_option maxRecDepth 100000 in
theorem c_X1_slotFor_31 (l : Launch) (D : va_G) (cI cL : ClassId) (ad zz : Nat → Nat) (hJ : jD ad) (σ : Nat → Nat → Int32) (τ : Nat → Nat → Int64) (a1 : Int32) (A1 : Int) (t1 : a1.toInt = A1) (hI31 : jI31 σ) : jM l yX1_slotFor cX1_slotFor 5 (some .int) ({ frames := 1, cells := 0, slots := 0, locals := 22 }) D cI cL ad zz [.ref (ad 31), .int a1] σ τ (fun r σ' τ' => (σ = σ' ∧ τ = τ') ∧ ((True ∧ ((-1) ≤ r.toInt ∧ r.toInt ≤ 1023)))) := by
  refine jM.of hJ (by decide +kernel) (nt := .int) rfl (Nat.le_of_ble_eq_true rfl) ?_
  intro p e s m args below meth c Q ls hC hret hl hP
  obtain ⟨hx, hb, hr, hml, hown, hts, hK, -, hlocks, hZ⟩ := hC
  have hown : s.vm.findClass RX1 = some m.cls := hown
  have hS : va_S (jA ad) s.heap s.heap [] := va_S.rf
  have hA : ∀ q, jA ad q → jA ad q := fun _ h => h
  have hl : lv_has ls 5 [(0, .ref (ad 31)), (1, .int a1)] := hl
  have g1 := jrg t1
  obtain ⟨i1, w2, w3⟩ : (0 ≤ (σ 31 8).toInt ∧ (σ 31 8).toInt ≤ 350) ∧ (∀ k : Nat, k < 1400 → (-1) ≤ (σ 33 k).toInt ∧ (σ 33 k).toInt ≤ 350) ∧ (∀ k : Nat, k < 1024 → 0 ≤ (σ 36 k).toInt ∧ (σ 36 k).toInt ≤ 349) := id hI31
  refine lv_iload_n hx hb dX1_slotFor_0 rfl (lv_at hl 1 rfl) ?_
  refine lv_ldc (v := (-1640531527)) hx hb hown (hts _ kw_29_4) dX1_slotFor_1 ?_
  refine lv_imul hx hb dX1_slotFor_3 ?_
  refine lv_topi (fun x4 ex4 => ?_)
  have gx4 := jrg (rfl : x4.toInt = x4.toInt)
  refine lv_bipush (v := 22) hx hb dX1_slotFor_4 (by decide) ?_
  refine lv_iushr hx hb dX1_slotFor_6 rfl ?_
  refine lv_topi (fun x5 ex5 => ?_)
  have gx5 := jrg (rfl : x5.toInt = x5.toInt)
  have g6 : 0 ≤ x5.toInt ∧ x5.toInt ≤ 1023 := jushr22 ex5
  refine lv_istore_n (lv' := [(2, .int x5), (0, .ref (ad 31)), (1, .int a1)]) hx hb dX1_slotFor_7 rfl hl (by decide) rfl (fun ls hl => ?_)
  refine lv_iconst (v := 0) hx hb dX1_slotFor_8 (by decide) ?_
  refine lv_istore_n (lv' := [(3, .int 0), (2, .int x5), (0, .ref (ad 31)), (1, .int a1)]) hx hb dX1_slotFor_9 rfl hl (by decide) rfl (fun ls hl => ?_)
  have lp7 : ∀ (n8 : Nat) (x9 : Int32) (H : Heap) (locs : List Loc) (ls : Array Slot), (-x9.toInt + 1024 : Int) < n8 → 0 ≤ x9.toInt → x9.toInt ≤ 1024 → jH D cI cL ad σ τ H → va_S (jA ad) s.heap H locs → lv_has ls 5 [(3, .int x9), (2, .int x5), (0, .ref (ad 31)), (1, .int a1)] → W p l e ({ frames := 1, cells := 0, slots := 0, locals := 22 }) s m args below meth c H locs 0 0 Q (F0 m 10 ls []) := by
    intro n8
    induction n8 with
    | zero => intro x9 H locs ls h11 h12 h13; exact absurd h11 (by omega)
    | succ n8 ihlp7 =>
      intro x9 H locs ls h11 h12 h13 hP hS hl
      refine lv_iload_n hx hb dX1_slotFor_10 rfl (lv_at hl 0 rfl) ?_
      refine lv_sipush (v := 1024) hx hb dX1_slotFor_11 (by decide) ?_
      refine lv_icmp_ge (tgt := 60) hx hb dX1_slotFor_14 (by decide) (fun c15 => ?_) (fun c15 => ?_)
      · have kc15 := jle c15 jz_1024 rfl
        refine lv_iconst (v := (-1)) hx hb dX1_slotFor_60 (by decide) ?_
        exact hret (-1) σ τ _ _ _ _ rfl ⟨⟨rfl, rfl⟩, ⟨trivial, (by have h9 := jz_m1; omega)⟩⟩ hP hS dX1_slotFor_61
      · have kc15 := jnle c15 jz_1024 rfl
        refine lv_iload_n hx hb dX1_slotFor_17 rfl (lv_at hl 1 rfl) ?_
        refine lv_iload_n hx hb dX1_slotFor_18 rfl (lv_at hl 0 rfl) ?_
        have g16 := jrg (rfl : x5.toInt = x5.toInt)
        have g17 := jrg (rfl : x9.toInt = x9.toInt)
        refine lv_iadd hx hb dX1_slotFor_19 ?_
        refine lv_topi (fun x18 ex18 => ?_)
        have tx18 : x18.toInt = x5.toInt + x9.toInt := (jadd ex18 rfl rfl (by omega) (by omega)).trans (by omega)
        refine lv_sipush (v := 1023) hx hb dX1_slotFor_20 (by decide) ?_
        refine lv_iand hx hb dX1_slotFor_23 ?_
        refine lv_topi (fun x19 ex19 => ?_)
        have gx19 := jrg (rfl : x19.toInt = x19.toInt)
        have g20 : 0 ≤ x19.toInt ∧ x19.toInt ≤ 1023 := jmask ex19 10 (by decide) (by decide)
        refine lv_istore (lv' := [(4, .int x19), (3, .int x9), (2, .int x5), (0, .ref (ad 31)), (1, .int a1)]) hx hb dX1_slotFor_24 hl (by decide) rfl (fun ls hl => ?_)
        refine lv_aload_n hx hb dX1_slotFor_26 rfl (lv_at hl 3 rfl) ?_
        refine lv_iload hx hb dX1_slotFor_27 (lv_at hl 0 rfl) ?_
        refine jcallV (As := [.int x19]) (rest := []) ⟨hx, hb, hml, hown, hts⟩ hK hP hA hS hZ (c_X1_isTaken_31 l D cI cL ad zz hJ σ τ x19 (x19.toInt) rfl hI31 (by omega)) cw_RX1_81 (jc_31 cI cL ad σ τ) rfl ⟨Nat.le_of_ble_eq_true rfl, Nat.le_of_ble_eq_true rfl⟩ rfl rfl rfl hl.1 rfl (Nat.le_of_ble_eq_true rfl) dX1_slotFor_29 ⟨Nat.zero_le _, Nat.zero_le _⟩ (fun r22 σ21 τ21 H locs h21 hP hS => ?_)
        obtain ⟨⟨rfl, rfl⟩, h21⟩ := h21
        rcases h21 with h23 | h24
        · obtain ⟨q26, k25⟩ := h23
          have q26 := q26.symm
          subst q26
          refine lv_if_eq (tgt := 51) hx hb dX1_slotFor_32 (by decide) (fun c => absurd c (by decide)) (fun _ => ?_)
          refine lv_aload_n hx hb dX1_slotFor_35 rfl (lv_at hl 3 rfl) ?_
          refine va_get (D := D) hx hb hts inlX1 hown hK hP 31 (jc_31 cI cL ad σ τ) rfl 2 (by decide) (hts _ kw_5_3) (fun _ h9 => h9) rfl dX1_slotFor_36 ?_
          refine lv_aload_n hx hb dX1_slotFor_39 rfl (lv_at hl 3 rfl) ?_
          refine va_get (D := D) hx hb hts inlX1 hown hK hP 31 (jc_31 cI cL ad σ τ) rfl 6 (by decide) (hts _ kw_5_7) (fun _ h9 => h9) rfl dX1_slotFor_40 ?_
          refine lv_iload hx hb dX1_slotFor_43 (lv_at hl 0 rfl) ?_
          refine jald hx hb hK hP (jc_36 cI cL ad σ τ) (jin rfl (by omega) (by omega)) dX1_slotFor_45 ?_
          have g27 := w3 _ (jnat (x := x19) rfl (n := 1024) (by omega) (by decide))
          refine lv_topi (fun x28 ex28 => ?_)
          rw [← ex28] at g27
          refine jald hx hb hK hP (jc_32 cI cL ad σ τ) (jin rfl (by omega) (by omega)) dX1_slotFor_46 ?_
          refine lv_topi (fun x29 ex29 => ?_)
          refine lv_iload_n hx hb dX1_slotFor_47 rfl (lv_at hl 4 rfl) ?_
          refine lv_icmp_ne (tgt := 54) hx hb dX1_slotFor_48 (by decide) (fun c30 => ?_) (fun c30 => ?_)
          · have kc30 := jne c30 rfl t1
            obtain ⟨x31, ex31⟩ : ∃ y : Int32, y = x9 + 1 := ⟨_, rfl⟩
            have tx31 : x31.toInt = x9.toInt + 1 := (jadd ex31 rfl jz_1 (by omega) (by omega)).trans (by omega)
            refine lv_iinc (v := x31) (lv' := [(3, .int x31), (4, .int x19), (2, .int x5), (0, .ref (ad 31)), (1, .int a1)]) hx hb dX1_slotFor_54 hl (k := 1) rfl (by rw [ex31]; rfl) (by decide) rfl (fun ls hl => ?_)
            refine lv_goto (tgt := 10) hx hb dX1_slotFor_57 (by decide) ?_
            exact ihlp7 x31 _ _ ls (by have h90 := tx31; omega) (by have h90 := tx31; omega) (by have h90 := tx31; omega)    hP hS (lv_sub hl [0, 2, 3, 4] rfl)
          · have kc30 := jeq c30 rfl t1
            refine lv_iload hx hb dX1_slotFor_51 (lv_at hl 0 rfl) ?_
            exact hret x19 σ τ _ _ _ _ rfl ⟨⟨rfl, rfl⟩, ⟨trivial, (by omega)⟩⟩ hP hS dX1_slotFor_53
        · obtain ⟨q33, k32⟩ := h24
          have q33 := q33.symm
          subst q33
          refine lv_if_eq (tgt := 51) hx hb dX1_slotFor_32 (by decide) (fun _ => ?_) (fun c => absurd (by decide) c)
          refine lv_iload hx hb dX1_slotFor_51 (lv_at hl 0 rfl) ?_
          exact hret x19 σ τ _ _ _ _ rfl ⟨⟨rfl, rfl⟩, ⟨trivial, (by omega)⟩⟩ hP hS dX1_slotFor_53
  exact lp7 1000000 0 _ _ ls (by have h90 := jz_0; omega) (by have h90 := jz_0; omega) (by have h90 := jz_0; omega)   hP hS hl
set_option maxHeartbeats 4000000 in
set_option maxRecDepth 100000 in
theorem c_X1_trimmed_31 (l : Launch) (D : va_G) (cI cL : ClassId) (ad zz : Nat → Nat) (hJ : jD ad) (σ : Nat → Nat → Int32) (τ : Nat → Nat → Int64) (a1 : Int32) (A1 : Int) (t1 : a1.toInt = A1) (a2 : Int32) (A2 : Int) (t2 : a2.toInt = A2) : jM l yX1_trimmed cX1_trimmed 7 (some .int) ({ frames := 1, cells := 0, slots := 0, locals := 23 }) D cI cL ad zz [.ref (ad 31), .int a1, .int a2] σ τ (fun r σ' τ' => (σ = σ' ∧ τ = τ') ∧ True) := by
  refine jM.of hJ (by decide +kernel) (nt := .int) rfl (Nat.le_of_ble_eq_true rfl) ?_
  intro p e s m args below meth c Q ls hC hret hl hP
  obtain ⟨hx, hb, hr, hml, hown, hts, hK, -, hlocks, hZ⟩ := hC
  have hown : s.vm.findClass RX1 = some m.cls := hown
  have hS : va_S (jA ad) s.heap s.heap [] := va_S.rf
  have hA : ∀ q, jA ad q → jA ad q := fun _ h => h
  have hl : lv_has ls 7 [(0, .ref (ad 31)), (1, .int a1), (2, .int a2)] := hl
  have g1 := jrg t1
  have g2 := jrg t2
  refine lv_iload_n hx hb dX1_trimmed_0 rfl (lv_at hl 1 rfl) ?_
  refine lv_istore_n (lv' := [(3, .int a1), (0, .ref (ad 31)), (1, .int a1), (2, .int a2)]) hx hb dX1_trimmed_1 rfl hl (by decide) rfl (fun ls hl => ?_)
  refine lv_iconst (v := 0) hx hb dX1_trimmed_2 (by decide) ?_
  refine lv_istore (lv' := [(4, .int 0), (3, .int a1), (0, .ref (ad 31)), (1, .int a1), (2, .int a2)]) hx hb dX1_trimmed_3 hl (by decide) rfl (fun ls hl => ?_)
  have lp1 : ∀ (n2 : Nat) (x3 : Int32) (x4 : Int32) (H : Heap) (locs : List Loc) (ls : Array Slot), (-x4.toInt + 4 : Int) < n2 → 0 ≤ x4.toInt → x4.toInt ≤ 4 → jH D cI cL ad σ τ H → va_S (jA ad) s.heap H locs → lv_has ls 7 [(4, .int x4), (3, .int x3), (0, .ref (ad 31)), (1, .int a1), (2, .int a2)] → W p l e ({ frames := 1, cells := 0, slots := 0, locals := 23 }) s m args below meth c H locs 0 0 Q (F0 m 5 ls []) := by
    intro n2
    induction n2 with
    | zero => intro x3 x4 H locs ls h7 h8 h9; have gx3 := jrg (rfl : x3.toInt = x3.toInt); exact absurd h7 (by omega)
    | succ n2 ihlp1 =>
      intro x3 x4 H locs ls h7 h8 h9 hP hS hl
      have gx3 := jrg (rfl : x3.toInt = x3.toInt)
      refine lv_iload hx hb dX1_trimmed_5 (lv_at hl 0 rfl) ?_
      refine lv_iconst (v := 4) hx hb dX1_trimmed_7 (by decide) ?_
      refine lv_icmp_ge (tgt := 90) hx hb dX1_trimmed_8 (by decide) (fun c11 => ?_) (fun c11 => ?_)
      · have kc11 := jle c11 jz_4 rfl
        refine lv_iload_n hx hb dX1_trimmed_90 rfl (lv_at hl 1 rfl) ?_
        exact hret x3 σ τ _ _ _ _ rfl ⟨⟨rfl, rfl⟩, trivial⟩ hP hS dX1_trimmed_91
      · have kc11 := jnle c11 jz_4 rfl
        refine lv_iload_n hx hb dX1_trimmed_11 rfl (lv_at hl 3 rfl) ?_
        refine lv_iload hx hb dX1_trimmed_12 (lv_at hl 0 rfl) ?_
        refine jcallS (As := [.int a1, .int x4]) (rest := []) ⟨hx, hb, hml, hown, hts⟩ hK hP hA hS hZ (c_X0_left l D cI cL ad zz hJ σ τ a1 (A1) t1 x4 (x4.toInt) rfl) cw_RX1_123 ⟨Nat.le_of_ble_eq_true rfl, Nat.le_of_ble_eq_true rfl⟩ rfl rfl rfl hl.1 rfl (Nat.le_of_ble_eq_true rfl) dX1_trimmed_14 ⟨Nat.zero_le _, Nat.zero_le _⟩ (fun r13 σ12 τ12 H locs h12 hP hS => ?_)
        obtain ⟨⟨rfl, rfl⟩, h12⟩ := h12
        refine lv_istore (lv' := [(5, .int r13), (4, .int x4), (3, .int x3), (0, .ref (ad 31)), (1, .int a1), (2, .int a2)]) hx hb dX1_trimmed_17 hl (by decide) rfl (fun ls hl => ?_)
        refine lv_iload_n hx hb dX1_trimmed_19 rfl (lv_at hl 4 rfl) ?_
        refine jcallS (As := [.int a1]) (rest := []) ⟨hx, hb, hml, hown, hts⟩ hK hP hA hS hZ (c_X0_last l D cI cL ad zz hJ σ τ a1 (A1) t1) cw_RX1_126 ⟨Nat.le_of_ble_eq_true rfl, Nat.le_of_ble_eq_true rfl⟩ rfl rfl rfl hl.1 rfl (Nat.le_of_ble_eq_true rfl) dX1_trimmed_20 ⟨Nat.zero_le _, Nat.zero_le _⟩ (fun r15 σ14 τ14 H locs h14 hP hS => ?_)
        obtain ⟨⟨rfl, rfl⟩, h14⟩ := h14
        refine lv_iload hx hb dX1_trimmed_23 (lv_at hl 1 rfl) ?_
        refine lv_icmp_ne (tgt := 32) hx hb dX1_trimmed_25 (by decide) (fun c16 => ?_) (fun c16 => ?_)
        · have kc16 := jne c16 rfl rfl
          refine lv_iload_n hx hb dX1_trimmed_32 rfl (lv_at hl 5 rfl) ?_
          refine lv_iconst (v := 1) hx hb dX1_trimmed_33 (by decide) ?_
          refine lv_iadd hx hb dX1_trimmed_34 ?_
          refine lv_topi (fun x17 ex17 => ?_)
          have gx17 := jrg (rfl : x17.toInt = x17.toInt)
          refine lv_iconst (v := 2) hx hb dX1_trimmed_35 (by decide) ?_
          refine lv_idiv hx hb dX1_trimmed_36 (by decide) ?_
          refine lv_topi (fun x18 ex18 => ?_)
          have gx18 := jrg (rfl : x18.toInt = x18.toInt)
          refine lv_istore (lv' := [(6, .int x18), (5, .int r13), (4, .int x4), (3, .int x3), (0, .ref (ad 31)), (1, .int a1), (2, .int a2)]) hx hb dX1_trimmed_37 hl (by decide) rfl (fun ls hl => ?_)
          refine lv_aload_n hx hb dX1_trimmed_39 rfl (lv_at hl 4 rfl) ?_
          refine va_get (D := D) hx hb hts inlX1 hown hK hP 31 (jc_31 cI cL ad σ τ) rfl 12 (by decide) (hts _ kw_28_8) (fun _ h9 => h9) rfl dX1_trimmed_40 ?_
          refine lv_if_eq (tgt := 51) hx hb dX1_trimmed_43 (by decide) (fun c19 => ?_) (fun c19 => ?_)
          · have kc19 := jeq c19 rfl jz_0
            refine lv_iload hx hb dX1_trimmed_51 (lv_at hl 1 rfl) ?_
            refine lv_iload hx hb dX1_trimmed_53 (lv_at hl 0 rfl) ?_
            refine lv_icmp_le (tgt := 71) hx hb dX1_trimmed_55 (by decide) (fun c20 => ?_) (fun c20 => ?_)
            · have kc20 := jle c20 rfl rfl
              refine lv_iload hx hb dX1_trimmed_71 (lv_at hl 1 rfl) ?_
              refine lv_if_ne (tgt := 84) hx hb dX1_trimmed_73 (by decide) (fun c21 => ?_) (fun c21 => ?_)
              · have kc21 := jne c21 rfl jz_0
                obtain ⟨x22, ex22⟩ : ∃ y : Int32, y = x4 + 1 := ⟨_, rfl⟩
                have tx22 : x22.toInt = x4.toInt + 1 := (jadd ex22 rfl jz_1 (by omega) (by omega)).trans (by omega)
                refine lv_iinc (v := x22) (lv' := [(4, .int x22), (6, .int x18), (5, .int r13), (3, .int x3), (0, .ref (ad 31)), (1, .int a1), (2, .int a2)]) hx hb dX1_trimmed_84 hl (k := 2) rfl (by rw [ex22]; rfl) (by decide) rfl (fun ls hl => ?_)
                refine lv_goto (tgt := 5) hx hb dX1_trimmed_87 (by decide) ?_
                exact ihlp1 x3 x22 _ _ ls (by have h91 := tx22; omega) (by have h91 := tx22; omega) (by have h91 := tx22; omega)    hP hS (lv_sub hl [0, 3, 4, 5, 6] rfl)
              · have kc21 := jeq c21 rfl jz_0
                refine lv_iload_n hx hb dX1_trimmed_76 rfl (lv_at hl 3 rfl) ?_
                refine lv_iload hx hb dX1_trimmed_77 (lv_at hl 2 rfl) ?_
                refine lv_iconst (v := 0) hx hb dX1_trimmed_79 (by decide) ?_
                refine jcallS (As := [.int x3, .int x4, .int 0]) (rest := []) ⟨hx, hb, hml, hown, hts⟩ hK hP hA hS hZ (c_X0_withSteps l D cI cL ad zz hJ σ τ x3 (x3.toInt) rfl x4 (x4.toInt) rfl 0 (0) jz_0) cw_RX1_133 ⟨Nat.le_of_ble_eq_true rfl, Nat.le_of_ble_eq_true rfl⟩ rfl rfl rfl hl.1 rfl (Nat.le_of_ble_eq_true rfl) dX1_trimmed_80 ⟨Nat.zero_le _, Nat.zero_le _⟩ (fun r24 σ23 τ23 H locs h23 hP hS => ?_)
                obtain ⟨⟨rfl, rfl⟩, h23⟩ := h23
                refine lv_istore_n (lv' := [(3, .int r24), (6, .int x18), (5, .int r13), (4, .int x4), (0, .ref (ad 31)), (1, .int a1), (2, .int a2)]) hx hb dX1_trimmed_83 rfl hl (by decide) rfl (fun ls hl => ?_)
                obtain ⟨x25, ex25⟩ : ∃ y : Int32, y = x4 + 1 := ⟨_, rfl⟩
                have tx25 : x25.toInt = x4.toInt + 1 := (jadd ex25 rfl jz_1 (by omega) (by omega)).trans (by omega)
                refine lv_iinc (v := x25) (lv' := [(4, .int x25), (3, .int r24), (6, .int x18), (5, .int r13), (0, .ref (ad 31)), (1, .int a1), (2, .int a2)]) hx hb dX1_trimmed_84 hl (k := 3) rfl (by rw [ex25]; rfl) (by decide) rfl (fun ls hl => ?_)
                refine lv_goto (tgt := 5) hx hb dX1_trimmed_87 (by decide) ?_
                exact ihlp1 r24 x25 _ _ ls (by have h91 := tx25; omega) (by have h91 := tx25; omega) (by have h91 := tx25; omega)    hP hS (lv_sub hl [0, 1, 4, 5, 6] rfl)
            · have kc20 := jnle c20 rfl rfl
              refine lv_iload hx hb dX1_trimmed_58 (lv_at hl 0 rfl) ?_
              refine lv_istore (lv' := [(5, .int x18), (6, .int x18), (4, .int x4), (3, .int x3), (0, .ref (ad 31)), (1, .int a1), (2, .int a2)]) hx hb dX1_trimmed_60 hl (by decide) rfl (fun ls hl => ?_)
              refine lv_iload_n hx hb dX1_trimmed_62 rfl (lv_at hl 3 rfl) ?_
              refine lv_iload hx hb dX1_trimmed_63 (lv_at hl 2 rfl) ?_
              refine lv_iload hx hb dX1_trimmed_65 (lv_at hl 0 rfl) ?_
              refine jcallS (As := [.int x3, .int x4, .int x18]) (rest := []) ⟨hx, hb, hml, hown, hts⟩ hK hP hA hS hZ (c_X0_withLeft l D cI cL ad zz hJ σ τ x3 (x3.toInt) rfl x4 (x4.toInt) rfl x18 (x18.toInt) rfl) cw_RX1_129 ⟨Nat.le_of_ble_eq_true rfl, Nat.le_of_ble_eq_true rfl⟩ rfl rfl rfl hl.1 rfl (Nat.le_of_ble_eq_true rfl) dX1_trimmed_67 ⟨Nat.zero_le _, Nat.zero_le _⟩ (fun r27 σ26 τ26 H locs h26 hP hS => ?_)
              obtain ⟨⟨rfl, rfl⟩, h26⟩ := h26
              refine lv_istore_n (lv' := [(3, .int r27), (5, .int x18), (6, .int x18), (4, .int x4), (0, .ref (ad 31)), (1, .int a1), (2, .int a2)]) hx hb dX1_trimmed_70 rfl hl (by decide) rfl (fun ls hl => ?_)
              refine lv_iload hx hb dX1_trimmed_71 (lv_at hl 1 rfl) ?_
              refine lv_if_ne (tgt := 84) hx hb dX1_trimmed_73 (by decide) (fun c28 => ?_) (fun c28 => ?_)
              · have kc28 := jne c28 rfl jz_0
                obtain ⟨x29, ex29⟩ : ∃ y : Int32, y = x4 + 1 := ⟨_, rfl⟩
                have tx29 : x29.toInt = x4.toInt + 1 := (jadd ex29 rfl jz_1 (by omega) (by omega)).trans (by omega)
                refine lv_iinc (v := x29) (lv' := [(4, .int x29), (3, .int r27), (5, .int x18), (6, .int x18), (0, .ref (ad 31)), (1, .int a1), (2, .int a2)]) hx hb dX1_trimmed_84 hl (k := 3) rfl (by rw [ex29]; rfl) (by decide) rfl (fun ls hl => ?_)
                refine lv_goto (tgt := 5) hx hb dX1_trimmed_87 (by decide) ?_
                exact ihlp1 r27 x29 _ _ ls (by have h91 := tx29; omega) (by have h91 := tx29; omega) (by have h91 := tx29; omega)    hP hS (lv_sub hl [0, 1, 4, 5, 6] rfl)
              · have kc28 := jeq c28 rfl jz_0
                refine lv_iload_n hx hb dX1_trimmed_76 rfl (lv_at hl 0 rfl) ?_
                refine lv_iload hx hb dX1_trimmed_77 (lv_at hl 3 rfl) ?_
                refine lv_iconst (v := 0) hx hb dX1_trimmed_79 (by decide) ?_
                refine jcallS (As := [.int r27, .int x4, .int 0]) (rest := []) ⟨hx, hb, hml, hown, hts⟩ hK hP hA hS hZ (c_X0_withSteps l D cI cL ad zz hJ σ τ r27 (r27.toInt) rfl x4 (x4.toInt) rfl 0 (0) jz_0) cw_RX1_133 ⟨Nat.le_of_ble_eq_true rfl, Nat.le_of_ble_eq_true rfl⟩ rfl rfl rfl hl.1 rfl (Nat.le_of_ble_eq_true rfl) dX1_trimmed_80 ⟨Nat.zero_le _, Nat.zero_le _⟩ (fun r31 σ30 τ30 H locs h30 hP hS => ?_)
                obtain ⟨⟨rfl, rfl⟩, h30⟩ := h30
                refine lv_istore_n (lv' := [(3, .int r31), (5, .int x18), (6, .int x18), (4, .int x4), (0, .ref (ad 31)), (1, .int a1), (2, .int a2)]) hx hb dX1_trimmed_83 rfl hl (by decide) rfl (fun ls hl => ?_)
                obtain ⟨x32, ex32⟩ : ∃ y : Int32, y = x4 + 1 := ⟨_, rfl⟩
                have tx32 : x32.toInt = x4.toInt + 1 := (jadd ex32 rfl jz_1 (by omega) (by omega)).trans (by omega)
                refine lv_iinc (v := x32) (lv' := [(4, .int x32), (3, .int r31), (5, .int x18), (6, .int x18), (0, .ref (ad 31)), (1, .int a1), (2, .int a2)]) hx hb dX1_trimmed_84 hl (k := 3) rfl (by rw [ex32]; rfl) (by decide) rfl (fun ls hl => ?_)
                refine lv_goto (tgt := 5) hx hb dX1_trimmed_87 (by decide) ?_
                exact ihlp1 r31 x32 _ _ ls (by have h91 := tx32; omega) (by have h91 := tx32; omega) (by have h91 := tx32; omega)    hP hS (lv_sub hl [0, 1, 4, 5, 6] rfl)
          · have kc19 := jne c19 rfl jz_0
            refine lv_iload_n hx hb dX1_trimmed_46 rfl (lv_at hl 6 rfl) ?_
            refine lv_iconst (v := 1) hx hb dX1_trimmed_47 (by decide) ?_
            refine lv_icmp_gt (tgt := 71) hx hb dX1_trimmed_48 (by decide) (fun c33 => ?_) (fun c33 => ?_)
            · have kc33 := jlt c33 jz_1 t2
              refine lv_iload hx hb dX1_trimmed_71 (lv_at hl 1 rfl) ?_
              refine lv_if_ne (tgt := 84) hx hb dX1_trimmed_73 (by decide) (fun c34 => ?_) (fun c34 => ?_)
              · have kc34 := jne c34 rfl jz_0
                obtain ⟨x35, ex35⟩ : ∃ y : Int32, y = x4 + 1 := ⟨_, rfl⟩
                have tx35 : x35.toInt = x4.toInt + 1 := (jadd ex35 rfl jz_1 (by omega) (by omega)).trans (by omega)
                refine lv_iinc (v := x35) (lv' := [(4, .int x35), (6, .int x18), (5, .int r13), (3, .int x3), (0, .ref (ad 31)), (1, .int a1), (2, .int a2)]) hx hb dX1_trimmed_84 hl (k := 2) rfl (by rw [ex35]; rfl) (by decide) rfl (fun ls hl => ?_)
                refine lv_goto (tgt := 5) hx hb dX1_trimmed_87 (by decide) ?_
                exact ihlp1 x3 x35 _ _ ls (by have h91 := tx35; omega) (by have h91 := tx35; omega) (by have h91 := tx35; omega)    hP hS (lv_sub hl [0, 3, 4, 5, 6] rfl)
              · have kc34 := jeq c34 rfl jz_0
                refine lv_iload_n hx hb dX1_trimmed_76 rfl (lv_at hl 3 rfl) ?_
                refine lv_iload hx hb dX1_trimmed_77 (lv_at hl 2 rfl) ?_
                refine lv_iconst (v := 0) hx hb dX1_trimmed_79 (by decide) ?_
                refine jcallS (As := [.int x3, .int x4, .int 0]) (rest := []) ⟨hx, hb, hml, hown, hts⟩ hK hP hA hS hZ (c_X0_withSteps l D cI cL ad zz hJ σ τ x3 (x3.toInt) rfl x4 (x4.toInt) rfl 0 (0) jz_0) cw_RX1_133 ⟨Nat.le_of_ble_eq_true rfl, Nat.le_of_ble_eq_true rfl⟩ rfl rfl rfl hl.1 rfl (Nat.le_of_ble_eq_true rfl) dX1_trimmed_80 ⟨Nat.zero_le _, Nat.zero_le _⟩ (fun r37 σ36 τ36 H locs h36 hP hS => ?_)
                obtain ⟨⟨rfl, rfl⟩, h36⟩ := h36
                refine lv_istore_n (lv' := [(3, .int r37), (6, .int x18), (5, .int r13), (4, .int x4), (0, .ref (ad 31)), (1, .int a1), (2, .int a2)]) hx hb dX1_trimmed_83 rfl hl (by decide) rfl (fun ls hl => ?_)
                obtain ⟨x38, ex38⟩ : ∃ y : Int32, y = x4 + 1 := ⟨_, rfl⟩
                have tx38 : x38.toInt = x4.toInt + 1 := (jadd ex38 rfl jz_1 (by omega) (by omega)).trans (by omega)
                refine lv_iinc (v := x38) (lv' := [(4, .int x38), (3, .int r37), (6, .int x18), (5, .int r13), (0, .ref (ad 31)), (1, .int a1), (2, .int a2)]) hx hb dX1_trimmed_84 hl (k := 3) rfl (by rw [ex38]; rfl) (by decide) rfl (fun ls hl => ?_)
                refine lv_goto (tgt := 5) hx hb dX1_trimmed_87 (by decide) ?_
                exact ihlp1 r37 x38 _ _ ls (by have h91 := tx38; omega) (by have h91 := tx38; omega) (by have h91 := tx38; omega)    hP hS (lv_sub hl [0, 1, 4, 5, 6] rfl)
            · have kc33 := jnlt c33 jz_1 t2
              refine lv_iload hx hb dX1_trimmed_51 (lv_at hl 1 rfl) ?_
              refine lv_iload hx hb dX1_trimmed_53 (lv_at hl 0 rfl) ?_
              refine lv_icmp_le (tgt := 71) hx hb dX1_trimmed_55 (by decide) (fun c39 => ?_) (fun c39 => ?_)
              · have kc39 := jle c39 rfl rfl
                refine lv_iload hx hb dX1_trimmed_71 (lv_at hl 1 rfl) ?_
                refine lv_if_ne (tgt := 84) hx hb dX1_trimmed_73 (by decide) (fun c40 => ?_) (fun c40 => ?_)
                · have kc40 := jne c40 rfl jz_0
                  obtain ⟨x41, ex41⟩ : ∃ y : Int32, y = x4 + 1 := ⟨_, rfl⟩
                  have tx41 : x41.toInt = x4.toInt + 1 := (jadd ex41 rfl jz_1 (by omega) (by omega)).trans (by omega)
                  refine lv_iinc (v := x41) (lv' := [(4, .int x41), (6, .int x18), (5, .int r13), (3, .int x3), (0, .ref (ad 31)), (1, .int a1), (2, .int a2)]) hx hb dX1_trimmed_84 hl (k := 2) rfl (by rw [ex41]; rfl) (by decide) rfl (fun ls hl => ?_)
                  refine lv_goto (tgt := 5) hx hb dX1_trimmed_87 (by decide) ?_
                  exact ihlp1 x3 x41 _ _ ls (by have h91 := tx41; omega) (by have h91 := tx41; omega) (by have h91 := tx41; omega)    hP hS (lv_sub hl [0, 3, 4, 5, 6] rfl)
                · have kc40 := jeq c40 rfl jz_0
                  refine lv_iload_n hx hb dX1_trimmed_76 rfl (lv_at hl 3 rfl) ?_
                  refine lv_iload hx hb dX1_trimmed_77 (lv_at hl 2 rfl) ?_
                  refine lv_iconst (v := 0) hx hb dX1_trimmed_79 (by decide) ?_
                  refine jcallS (As := [.int x3, .int x4, .int 0]) (rest := []) ⟨hx, hb, hml, hown, hts⟩ hK hP hA hS hZ (c_X0_withSteps l D cI cL ad zz hJ σ τ x3 (x3.toInt) rfl x4 (x4.toInt) rfl 0 (0) jz_0) cw_RX1_133 ⟨Nat.le_of_ble_eq_true rfl, Nat.le_of_ble_eq_true rfl⟩ rfl rfl rfl hl.1 rfl (Nat.le_of_ble_eq_true rfl) dX1_trimmed_80 ⟨Nat.zero_le _, Nat.zero_le _⟩ (fun r43 σ42 τ42 H locs h42 hP hS => ?_)
                  obtain ⟨⟨rfl, rfl⟩, h42⟩ := h42
                  refine lv_istore_n (lv' := [(3, .int r43), (6, .int x18), (5, .int r13), (4, .int x4), (0, .ref (ad 31)), (1, .int a1), (2, .int a2)]) hx hb dX1_trimmed_83 rfl hl (by decide) rfl (fun ls hl => ?_)
                  obtain ⟨x44, ex44⟩ : ∃ y : Int32, y = x4 + 1 := ⟨_, rfl⟩
                  have tx44 : x44.toInt = x4.toInt + 1 := (jadd ex44 rfl jz_1 (by omega) (by omega)).trans (by omega)
                  refine lv_iinc (v := x44) (lv' := [(4, .int x44), (3, .int r43), (6, .int x18), (5, .int r13), (0, .ref (ad 31)), (1, .int a1), (2, .int a2)]) hx hb dX1_trimmed_84 hl (k := 3) rfl (by rw [ex44]; rfl) (by decide) rfl (fun ls hl => ?_)
                  refine lv_goto (tgt := 5) hx hb dX1_trimmed_87 (by decide) ?_
                  exact ihlp1 r43 x44 _ _ ls (by have h91 := tx44; omega) (by have h91 := tx44; omega) (by have h91 := tx44; omega)    hP hS (lv_sub hl [0, 1, 4, 5, 6] rfl)
              · have kc39 := jnle c39 rfl rfl
                refine lv_iload hx hb dX1_trimmed_58 (lv_at hl 0 rfl) ?_
                refine lv_istore (lv' := [(5, .int x18), (6, .int x18), (4, .int x4), (3, .int x3), (0, .ref (ad 31)), (1, .int a1), (2, .int a2)]) hx hb dX1_trimmed_60 hl (by decide) rfl (fun ls hl => ?_)
                refine lv_iload_n hx hb dX1_trimmed_62 rfl (lv_at hl 3 rfl) ?_
                refine lv_iload hx hb dX1_trimmed_63 (lv_at hl 2 rfl) ?_
                refine lv_iload hx hb dX1_trimmed_65 (lv_at hl 0 rfl) ?_
                refine jcallS (As := [.int x3, .int x4, .int x18]) (rest := []) ⟨hx, hb, hml, hown, hts⟩ hK hP hA hS hZ (c_X0_withLeft l D cI cL ad zz hJ σ τ x3 (x3.toInt) rfl x4 (x4.toInt) rfl x18 (x18.toInt) rfl) cw_RX1_129 ⟨Nat.le_of_ble_eq_true rfl, Nat.le_of_ble_eq_true rfl⟩ rfl rfl rfl hl.1 rfl (Nat.le_of_ble_eq_true rfl) dX1_trimmed_67 ⟨Nat.zero_le _, Nat.zero_le _⟩ (fun r46 σ45 τ45 H locs h45 hP hS => ?_)
                obtain ⟨⟨rfl, rfl⟩, h45⟩ := h45
                refine lv_istore_n (lv' := [(3, .int r46), (5, .int x18), (6, .int x18), (4, .int x4), (0, .ref (ad 31)), (1, .int a1), (2, .int a2)]) hx hb dX1_trimmed_70 rfl hl (by decide) rfl (fun ls hl => ?_)
                refine lv_iload hx hb dX1_trimmed_71 (lv_at hl 1 rfl) ?_
                refine lv_if_ne (tgt := 84) hx hb dX1_trimmed_73 (by decide) (fun c47 => ?_) (fun c47 => ?_)
                · have kc47 := jne c47 rfl jz_0
                  obtain ⟨x48, ex48⟩ : ∃ y : Int32, y = x4 + 1 := ⟨_, rfl⟩
                  have tx48 : x48.toInt = x4.toInt + 1 := (jadd ex48 rfl jz_1 (by omega) (by omega)).trans (by omega)
                  refine lv_iinc (v := x48) (lv' := [(4, .int x48), (3, .int r46), (5, .int x18), (6, .int x18), (0, .ref (ad 31)), (1, .int a1), (2, .int a2)]) hx hb dX1_trimmed_84 hl (k := 3) rfl (by rw [ex48]; rfl) (by decide) rfl (fun ls hl => ?_)
                  refine lv_goto (tgt := 5) hx hb dX1_trimmed_87 (by decide) ?_
                  exact ihlp1 r46 x48 _ _ ls (by have h91 := tx48; omega) (by have h91 := tx48; omega) (by have h91 := tx48; omega)    hP hS (lv_sub hl [0, 1, 4, 5, 6] rfl)
                · have kc47 := jeq c47 rfl jz_0
                  refine lv_iload_n hx hb dX1_trimmed_76 rfl (lv_at hl 0 rfl) ?_
                  refine lv_iload hx hb dX1_trimmed_77 (lv_at hl 3 rfl) ?_
                  refine lv_iconst (v := 0) hx hb dX1_trimmed_79 (by decide) ?_
                  refine jcallS (As := [.int r46, .int x4, .int 0]) (rest := []) ⟨hx, hb, hml, hown, hts⟩ hK hP hA hS hZ (c_X0_withSteps l D cI cL ad zz hJ σ τ r46 (r46.toInt) rfl x4 (x4.toInt) rfl 0 (0) jz_0) cw_RX1_133 ⟨Nat.le_of_ble_eq_true rfl, Nat.le_of_ble_eq_true rfl⟩ rfl rfl rfl hl.1 rfl (Nat.le_of_ble_eq_true rfl) dX1_trimmed_80 ⟨Nat.zero_le _, Nat.zero_le _⟩ (fun r50 σ49 τ49 H locs h49 hP hS => ?_)
                  obtain ⟨⟨rfl, rfl⟩, h49⟩ := h49
                  refine lv_istore_n (lv' := [(3, .int r50), (5, .int x18), (6, .int x18), (4, .int x4), (0, .ref (ad 31)), (1, .int a1), (2, .int a2)]) hx hb dX1_trimmed_83 rfl hl (by decide) rfl (fun ls hl => ?_)
                  obtain ⟨x51, ex51⟩ : ∃ y : Int32, y = x4 + 1 := ⟨_, rfl⟩
                  have tx51 : x51.toInt = x4.toInt + 1 := (jadd ex51 rfl jz_1 (by omega) (by omega)).trans (by omega)
                  refine lv_iinc (v := x51) (lv' := [(4, .int x51), (3, .int r50), (5, .int x18), (6, .int x18), (0, .ref (ad 31)), (1, .int a1), (2, .int a2)]) hx hb dX1_trimmed_84 hl (k := 3) rfl (by rw [ex51]; rfl) (by decide) rfl (fun ls hl => ?_)
                  refine lv_goto (tgt := 5) hx hb dX1_trimmed_87 (by decide) ?_
                  exact ihlp1 r50 x51 _ _ ls (by have h91 := tx51; omega) (by have h91 := tx51; omega) (by have h91 := tx51; omega)    hP hS (lv_sub hl [0, 1, 4, 5, 6] rfl)
        · have kc16 := jeq c16 rfl rfl
          refine lv_iload_n hx hb dX1_trimmed_28 rfl (lv_at hl 5 rfl) ?_
          refine lv_goto (tgt := 35) hx hb dX1_trimmed_29 (by decide) ?_
          refine lv_iconst (v := 2) hx hb dX1_trimmed_35 (by decide) ?_
          refine lv_idiv hx hb dX1_trimmed_36 (by decide) ?_
          refine lv_topi (fun x52 ex52 => ?_)
          have gx52 := jrg (rfl : x52.toInt = x52.toInt)
          refine lv_istore (lv' := [(6, .int x52), (5, .int r13), (4, .int x4), (3, .int x3), (0, .ref (ad 31)), (1, .int a1), (2, .int a2)]) hx hb dX1_trimmed_37 hl (by decide) rfl (fun ls hl => ?_)
          refine lv_aload_n hx hb dX1_trimmed_39 rfl (lv_at hl 4 rfl) ?_
          refine va_get (D := D) hx hb hts inlX1 hown hK hP 31 (jc_31 cI cL ad σ τ) rfl 12 (by decide) (hts _ kw_28_8) (fun _ h9 => h9) rfl dX1_trimmed_40 ?_
          refine lv_if_eq (tgt := 51) hx hb dX1_trimmed_43 (by decide) (fun c53 => ?_) (fun c53 => ?_)
          · have kc53 := jeq c53 rfl jz_0
            refine lv_iload hx hb dX1_trimmed_51 (lv_at hl 1 rfl) ?_
            refine lv_iload hx hb dX1_trimmed_53 (lv_at hl 0 rfl) ?_
            refine lv_icmp_le (tgt := 71) hx hb dX1_trimmed_55 (by decide) (fun c54 => ?_) (fun c54 => ?_)
            · have kc54 := jle c54 rfl rfl
              refine lv_iload hx hb dX1_trimmed_71 (lv_at hl 1 rfl) ?_
              refine lv_if_ne (tgt := 84) hx hb dX1_trimmed_73 (by decide) (fun c55 => ?_) (fun c55 => ?_)
              · have kc55 := jne c55 rfl jz_0
                obtain ⟨x56, ex56⟩ : ∃ y : Int32, y = x4 + 1 := ⟨_, rfl⟩
                have tx56 : x56.toInt = x4.toInt + 1 := (jadd ex56 rfl jz_1 (by omega) (by omega)).trans (by omega)
                refine lv_iinc (v := x56) (lv' := [(4, .int x56), (6, .int x52), (5, .int r13), (3, .int x3), (0, .ref (ad 31)), (1, .int a1), (2, .int a2)]) hx hb dX1_trimmed_84 hl (k := 2) rfl (by rw [ex56]; rfl) (by decide) rfl (fun ls hl => ?_)
                refine lv_goto (tgt := 5) hx hb dX1_trimmed_87 (by decide) ?_
                exact ihlp1 x3 x56 _ _ ls (by have h91 := tx56; omega) (by have h91 := tx56; omega) (by have h91 := tx56; omega)    hP hS (lv_sub hl [0, 3, 4, 5, 6] rfl)
              · have kc55 := jeq c55 rfl jz_0
                refine lv_iload_n hx hb dX1_trimmed_76 rfl (lv_at hl 3 rfl) ?_
                refine lv_iload hx hb dX1_trimmed_77 (lv_at hl 2 rfl) ?_
                refine lv_iconst (v := 0) hx hb dX1_trimmed_79 (by decide) ?_
                refine jcallS (As := [.int x3, .int x4, .int 0]) (rest := []) ⟨hx, hb, hml, hown, hts⟩ hK hP hA hS hZ (c_X0_withSteps l D cI cL ad zz hJ σ τ x3 (x3.toInt) rfl x4 (x4.toInt) rfl 0 (0) jz_0) cw_RX1_133 ⟨Nat.le_of_ble_eq_true rfl, Nat.le_of_ble_eq_true rfl⟩ rfl rfl rfl hl.1 rfl (Nat.le_of_ble_eq_true rfl) dX1_trimmed_80 ⟨Nat.zero_le _, Nat.zero_le _⟩ (fun r58 σ57 τ57 H locs h57 hP hS => ?_)
                obtain ⟨⟨rfl, rfl⟩, h57⟩ := h57
                refine lv_istore_n (lv' := [(3, .int r58), (6, .int x52), (5, .int r13), (4, .int x4), (0, .ref (ad 31)), (1, .int a1), (2, .int a2)]) hx hb dX1_trimmed_83 rfl hl (by decide) rfl (fun ls hl => ?_)
                obtain ⟨x59, ex59⟩ : ∃ y : Int32, y = x4 + 1 := ⟨_, rfl⟩
                have tx59 : x59.toInt = x4.toInt + 1 := (jadd ex59 rfl jz_1 (by omega) (by omega)).trans (by omega)
                refine lv_iinc (v := x59) (lv' := [(4, .int x59), (3, .int r58), (6, .int x52), (5, .int r13), (0, .ref (ad 31)), (1, .int a1), (2, .int a2)]) hx hb dX1_trimmed_84 hl (k := 3) rfl (by rw [ex59]; rfl) (by decide) rfl (fun ls hl => ?_)
                refine lv_goto (tgt := 5) hx hb dX1_trimmed_87 (by decide) ?_
                exact ihlp1 r58 x59 _ _ ls (by have h91 := tx59; omega) (by have h91 := tx59; omega) (by have h91 := tx59; omega)    hP hS (lv_sub hl [0, 1, 4, 5, 6] rfl)
            · have kc54 := jnle c54 rfl rfl
              refine lv_iload hx hb dX1_trimmed_58 (lv_at hl 0 rfl) ?_
              refine lv_istore (lv' := [(5, .int x52), (6, .int x52), (4, .int x4), (3, .int x3), (0, .ref (ad 31)), (1, .int a1), (2, .int a2)]) hx hb dX1_trimmed_60 hl (by decide) rfl (fun ls hl => ?_)
              refine lv_iload_n hx hb dX1_trimmed_62 rfl (lv_at hl 3 rfl) ?_
              refine lv_iload hx hb dX1_trimmed_63 (lv_at hl 2 rfl) ?_
              refine lv_iload hx hb dX1_trimmed_65 (lv_at hl 0 rfl) ?_
              refine jcallS (As := [.int x3, .int x4, .int x52]) (rest := []) ⟨hx, hb, hml, hown, hts⟩ hK hP hA hS hZ (c_X0_withLeft l D cI cL ad zz hJ σ τ x3 (x3.toInt) rfl x4 (x4.toInt) rfl x52 (x52.toInt) rfl) cw_RX1_129 ⟨Nat.le_of_ble_eq_true rfl, Nat.le_of_ble_eq_true rfl⟩ rfl rfl rfl hl.1 rfl (Nat.le_of_ble_eq_true rfl) dX1_trimmed_67 ⟨Nat.zero_le _, Nat.zero_le _⟩ (fun r61 σ60 τ60 H locs h60 hP hS => ?_)
              obtain ⟨⟨rfl, rfl⟩, h60⟩ := h60
              refine lv_istore_n (lv' := [(3, .int r61), (5, .int x52), (6, .int x52), (4, .int x4), (0, .ref (ad 31)), (1, .int a1), (2, .int a2)]) hx hb dX1_trimmed_70 rfl hl (by decide) rfl (fun ls hl => ?_)
              refine lv_iload hx hb dX1_trimmed_71 (lv_at hl 1 rfl) ?_
              refine lv_if_ne (tgt := 84) hx hb dX1_trimmed_73 (by decide) (fun c62 => ?_) (fun c62 => ?_)
              · have kc62 := jne c62 rfl jz_0
                obtain ⟨x63, ex63⟩ : ∃ y : Int32, y = x4 + 1 := ⟨_, rfl⟩
                have tx63 : x63.toInt = x4.toInt + 1 := (jadd ex63 rfl jz_1 (by omega) (by omega)).trans (by omega)
                refine lv_iinc (v := x63) (lv' := [(4, .int x63), (3, .int r61), (5, .int x52), (6, .int x52), (0, .ref (ad 31)), (1, .int a1), (2, .int a2)]) hx hb dX1_trimmed_84 hl (k := 3) rfl (by rw [ex63]; rfl) (by decide) rfl (fun ls hl => ?_)
                refine lv_goto (tgt := 5) hx hb dX1_trimmed_87 (by decide) ?_
                exact ihlp1 r61 x63 _ _ ls (by have h91 := tx63; omega) (by have h91 := tx63; omega) (by have h91 := tx63; omega)    hP hS (lv_sub hl [0, 1, 4, 5, 6] rfl)
              · have kc62 := jeq c62 rfl jz_0
                refine lv_iload_n hx hb dX1_trimmed_76 rfl (lv_at hl 0 rfl) ?_
                refine lv_iload hx hb dX1_trimmed_77 (lv_at hl 3 rfl) ?_
                refine lv_iconst (v := 0) hx hb dX1_trimmed_79 (by decide) ?_
                refine jcallS (As := [.int r61, .int x4, .int 0]) (rest := []) ⟨hx, hb, hml, hown, hts⟩ hK hP hA hS hZ (c_X0_withSteps l D cI cL ad zz hJ σ τ r61 (r61.toInt) rfl x4 (x4.toInt) rfl 0 (0) jz_0) cw_RX1_133 ⟨Nat.le_of_ble_eq_true rfl, Nat.le_of_ble_eq_true rfl⟩ rfl rfl rfl hl.1 rfl (Nat.le_of_ble_eq_true rfl) dX1_trimmed_80 ⟨Nat.zero_le _, Nat.zero_le _⟩ (fun r65 σ64 τ64 H locs h64 hP hS => ?_)
                obtain ⟨⟨rfl, rfl⟩, h64⟩ := h64
                refine lv_istore_n (lv' := [(3, .int r65), (5, .int x52), (6, .int x52), (4, .int x4), (0, .ref (ad 31)), (1, .int a1), (2, .int a2)]) hx hb dX1_trimmed_83 rfl hl (by decide) rfl (fun ls hl => ?_)
                obtain ⟨x66, ex66⟩ : ∃ y : Int32, y = x4 + 1 := ⟨_, rfl⟩
                have tx66 : x66.toInt = x4.toInt + 1 := (jadd ex66 rfl jz_1 (by omega) (by omega)).trans (by omega)
                refine lv_iinc (v := x66) (lv' := [(4, .int x66), (3, .int r65), (5, .int x52), (6, .int x52), (0, .ref (ad 31)), (1, .int a1), (2, .int a2)]) hx hb dX1_trimmed_84 hl (k := 3) rfl (by rw [ex66]; rfl) (by decide) rfl (fun ls hl => ?_)
                refine lv_goto (tgt := 5) hx hb dX1_trimmed_87 (by decide) ?_
                exact ihlp1 r65 x66 _ _ ls (by have h91 := tx66; omega) (by have h91 := tx66; omega) (by have h91 := tx66; omega)    hP hS (lv_sub hl [0, 1, 4, 5, 6] rfl)
          · have kc53 := jne c53 rfl jz_0
            refine lv_iload_n hx hb dX1_trimmed_46 rfl (lv_at hl 6 rfl) ?_
            refine lv_iconst (v := 1) hx hb dX1_trimmed_47 (by decide) ?_
            refine lv_icmp_gt (tgt := 71) hx hb dX1_trimmed_48 (by decide) (fun c67 => ?_) (fun c67 => ?_)
            · have kc67 := jlt c67 jz_1 t2
              refine lv_iload hx hb dX1_trimmed_71 (lv_at hl 1 rfl) ?_
              refine lv_if_ne (tgt := 84) hx hb dX1_trimmed_73 (by decide) (fun c68 => ?_) (fun c68 => ?_)
              · have kc68 := jne c68 rfl jz_0
                obtain ⟨x69, ex69⟩ : ∃ y : Int32, y = x4 + 1 := ⟨_, rfl⟩
                have tx69 : x69.toInt = x4.toInt + 1 := (jadd ex69 rfl jz_1 (by omega) (by omega)).trans (by omega)
                refine lv_iinc (v := x69) (lv' := [(4, .int x69), (6, .int x52), (5, .int r13), (3, .int x3), (0, .ref (ad 31)), (1, .int a1), (2, .int a2)]) hx hb dX1_trimmed_84 hl (k := 2) rfl (by rw [ex69]; rfl) (by decide) rfl (fun ls hl => ?_)
                refine lv_goto (tgt := 5) hx hb dX1_trimmed_87 (by decide) ?_
                exact ihlp1 x3 x69 _ _ ls (by have h91 := tx69; omega) (by have h91 := tx69; omega) (by have h91 := tx69; omega)    hP hS (lv_sub hl [0, 3, 4, 5, 6] rfl)
              · have kc68 := jeq c68 rfl jz_0
                refine lv_iload_n hx hb dX1_trimmed_76 rfl (lv_at hl 3 rfl) ?_
                refine lv_iload hx hb dX1_trimmed_77 (lv_at hl 2 rfl) ?_
                refine lv_iconst (v := 0) hx hb dX1_trimmed_79 (by decide) ?_
                refine jcallS (As := [.int x3, .int x4, .int 0]) (rest := []) ⟨hx, hb, hml, hown, hts⟩ hK hP hA hS hZ (c_X0_withSteps l D cI cL ad zz hJ σ τ x3 (x3.toInt) rfl x4 (x4.toInt) rfl 0 (0) jz_0) cw_RX1_133 ⟨Nat.le_of_ble_eq_true rfl, Nat.le_of_ble_eq_true rfl⟩ rfl rfl rfl hl.1 rfl (Nat.le_of_ble_eq_true rfl) dX1_trimmed_80 ⟨Nat.zero_le _, Nat.zero_le _⟩ (fun r71 σ70 τ70 H locs h70 hP hS => ?_)
                obtain ⟨⟨rfl, rfl⟩, h70⟩ := h70
                refine lv_istore_n (lv' := [(3, .int r71), (6, .int x52), (5, .int r13), (4, .int x4), (0, .ref (ad 31)), (1, .int a1), (2, .int a2)]) hx hb dX1_trimmed_83 rfl hl (by decide) rfl (fun ls hl => ?_)
                obtain ⟨x72, ex72⟩ : ∃ y : Int32, y = x4 + 1 := ⟨_, rfl⟩
                have tx72 : x72.toInt = x4.toInt + 1 := (jadd ex72 rfl jz_1 (by omega) (by omega)).trans (by omega)
                refine lv_iinc (v := x72) (lv' := [(4, .int x72), (3, .int r71), (6, .int x52), (5, .int r13), (0, .ref (ad 31)), (1, .int a1), (2, .int a2)]) hx hb dX1_trimmed_84 hl (k := 3) rfl (by rw [ex72]; rfl) (by decide) rfl (fun ls hl => ?_)
                refine lv_goto (tgt := 5) hx hb dX1_trimmed_87 (by decide) ?_
                exact ihlp1 r71 x72 _ _ ls (by have h91 := tx72; omega) (by have h91 := tx72; omega) (by have h91 := tx72; omega)    hP hS (lv_sub hl [0, 1, 4, 5, 6] rfl)
            · have kc67 := jnlt c67 jz_1 t2
              refine lv_iload hx hb dX1_trimmed_51 (lv_at hl 1 rfl) ?_
              refine lv_iload hx hb dX1_trimmed_53 (lv_at hl 0 rfl) ?_
              refine lv_icmp_le (tgt := 71) hx hb dX1_trimmed_55 (by decide) (fun c73 => ?_) (fun c73 => ?_)
              · have kc73 := jle c73 rfl rfl
                refine lv_iload hx hb dX1_trimmed_71 (lv_at hl 1 rfl) ?_
                refine lv_if_ne (tgt := 84) hx hb dX1_trimmed_73 (by decide) (fun c74 => ?_) (fun c74 => ?_)
                · have kc74 := jne c74 rfl jz_0
                  obtain ⟨x75, ex75⟩ : ∃ y : Int32, y = x4 + 1 := ⟨_, rfl⟩
                  have tx75 : x75.toInt = x4.toInt + 1 := (jadd ex75 rfl jz_1 (by omega) (by omega)).trans (by omega)
                  refine lv_iinc (v := x75) (lv' := [(4, .int x75), (6, .int x52), (5, .int r13), (3, .int x3), (0, .ref (ad 31)), (1, .int a1), (2, .int a2)]) hx hb dX1_trimmed_84 hl (k := 2) rfl (by rw [ex75]; rfl) (by decide) rfl (fun ls hl => ?_)
                  refine lv_goto (tgt := 5) hx hb dX1_trimmed_87 (by decide) ?_
                  exact ihlp1 x3 x75 _ _ ls (by have h91 := tx75; omega) (by have h91 := tx75; omega) (by have h91 := tx75; omega)    hP hS (lv_sub hl [0, 3, 4, 5, 6] rfl)
                · have kc74 := jeq c74 rfl jz_0
                  refine lv_iload_n hx hb dX1_trimmed_76 rfl (lv_at hl 3 rfl) ?_
                  refine lv_iload hx hb dX1_trimmed_77 (lv_at hl 2 rfl) ?_
                  refine lv_iconst (v := 0) hx hb dX1_trimmed_79 (by decide) ?_
                  refine jcallS (As := [.int x3, .int x4, .int 0]) (rest := []) ⟨hx, hb, hml, hown, hts⟩ hK hP hA hS hZ (c_X0_withSteps l D cI cL ad zz hJ σ τ x3 (x3.toInt) rfl x4 (x4.toInt) rfl 0 (0) jz_0) cw_RX1_133 ⟨Nat.le_of_ble_eq_true rfl, Nat.le_of_ble_eq_true rfl⟩ rfl rfl rfl hl.1 rfl (Nat.le_of_ble_eq_true rfl) dX1_trimmed_80 ⟨Nat.zero_le _, Nat.zero_le _⟩ (fun r77 σ76 τ76 H locs h76 hP hS => ?_)
                  obtain ⟨⟨rfl, rfl⟩, h76⟩ := h76
                  refine lv_istore_n (lv' := [(3, .int r77), (6, .int x52), (5, .int r13), (4, .int x4), (0, .ref (ad 31)), (1, .int a1), (2, .int a2)]) hx hb dX1_trimmed_83 rfl hl (by decide) rfl (fun ls hl => ?_)
                  obtain ⟨x78, ex78⟩ : ∃ y : Int32, y = x4 + 1 := ⟨_, rfl⟩
                  have tx78 : x78.toInt = x4.toInt + 1 := (jadd ex78 rfl jz_1 (by omega) (by omega)).trans (by omega)
                  refine lv_iinc (v := x78) (lv' := [(4, .int x78), (3, .int r77), (6, .int x52), (5, .int r13), (0, .ref (ad 31)), (1, .int a1), (2, .int a2)]) hx hb dX1_trimmed_84 hl (k := 3) rfl (by rw [ex78]; rfl) (by decide) rfl (fun ls hl => ?_)
                  refine lv_goto (tgt := 5) hx hb dX1_trimmed_87 (by decide) ?_
                  exact ihlp1 r77 x78 _ _ ls (by have h91 := tx78; omega) (by have h91 := tx78; omega) (by have h91 := tx78; omega)    hP hS (lv_sub hl [0, 1, 4, 5, 6] rfl)
              · have kc73 := jnle c73 rfl rfl
                refine lv_iload hx hb dX1_trimmed_58 (lv_at hl 0 rfl) ?_
                refine lv_istore (lv' := [(5, .int x52), (6, .int x52), (4, .int x4), (3, .int x3), (0, .ref (ad 31)), (1, .int a1), (2, .int a2)]) hx hb dX1_trimmed_60 hl (by decide) rfl (fun ls hl => ?_)
                refine lv_iload_n hx hb dX1_trimmed_62 rfl (lv_at hl 3 rfl) ?_
                refine lv_iload hx hb dX1_trimmed_63 (lv_at hl 2 rfl) ?_
                refine lv_iload hx hb dX1_trimmed_65 (lv_at hl 0 rfl) ?_
                refine jcallS (As := [.int x3, .int x4, .int x52]) (rest := []) ⟨hx, hb, hml, hown, hts⟩ hK hP hA hS hZ (c_X0_withLeft l D cI cL ad zz hJ σ τ x3 (x3.toInt) rfl x4 (x4.toInt) rfl x52 (x52.toInt) rfl) cw_RX1_129 ⟨Nat.le_of_ble_eq_true rfl, Nat.le_of_ble_eq_true rfl⟩ rfl rfl rfl hl.1 rfl (Nat.le_of_ble_eq_true rfl) dX1_trimmed_67 ⟨Nat.zero_le _, Nat.zero_le _⟩ (fun r80 σ79 τ79 H locs h79 hP hS => ?_)
                obtain ⟨⟨rfl, rfl⟩, h79⟩ := h79
                refine lv_istore_n (lv' := [(3, .int r80), (5, .int x52), (6, .int x52), (4, .int x4), (0, .ref (ad 31)), (1, .int a1), (2, .int a2)]) hx hb dX1_trimmed_70 rfl hl (by decide) rfl (fun ls hl => ?_)
                refine lv_iload hx hb dX1_trimmed_71 (lv_at hl 1 rfl) ?_
                refine lv_if_ne (tgt := 84) hx hb dX1_trimmed_73 (by decide) (fun c81 => ?_) (fun c81 => ?_)
                · have kc81 := jne c81 rfl jz_0
                  obtain ⟨x82, ex82⟩ : ∃ y : Int32, y = x4 + 1 := ⟨_, rfl⟩
                  have tx82 : x82.toInt = x4.toInt + 1 := (jadd ex82 rfl jz_1 (by omega) (by omega)).trans (by omega)
                  refine lv_iinc (v := x82) (lv' := [(4, .int x82), (3, .int r80), (5, .int x52), (6, .int x52), (0, .ref (ad 31)), (1, .int a1), (2, .int a2)]) hx hb dX1_trimmed_84 hl (k := 3) rfl (by rw [ex82]; rfl) (by decide) rfl (fun ls hl => ?_)
                  refine lv_goto (tgt := 5) hx hb dX1_trimmed_87 (by decide) ?_
                  exact ihlp1 r80 x82 _ _ ls (by have h91 := tx82; omega) (by have h91 := tx82; omega) (by have h91 := tx82; omega)    hP hS (lv_sub hl [0, 1, 4, 5, 6] rfl)
                · have kc81 := jeq c81 rfl jz_0
                  refine lv_iload_n hx hb dX1_trimmed_76 rfl (lv_at hl 0 rfl) ?_
                  refine lv_iload hx hb dX1_trimmed_77 (lv_at hl 3 rfl) ?_
                  refine lv_iconst (v := 0) hx hb dX1_trimmed_79 (by decide) ?_
                  refine jcallS (As := [.int r80, .int x4, .int 0]) (rest := []) ⟨hx, hb, hml, hown, hts⟩ hK hP hA hS hZ (c_X0_withSteps l D cI cL ad zz hJ σ τ r80 (r80.toInt) rfl x4 (x4.toInt) rfl 0 (0) jz_0) cw_RX1_133 ⟨Nat.le_of_ble_eq_true rfl, Nat.le_of_ble_eq_true rfl⟩ rfl rfl rfl hl.1 rfl (Nat.le_of_ble_eq_true rfl) dX1_trimmed_80 ⟨Nat.zero_le _, Nat.zero_le _⟩ (fun r84 σ83 τ83 H locs h83 hP hS => ?_)
                  obtain ⟨⟨rfl, rfl⟩, h83⟩ := h83
                  refine lv_istore_n (lv' := [(3, .int r84), (5, .int x52), (6, .int x52), (4, .int x4), (0, .ref (ad 31)), (1, .int a1), (2, .int a2)]) hx hb dX1_trimmed_83 rfl hl (by decide) rfl (fun ls hl => ?_)
                  obtain ⟨x85, ex85⟩ : ∃ y : Int32, y = x4 + 1 := ⟨_, rfl⟩
                  have tx85 : x85.toInt = x4.toInt + 1 := (jadd ex85 rfl jz_1 (by omega) (by omega)).trans (by omega)
                  refine lv_iinc (v := x85) (lv' := [(4, .int x85), (3, .int r84), (5, .int x52), (6, .int x52), (0, .ref (ad 31)), (1, .int a1), (2, .int a2)]) hx hb dX1_trimmed_84 hl (k := 3) rfl (by rw [ex85]; rfl) (by decide) rfl (fun ls hl => ?_)
                  refine lv_goto (tgt := 5) hx hb dX1_trimmed_87 (by decide) ?_
                  exact ihlp1 r84 x85 _ _ ls (by have h91 := tx85; omega) (by have h91 := tx85; omega) (by have h91 := tx85; omega)    hP hS (lv_sub hl [0, 1, 4, 5, 6] rfl)
  exact lp1 1000000 a1 0 _ _ ls (by have h90 := t1; have h91 := jz_0; omega) (by have h90 := t1; have h91 := jz_0; omega) (by have h90 := t1; have h91 := jz_0; omega)   hP hS hl
set_option maxHeartbeats 4000000 in
set_option maxRecDepth 100000 in
theorem c_X1_add_31 (l : Launch) (D : va_G) (cI cL : ClassId) (ad zz : Nat → Nat) (hJ : jD ad) (σ : Nat → Nat → Int32) (τ : Nat → Nat → Int64) (a1 : Int32) (A1 : Int) (t1 : a1.toInt = A1) (a2 : Int32) (A2 : Int) (t2 : a2.toInt = A2) (hI31 : jI31 σ) : jM l yX1_add cX1_add 5 (some .int) ({ frames := 2, cells := 0, slots := 0, locals := 49 }) D cI cL ad zz [.ref (ad 31), .int a1, .int a2] σ τ (fun r σ' τ' => τ = τ' ∧ (∀ i : Nat, (i < 31 ∨ 32 < i) ∧ (i < 36 ∨ 37 < i) → σ' i = σ i) ∧ (∀ k : Nat, (k < 8 ∨ 8 < k) → σ' 31 k = σ 31 k) ∧ (jI31 σ') ∧ ((True ∧ (0 ≤ r.toInt ∧ r.toInt ≤ 350)))) := by
  refine jM.of hJ (by decide +kernel) (nt := .int) rfl (Nat.le_of_ble_eq_true rfl) ?_
  intro p e s m args below meth c Q ls hC hret hl hP
  obtain ⟨hx, hb, hr, hml, hown, hts, hK, -, hlocks, hZ⟩ := hC
  have hown : s.vm.findClass RX1 = some m.cls := hown
  have hS : va_S (jA ad) s.heap s.heap [] := va_S.rf
  have hA : ∀ q, jA ad q → jA ad q := fun _ h => h
  have hl : lv_has ls 5 [(0, .ref (ad 31)), (1, .int a1), (2, .int a2)] := hl
  have g1 := jrg t1
  have g2 := jrg t2
  obtain ⟨i1, w2, w3⟩ : (0 ≤ (σ 31 8).toInt ∧ (σ 31 8).toInt ≤ 350) ∧ (∀ k : Nat, k < 1400 → (-1) ≤ (σ 33 k).toInt ∧ (σ 33 k).toInt ≤ 350) ∧ (∀ k : Nat, k < 1024 → 0 ≤ (σ 36 k).toInt ∧ (σ 36 k).toInt ≤ 349) := id hI31
  refine lv_iload_n hx hb dX1_add_0 rfl (lv_at hl 2 rfl) ?_
  refine lv_aload_n hx hb dX1_add_1 rfl (lv_at hl 0 rfl) ?_
  refine va_get (D := D) hx hb hts inlX1 hown hK hP 31 (jc_31 cI cL ad σ τ) rfl 11 (by decide) (hts _ kw_28_7) (fun _ h9 => h9) rfl dX1_add_2 ?_
  refine lv_icmp_lt (tgt := 12) hx hb dX1_add_5 (by decide) (fun c4 => ?_) (fun c4 => ?_)
  · have kc4 := jlt c4 t2 rfl
    refine lv_aload_n hx hb dX1_add_12 rfl (lv_at hl 0 rfl) ?_
    refine lv_iload_n hx hb dX1_add_13 rfl (lv_at hl 1 rfl) ?_
    refine lv_aload_n hx hb dX1_add_14 rfl (lv_at hl 0 rfl) ?_
    refine va_get (D := D) hx hb hts inlX1 hown hK hP 31 (jc_31 cI cL ad σ τ) rfl 11 (by decide) (hts _ kw_28_7) (fun _ h9 => h9) rfl dX1_add_15 ?_
    refine lv_iload_n hx hb dX1_add_18 rfl (lv_at hl 2 rfl) ?_
    have g5 := jrg (rfl : (σ 31 11).toInt = (σ 31 11).toInt)
    refine lv_isub hx hb dX1_add_19 ?_
    refine lv_topi (fun x6 ex6 => ?_)
    have gx6 := jrg (rfl : x6.toInt = x6.toInt)
    refine jcallV (As := [.int a1, .int x6]) (rest := []) ⟨hx, hb, hml, hown, hts⟩ hK hP hA hS hZ (c_X1_trimmed_31 l D cI cL ad zz hJ σ τ a1 (A1) t1 x6 (x6.toInt) rfl) cw_RX1_71 (jc_31 cI cL ad σ τ) rfl ⟨Nat.le_of_ble_eq_true rfl, Nat.le_of_ble_eq_true rfl⟩ rfl rfl rfl hl.1 rfl (Nat.le_of_ble_eq_true rfl) dX1_add_20 ⟨Nat.zero_le _, Nat.zero_le _⟩ (fun r8 σ7 τ7 H locs h7 hP hS => ?_)
    obtain ⟨⟨rfl, rfl⟩, h7⟩ := h7
    refine lv_iload_n hx hb dX1_add_23 rfl (lv_at hl 2 rfl) ?_
    refine lv_bipush (v := 27) hx hb dX1_add_24 (by decide) ?_
    refine lv_ishl hx hb dX1_add_26 ?_
    refine lv_topi (fun x9 ex9 => ?_)
    have gx9 := jrg (rfl : x9.toInt = x9.toInt)
    refine lv_ior hx hb dX1_add_27 ?_
    refine lv_topi (fun x10 ex10 => ?_)
    have gx10 := jrg (rfl : x10.toInt = x10.toInt)
    refine lv_istore_n (lv' := [(3, .int x10), (0, .ref (ad 31)), (1, .int a1), (2, .int a2)]) hx hb dX1_add_28 rfl hl (by decide) rfl (fun ls hl => ?_)
    refine lv_aload_n hx hb dX1_add_29 rfl (lv_at hl 1 rfl) ?_
    refine lv_iload_n hx hb dX1_add_30 rfl (lv_at hl 0 rfl) ?_
    refine jcallV (As := [.int x10]) (rest := []) ⟨hx, hb, hml, hown, hts⟩ hK hP hA hS hZ (c_X1_slotFor_31 l D cI cL ad zz hJ σ τ x10 (x10.toInt) rfl hI31) cw_RX1_77 (jc_31 cI cL ad σ τ) rfl ⟨Nat.le_of_ble_eq_true rfl, Nat.le_of_ble_eq_true rfl⟩ rfl rfl rfl hl.1 rfl (Nat.le_of_ble_eq_true rfl) dX1_add_31 ⟨Nat.zero_le _, Nat.zero_le _⟩ (fun r12 σ11 τ11 H locs h11 hP hS => ?_)
    obtain ⟨⟨rfl, rfl⟩, h11⟩ := h11
    have h13 := h11
    obtain ⟨q15, k14⟩ := h13
    refine lv_istore (lv' := [(4, .int r12), (3, .int x10), (0, .ref (ad 31)), (1, .int a1), (2, .int a2)]) hx hb dX1_add_34 hl (by decide) rfl (fun ls hl => ?_)
    refine lv_iload hx hb dX1_add_36 (lv_at hl 0 rfl) ?_
    refine lv_if_ge (tgt := 45) hx hb dX1_add_38 (by decide) (fun c16 => ?_) (fun c16 => ?_)
    · have kc16 := jle c16 jz_0 rfl
      refine lv_aload_n hx hb dX1_add_45 rfl (lv_at hl 2 rfl) ?_
      refine lv_iload hx hb dX1_add_46 (lv_at hl 0 rfl) ?_
      refine jcallV (As := [.int r12]) (rest := []) ⟨hx, hb, hml, hown, hts⟩ hK hP hA hS hZ (c_X1_isTaken_31 l D cI cL ad zz hJ σ τ r12 (r12.toInt) rfl hI31 (by omega)) cw_RX1_81 (jc_31 cI cL ad σ τ) rfl ⟨Nat.le_of_ble_eq_true rfl, Nat.le_of_ble_eq_true rfl⟩ rfl rfl rfl hl.1 rfl (Nat.le_of_ble_eq_true rfl) dX1_add_48 ⟨Nat.zero_le _, Nat.zero_le _⟩ (fun r18 σ17 τ17 H locs h17 hP hS => ?_)
      obtain ⟨⟨rfl, rfl⟩, h17⟩ := h17
      rcases h17 with h19 | h20
      · obtain ⟨q22, k21⟩ := h19
        have q22 := q22.symm
        subst q22
        refine lv_if_eq (tgt := 62) hx hb dX1_add_51 (by decide) (fun c => absurd c (by decide)) (fun _ => ?_)
        refine lv_aload_n hx hb dX1_add_54 rfl (lv_at hl 2 rfl) ?_
        refine va_get (D := D) hx hb hts inlX1 hown hK hP 31 (jc_31 cI cL ad σ τ) rfl 6 (by decide) (hts _ kw_5_7) (fun _ h9 => h9) rfl dX1_add_55 ?_
        refine lv_iload hx hb dX1_add_58 (lv_at hl 0 rfl) ?_
        refine jald hx hb hK hP (jc_36 cI cL ad σ τ) (jin rfl (by omega) (by omega)) dX1_add_60 ?_
        have g23 := w3 _ (jnat (x := r12) rfl (n := 1024) (by omega) (by decide))
        refine lv_topi (fun x24 ex24 => ?_)
        rw [← ex24] at g23
        exact hret x24 σ τ _ _ _ _ rfl ⟨rfl, (fun _ _ => rfl), (fun _ _ => rfl), hI31, ⟨trivial, (by omega)⟩⟩ hP hS dX1_add_61
      · obtain ⟨q26, k25⟩ := h20
        have q26 := q26.symm
        subst q26
        refine lv_if_eq (tgt := 62) hx hb dX1_add_51 (by decide) (fun _ => ?_) (fun c => absurd (by decide) c)
        refine lv_aload_n hx hb dX1_add_62 rfl (lv_at hl 2 rfl) ?_
        refine va_get (D := D) hx hb hts inlX1 hown hK hP 31 (jc_31 cI cL ad σ τ) rfl 8 (by decide) (hts _ kw_27_22) (fun _ h9 => h9) rfl dX1_add_63 ?_
        refine lv_sipush (v := 350) hx hb dX1_add_66 (by decide) ?_
        refine lv_icmp_lt (tgt := 76) hx hb dX1_add_69 (by decide) (fun c27 => ?_) (fun c27 => ?_)
        · have kc27 := jlt c27 rfl jz_350
          refine lv_aload_n hx hb dX1_add_76 rfl (lv_at hl 2 rfl) ?_
          refine va_get (D := D) hx hb hts inlX1 hown hK hP 31 (jc_31 cI cL ad σ τ) rfl 2 (by decide) (hts _ kw_5_3) (fun _ h9 => h9) rfl dX1_add_77 ?_
          refine lv_aload_n hx hb dX1_add_80 rfl (lv_at hl 2 rfl) ?_
          refine va_get (D := D) hx hb hts inlX1 hown hK hP 31 (jc_31 cI cL ad σ τ) rfl 8 (by decide) (hts _ kw_27_22) (fun _ h9 => h9) rfl dX1_add_81 ?_
          refine lv_iload_n hx hb dX1_add_84 rfl (lv_at hl 1 rfl) ?_
          refine jast hx hb hK hP hJ hA hS (jc_32 cI cL ad σ τ) (ja_32 cI cL ad σ τ _ _) (jin rfl (by omega) (by omega)) dX1_add_85 (fun σ28 H locs eσ28 hP hS => ?_)
          refine lv_aload_n hx hb dX1_add_86 rfl (lv_at hl 2 rfl) ?_
          refine va_get (D := D) hx hb hts inlX1 hown hK hP 31 (jc_31 cI cL ad σ28 τ) rfl 7 (by decide) (hts _ kw_5_8) (fun _ h9 => h9) rfl dX1_add_87 ?_
          refine lv_aload_n hx hb dX1_add_90 rfl (lv_at hl 2 rfl) ?_
          refine va_get (D := D) hx hb hts inlX1 hown hK hP 31 (jc_31 cI cL ad σ28 τ) rfl 8 (by decide) (hts _ kw_27_22) (fun _ h9 => h9) rfl dX1_add_91 ?_
          have m29 : σ28 31 8 = (σ 31 8) := (congrFun (jnp 31 eσ28 (by decide)) 8)
          refine jtopr m29 ?_
          refine lv_iload hx hb dX1_add_94 (lv_at hl 0 rfl) ?_
          refine jast hx hb hK hP hJ hA hS (jc_37 cI cL ad σ28 τ) (ja_37 cI cL ad σ28 τ _ _) (jin rfl (by omega) (by omega)) dX1_add_96 (fun σ30 H locs eσ30 hP hS => ?_)
          refine lv_aload_n hx hb dX1_add_97 rfl (lv_at hl 2 rfl) ?_
          refine va_get (D := D) hx hb hts inlX1 hown hK hP 31 (jc_31 cI cL ad σ30 τ) rfl 6 (by decide) (hts _ kw_5_7) (fun _ h9 => h9) rfl dX1_add_98 ?_
          refine lv_iload hx hb dX1_add_101 (lv_at hl 0 rfl) ?_
          refine lv_aload_n hx hb dX1_add_103 rfl (lv_at hl 2 rfl) ?_
          refine va_get (D := D) hx hb hts inlX1 hown hK hP 31 (jc_31 cI cL ad σ30 τ) rfl 8 (by decide) (hts _ kw_27_22) (fun _ h9 => h9) rfl dX1_add_104 ?_
          have m31 : σ30 31 8 = (σ 31 8) := ((congrFun (jnp 31 eσ30 (by decide)) 8).trans m29)
          refine jtopr m31 ?_
          refine jast hx hb hK hP hJ hA hS (jc_36 cI cL ad σ30 τ) (ja_36 cI cL ad σ30 τ _ _) (jin rfl (by omega) (by omega)) dX1_add_107 (fun σ32 H locs eσ32 hP hS => ?_)
          refine lv_aload_n hx hb dX1_add_108 rfl (lv_at hl 2 rfl) ?_
          refine lv_dup hx hb dX1_add_109 rfl ?_
          refine va_get (D := D) hx hb hts inlX1 hown hK hP 31 (jc_31 cI cL ad σ32 τ) rfl 8 (by decide) (hts _ kw_27_22) (fun _ h9 => h9) rfl dX1_add_110 ?_
          have m33 : σ32 31 8 = (σ 31 8) := ((congrFun (jnp 31 eσ32 (by decide)) 8).trans m31)
          refine jtopr m33 ?_
          refine lv_dup_x1 hx hb dX1_add_113 rfl rfl ?_
          refine lv_iconst (v := 1) hx hb dX1_add_114 (by decide) ?_
          have g34 := jrg (rfl : (σ 31 8).toInt = (σ 31 8).toInt)
          refine lv_iadd hx hb dX1_add_115 ?_
          refine lv_topi (fun x35 ex35 => ?_)
          have tx35 : x35.toInt = (σ 31 8).toInt + 1 := (jadd ex35 rfl jz_1 (by omega) (by omega)).trans (by omega)
          refine jput (ty := .int) hx hb hts inlX1 tyX1 tyX1_ok nmX1 hown hK hP hJ hA hS (jc_31 cI cL ad σ32 τ) rfl (k := 8) (by decide) (Nat.le_of_ble_eq_true rfl) (jp_31_8 cI cL ad σ32 τ x35) (hts _ kw_27_22) (fun _ h9 => h9) rfl (by decide +kernel) rfl rfl dX1_add_116 (fun σ36 H locs eσ36 hP hS => ?_)
          have z37 : (σ36 31 8).toInt = (σ 31 8).toInt + 1 := ((congrArg Int32.toInt (show σ36 31 8 = x35 from (jsp eσ36))).trans tx35)
          have w38 : ∀ k : Nat, k < 1400 → (-1) ≤ (σ36 33 k).toInt ∧ (σ36 33 k).toInt ≤ 350 := (jrr_fr (jnp 33 eσ36 (by decide)) (jrr_fr (jnp 33 eσ32 (by decide)) (jrr_fr (jnp 33 eσ30 (by decide)) (jrr_fr (jnp 33 eσ28 (by decide)) w2))))
          have w39 : ∀ k : Nat, k < 1024 → 0 ≤ (σ36 36 k).toInt ∧ (σ36 36 k).toInt ≤ 349 := (jrr_fr (jnp 36 eσ36 (by decide)) (by rw [eσ32]; exact jrr_up (jrr_fr (jnp 36 eσ30 (by decide)) (jrr_fr (jnp 36 eσ28 (by decide)) w3)) (by omega) (by omega)))
          have I40 : jI31 σ36 := ⟨(by omega), w38, w39⟩
          exact hret (σ 31 8) σ36 τ _ _ _ _ rfl ⟨rfl, (fun i hi => ((jnp i eσ36 (imp_81 i hi)).trans ((jnp i eσ32 (imp_82 i hi)).trans ((jnp i eσ30 (imp_83 i hi)).trans (jnp i eσ28 (imp_84 i hi)))))), (fun i hi => ((jkp i eσ36 (imp_85 i hi)).trans ((congrFun (jnp 31 eσ32 (by decide)) i).trans ((congrFun (jnp 31 eσ30 (by decide)) i).trans (congrFun (jnp 31 eσ28 (by decide)) i))))), I40, ⟨trivial, (by omega)⟩⟩ hP hS dX1_add_119
        · have kc27 := jnlt c27 rfl jz_350
          refine lv_sipush (v := 350) hx hb dX1_add_72 (by decide) ?_
          exact hret 350 σ τ _ _ _ _ rfl ⟨rfl, (fun _ _ => rfl), (fun _ _ => rfl), hI31, ⟨trivial, (by have h9 := jz_350; omega)⟩⟩ hP hS dX1_add_75
    · have kc16 := jnle c16 jz_0 rfl
      refine lv_sipush (v := 350) hx hb dX1_add_41 (by decide) ?_
      exact hret 350 σ τ _ _ _ _ rfl ⟨rfl, (fun _ _ => rfl), (fun _ _ => rfl), hI31, ⟨trivial, (by have h9 := jz_350; omega)⟩⟩ hP hS dX1_add_44
  · have kc4 := jnlt c4 t2 rfl
    refine lv_sipush (v := 350) hx hb dX1_add_8 (by decide) ?_
    exact hret 350 σ τ _ _ _ _ rfl ⟨rfl, (fun _ _ => rfl), (fun _ _ => rfl), hI31, ⟨trivial, (by have h9 := jz_350; omega)⟩⟩ hP hS dX1_add_11
set_option maxHeartbeats 4000000 in
set_option maxRecDepth 100000 in
theorem c_X1_nodeOf_31 (l : Launch) (D : va_G) (cI cL : ClassId) (ad zz : Nat → Nat) (hJ : jD ad) (σ : Nat → Nat → Int32) (τ : Nat → Nat → Int64) (a1 : Int32) (A1 : Int) (t1 : a1.toInt = A1) (a2 : Int32) (A2 : Int) (t2 : a2.toInt = A2) (hI31 : jI31 σ) : jM l yX1_nodeOf cX1_nodeOf 5 (some .int) ({ frames := 2, cells := 0, slots := 0, locals := 49 }) D cI cL ad zz [.ref (ad 31), .int a1, .int a2] σ τ (fun r σ' τ' => (σ = σ' ∧ τ = τ') ∧ ((True ∧ ((-1) ≤ r.toInt ∧ r.toInt ≤ 349)))) := by
  refine jM.of hJ (by decide +kernel) (nt := .int) rfl (Nat.le_of_ble_eq_true rfl) ?_
  intro p e s m args below meth c Q ls hC hret hl hP
  obtain ⟨hx, hb, hr, hml, hown, hts, hK, -, hlocks, hZ⟩ := hC
  have hown : s.vm.findClass RX1 = some m.cls := hown
  have hS : va_S (jA ad) s.heap s.heap [] := va_S.rf
  have hA : ∀ q, jA ad q → jA ad q := fun _ h => h
  have hl : lv_has ls 5 [(0, .ref (ad 31)), (1, .int a1), (2, .int a2)] := hl
  have g1 := jrg t1
  have g2 := jrg t2
  obtain ⟨i1, w2, w3⟩ : (0 ≤ (σ 31 8).toInt ∧ (σ 31 8).toInt ≤ 350) ∧ (∀ k : Nat, k < 1400 → (-1) ≤ (σ 33 k).toInt ∧ (σ 33 k).toInt ≤ 350) ∧ (∀ k : Nat, k < 1024 → 0 ≤ (σ 36 k).toInt ∧ (σ 36 k).toInt ≤ 349) := id hI31
  refine lv_iload_n hx hb dX1_nodeOf_0 rfl (lv_at hl 2 rfl) ?_
  refine lv_aload_n hx hb dX1_nodeOf_1 rfl (lv_at hl 0 rfl) ?_
  refine va_get (D := D) hx hb hts inlX1 hown hK hP 31 (jc_31 cI cL ad σ τ) rfl 10 (by decide) (hts _ kw_28_9) (fun _ h9 => h9) rfl dX1_nodeOf_2 ?_
  have g4 := jrg (rfl : (σ 31 10).toInt = (σ 31 10).toInt)
  refine lv_isub hx hb dX1_nodeOf_5 ?_
  refine lv_topi (fun x5 ex5 => ?_)
  have gx5 := jrg (rfl : x5.toInt = x5.toInt)
  refine lv_istore_n (lv' := [(3, .int x5), (0, .ref (ad 31)), (1, .int a1), (2, .int a2)]) hx hb dX1_nodeOf_6 rfl hl (by decide) rfl (fun ls hl => ?_)
  refine lv_iload_n hx hb dX1_nodeOf_7 rfl (lv_at hl 0 rfl) ?_
  refine lv_if_lt (tgt := 19) hx hb dX1_nodeOf_8 (by decide) (fun c6 => ?_) (fun c6 => ?_)
  · have kc6 := jlt c6 rfl jz_0
    refine lv_iconst (v := (-1)) hx hb dX1_nodeOf_19 (by decide) ?_
    exact hret (-1) σ τ _ _ _ _ rfl ⟨⟨rfl, rfl⟩, ⟨trivial, (by have h9 := jz_m1; omega)⟩⟩ hP hS dX1_nodeOf_20
  · have kc6 := jnlt c6 rfl jz_0
    refine lv_iload_n hx hb dX1_nodeOf_11 rfl (lv_at hl 0 rfl) ?_
    refine lv_aload_n hx hb dX1_nodeOf_12 rfl (lv_at hl 1 rfl) ?_
    refine va_get (D := D) hx hb hts inlX1 hown hK hP 31 (jc_31 cI cL ad σ τ) rfl 11 (by decide) (hts _ kw_28_7) (fun _ h9 => h9) rfl dX1_nodeOf_13 ?_
    refine lv_icmp_lt (tgt := 21) hx hb dX1_nodeOf_16 (by decide) (fun c7 => ?_) (fun c7 => ?_)
    · have kc7 := jlt c7 rfl rfl
      refine lv_aload_n hx hb dX1_nodeOf_21 rfl (lv_at hl 1 rfl) ?_
      refine lv_aload_n hx hb dX1_nodeOf_22 rfl (lv_at hl 1 rfl) ?_
      refine lv_iload_n hx hb dX1_nodeOf_23 rfl (lv_at hl 2 rfl) ?_
      refine lv_aload_n hx hb dX1_nodeOf_24 rfl (lv_at hl 1 rfl) ?_
      refine va_get (D := D) hx hb hts inlX1 hown hK hP 31 (jc_31 cI cL ad σ τ) rfl 11 (by decide) (hts _ kw_28_7) (fun _ h9 => h9) rfl dX1_nodeOf_25 ?_
      refine lv_iload_n hx hb dX1_nodeOf_28 rfl (lv_at hl 0 rfl) ?_
      have g8 := jrg (rfl : (σ 31 11).toInt = (σ 31 11).toInt)
      have g9 := jrg (rfl : x5.toInt = x5.toInt)
      refine lv_isub hx hb dX1_nodeOf_29 ?_
      refine lv_topi (fun x10 ex10 => ?_)
      have tx10 : x10.toInt = (σ 31 11).toInt - x5.toInt := (jsub ex10 rfl rfl (by omega) (by omega)).trans (by omega)
      refine jcallV (As := [.int a1, .int x10]) (rest := [.ref (ad 31)]) ⟨hx, hb, hml, hown, hts⟩ hK hP hA hS hZ (c_X1_trimmed_31 l D cI cL ad zz hJ σ τ a1 (A1) t1 x10 ((σ 31 11).toInt - x5.toInt) tx10) cw_RX1_71 (jc_31 cI cL ad σ τ) rfl ⟨Nat.le_of_ble_eq_true rfl, Nat.le_of_ble_eq_true rfl⟩ rfl rfl rfl hl.1 rfl (Nat.le_of_ble_eq_true rfl) dX1_nodeOf_30 ⟨Nat.zero_le _, Nat.zero_le _⟩ (fun r12 σ11 τ11 H locs h11 hP hS => ?_)
      obtain ⟨⟨rfl, rfl⟩, h11⟩ := h11
      refine lv_iload_n hx hb dX1_nodeOf_33 rfl (lv_at hl 0 rfl) ?_
      refine lv_bipush (v := 27) hx hb dX1_nodeOf_34 (by decide) ?_
      refine lv_ishl hx hb dX1_nodeOf_36 ?_
      refine lv_topi (fun x13 ex13 => ?_)
      have gx13 := jrg (rfl : x13.toInt = x13.toInt)
      refine lv_ior hx hb dX1_nodeOf_37 ?_
      refine lv_topi (fun x14 ex14 => ?_)
      have gx14 := jrg (rfl : x14.toInt = x14.toInt)
      refine jcallV (As := [.int x14]) (rest := []) ⟨hx, hb, hml, hown, hts⟩ hK hP hA hS hZ (c_X1_slotFor_31 l D cI cL ad zz hJ σ τ x14 (x14.toInt) rfl hI31) cw_RX1_77 (jc_31 cI cL ad σ τ) rfl ⟨Nat.le_of_ble_eq_true rfl, Nat.le_of_ble_eq_true rfl⟩ rfl rfl rfl hl.1 rfl (Nat.le_of_ble_eq_true rfl) dX1_nodeOf_38 ⟨Nat.zero_le _, Nat.zero_le _⟩ (fun r16 σ15 τ15 H locs h15 hP hS => ?_)
      obtain ⟨⟨rfl, rfl⟩, h15⟩ := h15
      have h17 := h15
      obtain ⟨q19, k18⟩ := h17
      refine lv_istore (lv' := [(4, .int r16), (3, .int x5), (0, .ref (ad 31)), (1, .int a1), (2, .int a2)]) hx hb dX1_nodeOf_41 hl (by decide) rfl (fun ls hl => ?_)
      refine lv_iload hx hb dX1_nodeOf_43 (lv_at hl 0 rfl) ?_
      refine lv_if_lt (tgt := 57) hx hb dX1_nodeOf_45 (by decide) (fun c20 => ?_) (fun c20 => ?_)
      · have kc20 := jlt c20 rfl jz_0
        refine lv_iconst (v := (-1)) hx hb dX1_nodeOf_57 (by decide) ?_
        refine lv_goto (tgt := 68) hx hb dX1_nodeOf_58 (by decide) ?_
        exact hret (-1) σ τ _ _ _ _ rfl ⟨⟨rfl, rfl⟩, ⟨trivial, (by have h9 := jz_m1; omega)⟩⟩ hP hS dX1_nodeOf_68
      · have kc20 := jnlt c20 rfl jz_0
        refine lv_aload_n hx hb dX1_nodeOf_48 rfl (lv_at hl 2 rfl) ?_
        refine lv_iload hx hb dX1_nodeOf_49 (lv_at hl 0 rfl) ?_
        refine jcallV (As := [.int r16]) (rest := []) ⟨hx, hb, hml, hown, hts⟩ hK hP hA hS hZ (c_X1_isTaken_31 l D cI cL ad zz hJ σ τ r16 (r16.toInt) rfl hI31 (by omega)) cw_RX1_81 (jc_31 cI cL ad σ τ) rfl ⟨Nat.le_of_ble_eq_true rfl, Nat.le_of_ble_eq_true rfl⟩ rfl rfl rfl hl.1 rfl (Nat.le_of_ble_eq_true rfl) dX1_nodeOf_51 ⟨Nat.zero_le _, Nat.zero_le _⟩ (fun r22 σ21 τ21 H locs h21 hP hS => ?_)
        obtain ⟨⟨rfl, rfl⟩, h21⟩ := h21
        rcases h21 with h23 | h24
        · obtain ⟨q26, k25⟩ := h23
          have q26 := q26.symm
          subst q26
          refine lv_if_ne (tgt := 61) hx hb dX1_nodeOf_54 (by decide) (fun _ => ?_) (fun c => absurd c (by decide))
          refine lv_aload_n hx hb dX1_nodeOf_61 rfl (lv_at hl 2 rfl) ?_
          refine va_get (D := D) hx hb hts inlX1 hown hK hP 31 (jc_31 cI cL ad σ τ) rfl 6 (by decide) (hts _ kw_5_7) (fun _ h9 => h9) rfl dX1_nodeOf_62 ?_
          refine lv_iload hx hb dX1_nodeOf_65 (lv_at hl 0 rfl) ?_
          refine jald hx hb hK hP (jc_36 cI cL ad σ τ) (jin rfl (by omega) (by omega)) dX1_nodeOf_67 ?_
          have g27 := w3 _ (jnat (x := r16) rfl (n := 1024) (by omega) (by decide))
          refine lv_topi (fun x28 ex28 => ?_)
          rw [← ex28] at g27
          exact hret x28 σ τ _ _ _ _ rfl ⟨⟨rfl, rfl⟩, ⟨trivial, (by omega)⟩⟩ hP hS dX1_nodeOf_68
        · obtain ⟨q30, k29⟩ := h24
          have q30 := q30.symm
          subst q30
          refine lv_if_ne (tgt := 61) hx hb dX1_nodeOf_54 (by decide) (fun c => absurd (by decide) c) (fun _ => ?_)
          refine lv_iconst (v := (-1)) hx hb dX1_nodeOf_57 (by decide) ?_
          refine lv_goto (tgt := 68) hx hb dX1_nodeOf_58 (by decide) ?_
          exact hret (-1) σ τ _ _ _ _ rfl ⟨⟨rfl, rfl⟩, ⟨trivial, (by have h9 := jz_m1; omega)⟩⟩ hP hS dX1_nodeOf_68
    · have kc7 := jnlt c7 rfl rfl
      refine lv_iconst (v := (-1)) hx hb dX1_nodeOf_19 (by decide) ?_
      exact hret (-1) σ τ _ _ _ _ rfl ⟨⟨rfl, rfl⟩, ⟨trivial, (by have h9 := jz_m1; omega)⟩⟩ hP hS dX1_nodeOf_20
set_option maxHeartbeats 4000000 in
set_option maxRecDepth 100000 in
theorem c_X10_uses_22b (l : Launch) (D : va_G) (cI cL : ClassId) (ad zz : Nat → Nat) (hJ : jD ad) (σ : Nat → Nat → Int32) (τ : Nat → Nat → Int64) (a1 : Int32) (A1 : Int) (t1 : a1.toInt = A1) : jM l yX10_uses cX10_uses 2 (some .boolean) ({ frames := 0, cells := 0, slots := 0, locals := 0 }) D cI cL ad zz [.ref (ad 22), .int a1] σ τ (fun r σ' τ' => (σ = σ' ∧ τ = τ') ∧ ((r = 1 ∧ True) ∨ (r = 0 ∧ True))) := by
  refine jM.of hJ (by decide +kernel) (nt := .boolean) rfl (Nat.le_of_ble_eq_true rfl) ?_
  intro p e s m args below meth c Q ls hC hret hl hP
  obtain ⟨hx, hb, hr, hml, hown, hts, hK, -, hlocks, hZ⟩ := hC
  have hown : s.vm.findClass RX10 = some m.cls := hown
  have hS : va_S (jA ad) s.heap s.heap [] := va_S.rf
  have hA : ∀ q, jA ad q → jA ad q := fun _ h => h
  have hl : lv_has ls 2 [(0, .ref (ad 22)), (1, .int a1)] := hl
  have g1 := jrg t1
  refine lv_aload_n hx hb dX10_uses_0 rfl (lv_at hl 0 rfl) ?_
  refine va_get (D := D) hx hb hts inlX10 hown hK hP 22 (jc_22 cI cL ad σ τ) rfl 1 (by decide) (hts _ kw_16_21) (fun _ h9 => h9) rfl dX10_uses_1 ?_
  refine lv_iload_n hx hb dX10_uses_4 rfl (lv_at hl 1 rfl) ?_
  refine lv_ishr hx hb dX10_uses_5 ?_
  refine lv_topi (fun x1 ex1 => ?_)
  have gx1 := jrg (rfl : x1.toInt = x1.toInt)
  refine lv_iconst (v := 1) hx hb dX10_uses_6 (by decide) ?_
  refine lv_iand hx hb dX10_uses_7 ?_
  refine lv_topi (fun x2 ex2 => ?_)
  have gx2 := jrg (rfl : x2.toInt = x2.toInt)
  have g3 : 0 ≤ x2.toInt ∧ x2.toInt ≤ 1 := jmask ex2 1 (by decide) (by decide)
  refine lv_if_eq (tgt := 15) hx hb dX10_uses_8 (by decide) (fun c4 => ?_) (fun c4 => ?_)
  · have kc4 := jeq c4 rfl jz_0
    refine lv_iconst (v := 0) hx hb dX10_uses_15 (by decide) ?_
    exact hret 0 σ τ _ _ _ _ rfl ⟨⟨rfl, rfl⟩, Or.inr (⟨rfl, trivial⟩)⟩ hP hS dX10_uses_16
  · have kc4 := jne c4 rfl jz_0
    refine lv_iconst (v := 1) hx hb dX10_uses_11 (by decide) ?_
    refine lv_goto (tgt := 16) hx hb dX10_uses_12 (by decide) ?_
    exact hret 1 σ τ _ _ _ _ rfl ⟨⟨rfl, rfl⟩, Or.inl ⟨rfl, trivial⟩⟩ hP hS dX10_uses_16
set_option maxHeartbeats 4000000 in
set_option maxRecDepth 100000 in
theorem c_X1_grow_31 (l : Launch) (D : va_G) (cI cL : ClassId) (ad zz : Nat → Nat) (hJ : jD ad) (σ : Nat → Nat → Int32) (τ : Nat → Nat → Int64) (a1 : Int32) (A1 : Int) (t1 : a1.toInt = A1) (a2 : Int32) (A2 : Int) (t2 : a2.toInt = A2) (hI31 : jI31 σ) : jMv l yX1_grow cX1_grow 9 none ({ frames := 3, cells := 0, slots := 0, locals := 73 }) D cI cL ad zz [.ref (ad 31), .int a1, .int a2] σ τ (fun σ' τ' => τ = τ' ∧ (∀ i : Nat, (i < 31 ∨ 33 < i) ∧ (i < 36 ∨ 37 < i) → σ' i = σ i) ∧ (∀ k : Nat, (k < 8 ∨ 8 < k) ∧ (k < 9 ∨ 9 < k) ∧ (k < 10 ∨ 10 < k) ∧ (k < 11 ∨ 11 < k) ∧ (k < 12 ∨ 12 < k) → σ' 31 k = σ 31 k) ∧ (jI31 σ') ∧ True) := by
  refine jMv.of hJ (by decide +kernel) rfl (Nat.le_of_ble_eq_true rfl) ?_
  intro p e s m args below meth c Q ls hC hret hl hP
  obtain ⟨hx, hb, hr, hml, hown, hts, hK, -, hlocks, hZ⟩ := hC
  have hown : s.vm.findClass RX1 = some m.cls := hown
  have hS : va_S (jA ad) s.heap s.heap [] := va_S.rf
  have hA : ∀ q, jA ad q → jA ad q := fun _ h => h
  have hl : lv_has ls 9 [(0, .ref (ad 31)), (1, .int a1), (2, .int a2)] := hl
  have g1 := jrg t1
  have g2 := jrg t2
  obtain ⟨i1, w2, w3⟩ : (0 ≤ (σ 31 8).toInt ∧ (σ 31 8).toInt ≤ 350) ∧ (∀ k : Nat, k < 1400 → (-1) ≤ (σ 33 k).toInt ∧ (σ 33 k).toInt ≤ 350) ∧ (∀ k : Nat, k < 1024 → 0 ≤ (σ 36 k).toInt ∧ (σ 36 k).toInt ≤ 349) := id hI31
  refine lv_iconst (v := 0) hx hb dX1_grow_0 (by decide) ?_
  refine lv_bipush (v := 8) hx hb dX1_grow_1 (by decide) ?_
  refine lv_aload_n hx hb dX1_grow_3 rfl (lv_at hl 0 rfl) ?_
  refine va_get (D := D) hx hb hts inlX1 hown hK hP 31 (jc_31 cI cL ad σ τ) rfl 1 (by decide) (hts _ kw_5_11) (fun _ h9 => h9) rfl dX1_grow_4 ?_
  refine va_get (D := D) hx hb hts inlX6 hown hK hP 16 (jc_16 cI cL ad σ τ) rfl 1 (by decide) (hts _ kw_28_3) (fun _ h9 => h9) rfl dX1_grow_7 ?_
  refine lv_iload_n hx hb dX1_grow_10 rfl (lv_at hl 2 rfl) ?_
  have g4 := jrg (rfl : (σ 16 1).toInt = (σ 16 1).toInt)
  refine lv_isub hx hb dX1_grow_11 ?_
  refine lv_topi (fun x5 ex5 => ?_)
  have gx5 := jrg (rfl : x5.toInt = x5.toInt)
  refine va_mmin hx hb (hml.trans hl.1.symm) hown (hts _ kw_28_4) (hts _ kw_22_11) (hts _ kw_21_1) (hts _ kw_22_12) (Nat.le_of_ble_eq_true rfl) (Nat.le_of_ble_eq_true rfl) (Nat.le_of_ble_eq_true rfl) (Nat.le_of_ble_eq_true rfl) dX1_grow_12 ?_
  refine lv_topi (fun x6 ex6 => ?_)
  have g7 := jmin ex6 jz_8 rfl
  refine va_mmax hx hb (hml.trans hl.1.symm) hown (hts _ kw_28_5) (hts _ kw_21_0) (hts _ kw_21_1) (hts _ kw_21_2) (Nat.le_of_ble_eq_true rfl) (Nat.le_of_ble_eq_true rfl) (Nat.le_of_ble_eq_true rfl) (Nat.le_of_ble_eq_true rfl) dX1_grow_15 ?_
  refine lv_topi (fun x8 ex8 => ?_)
  have g9 := jmax ex8 jz_0 rfl
  refine lv_istore_n (lv' := [(3, .int x8), (0, .ref (ad 31)), (1, .int a1), (2, .int a2)]) hx hb dX1_grow_18 rfl hl (by decide) rfl (fun ls hl => ?_)
  refine lv_aload_n hx hb dX1_grow_19 rfl (lv_at hl 1 rfl) ?_
  refine va_get (D := D) hx hb hts inlX1 hown hK hP 31 (jc_31 cI cL ad σ τ) rfl 0 (by decide) (hts _ kw_5_10) (fun _ h9 => h9) rfl dX1_grow_20 ?_
  refine va_get (D := D) hx hb hts inlX5 hown hK hP 26 (jc_26 cI cL ad σ τ) rfl 0 (by decide) (hts _ kw_28_6) (fun _ h9 => h9) rfl dX1_grow_23 ?_
  refine lv_iconst (v := 5) hx hb dX1_grow_26 (by decide) ?_
  refine jcallV (As := [.int 5]) (rest := []) ⟨hx, hb, hml, hown, hts⟩ hK hP hA hS hZ (c_X10_uses_22b l D cI cL ad zz hJ σ τ 5 (5) jz_5) cw_RX1_104 (jc_22 cI cL ad σ τ) rfl ⟨Nat.le_of_ble_eq_true rfl, Nat.le_of_ble_eq_true rfl⟩ rfl rfl rfl hl.1 rfl (Nat.le_of_ble_eq_true rfl) dX1_grow_27 ⟨Nat.zero_le _, Nat.zero_le _⟩ (fun r11 σ10 τ10 H locs h10 hP hS => ?_)
  obtain ⟨⟨rfl, rfl⟩, h10⟩ := h10
  rcases h10 with h12 | h13
  · obtain ⟨q15, k14⟩ := h12
    have q15 := q15.symm
    subst q15
    refine lv_istore (lv' := [(4, .int 1), (3, .int x8), (0, .ref (ad 31)), (1, .int a1), (2, .int a2)]) hx hb dX1_grow_30 hl (by decide) rfl (fun ls hl => ?_)
    refine lv_aload_n hx hb dX1_grow_32 rfl (lv_at hl 2 rfl) ?_
    refine va_get (D := D) hx hb hts inlX1 hown hK hP 31 (jc_31 cI cL ad σ τ) rfl 9 (by decide) (hts _ kw_5_9) (fun _ h9 => h9) rfl dX1_grow_33 ?_
    refine lv_iload_n hx hb dX1_grow_36 rfl (lv_at hl 3 rfl) ?_
    refine lv_icmp_ne (tgt := 63) hx hb dX1_grow_37 (by decide) (fun c16 => ?_) (fun c16 => ?_)
    · have kc16 := jne c16 rfl t1
      refine lv_aload_n hx hb dX1_grow_63 rfl (lv_at hl 2 rfl) ?_
      refine lv_iload_n hx hb dX1_grow_64 rfl (lv_at hl 3 rfl) ?_
      refine jput (ty := .int) hx hb hts inlX1 tyX1 tyX1_ok nmX1 hown hK hP hJ hA hS (jc_31 cI cL ad σ τ) rfl (k := 9) (by decide) (Nat.le_of_ble_eq_true rfl) (jp_31_9 cI cL ad σ τ a1) (hts _ kw_5_9) (fun _ h9 => h9) rfl (by decide +kernel) rfl rfl dX1_grow_65 (fun σ17 H locs eσ17 hP hS => ?_)
      refine lv_aload_n hx hb dX1_grow_68 rfl (lv_at hl 2 rfl) ?_
      refine lv_iload_n hx hb dX1_grow_69 rfl (lv_at hl 4 rfl) ?_
      refine jput (ty := .int) hx hb hts inlX1 tyX1 tyX1_ok nmX1 hown hK hP hJ hA hS (jc_31 cI cL ad σ17 τ) rfl (k := 10) (by decide) (Nat.le_of_ble_eq_true rfl) (jp_31_10 cI cL ad σ17 τ a2) (hts _ kw_28_9) (fun _ h9 => h9) rfl (by decide +kernel) rfl rfl dX1_grow_70 (fun σ18 H locs eσ18 hP hS => ?_)
      refine lv_aload_n hx hb dX1_grow_73 rfl (lv_at hl 2 rfl) ?_
      refine lv_iload_n hx hb dX1_grow_74 rfl (lv_at hl 1 rfl) ?_
      refine jput (ty := .int) hx hb hts inlX1 tyX1 tyX1_ok nmX1 hown hK hP hJ hA hS (jc_31 cI cL ad σ18 τ) rfl (k := 11) (by decide) (Nat.le_of_ble_eq_true rfl) (jp_31_11 cI cL ad σ18 τ x8) (hts _ kw_28_7) (fun _ h9 => h9) rfl (by decide +kernel) rfl rfl dX1_grow_75 (fun σ19 H locs eσ19 hP hS => ?_)
      refine lv_aload_n hx hb dX1_grow_78 rfl (lv_at hl 2 rfl) ?_
      refine lv_iload hx hb dX1_grow_79 (lv_at hl 0 rfl) ?_
      refine jput (ty := .boolean) hx hb hts inlX1 tyX1 tyX1_ok nmX1 hown hK hP hJ hA hS (jc_31 cI cL ad σ19 τ) rfl (k := 12) (by decide) (Nat.le_of_ble_eq_true rfl) (jp_31_12 cI cL ad σ19 τ 1) (hts _ kw_28_8) (fun _ h9 => h9) rfl (by decide +kernel) rfl rfl dX1_grow_81 (fun σ20 H locs eσ20 hP hS => ?_)
      refine lv_aload_n hx hb dX1_grow_84 rfl (lv_at hl 2 rfl) ?_
      refine lv_iconst (v := 0) hx hb dX1_grow_85 (by decide) ?_
      refine jput (ty := .int) hx hb hts inlX1 tyX1 tyX1_ok nmX1 hown hK hP hJ hA hS (jc_31 cI cL ad σ20 τ) rfl (k := 8) (by decide) (Nat.le_of_ble_eq_true rfl) (jp_31_8 cI cL ad σ20 τ 0) (hts _ kw_27_22) (fun _ h9 => h9) rfl (by decide +kernel) rfl rfl dX1_grow_86 (fun σ21 H locs eσ21 hP hS => ?_)
      refine lv_aload_n hx hb dX1_grow_89 rfl (lv_at hl 2 rfl) ?_
      refine lv_iload_n hx hb dX1_grow_90 rfl (lv_at hl 3 rfl) ?_
      refine lv_iconst (v := 0) hx hb dX1_grow_91 (by decide) ?_
      have z22 : (σ21 31 8).toInt = 0 := ((congrArg Int32.toInt (show σ21 31 8 = 0 from (jsp eσ21))).trans jz_0)
      have w23 : ∀ k : Nat, k < 1400 → (-1) ≤ (σ21 33 k).toInt ∧ (σ21 33 k).toInt ≤ 350 := (jrr_fr (jnp 33 eσ21 (by decide)) (jrr_fr (jnp 33 eσ20 (by decide)) (jrr_fr (jnp 33 eσ19 (by decide)) (jrr_fr (jnp 33 eσ18 (by decide)) (jrr_fr (jnp 33 eσ17 (by decide)) w2)))))
      have w24 : ∀ k : Nat, k < 1024 → 0 ≤ (σ21 36 k).toInt ∧ (σ21 36 k).toInt ≤ 349 := (jrr_fr (jnp 36 eσ21 (by decide)) (jrr_fr (jnp 36 eσ20 (by decide)) (jrr_fr (jnp 36 eσ19 (by decide)) (jrr_fr (jnp 36 eσ18 (by decide)) (jrr_fr (jnp 36 eσ17 (by decide)) w3)))))
      have I25 : jI31 σ21 := ⟨(by omega), w23, w24⟩
      refine jcallV (As := [.int a1, .int 0]) (rest := []) ⟨hx, hb, hml, hown, hts⟩ hK hP hA hS hZ (c_X1_add_31 l D cI cL ad zz hJ σ21 τ a1 (A1) t1 0 (0) jz_0 I25) cw_RX1_111 (jc_31 cI cL ad σ21 τ) rfl ⟨Nat.le_of_ble_eq_true rfl, Nat.le_of_ble_eq_true rfl⟩ rfl rfl rfl hl.1 rfl (Nat.le_of_ble_eq_true rfl) dX1_grow_92 ⟨Nat.zero_le _, Nat.zero_le _⟩ (fun r27 σ26 τ26 H locs h26 hP hS => ?_)
      obtain ⟨rfl, f28, f29, I30, h26⟩ := h26
      obtain ⟨i31, w32, w33⟩ : (0 ≤ (σ26 31 8).toInt ∧ (σ26 31 8).toInt ≤ 350) ∧ (∀ k : Nat, k < 1400 → (-1) ≤ (σ26 33 k).toInt ∧ (σ26 33 k).toInt ≤ 350) ∧ (∀ k : Nat, k < 1024 → 0 ≤ (σ26 36 k).toInt ∧ (σ26 36 k).toInt ≤ 349) := id I30
      have h34 := h26
      obtain ⟨q36, k35⟩ := h34
      refine lv_pop hx hb dX1_grow_95 rfl ?_
      refine lv_iconst (v := 0) hx hb dX1_grow_96 (by decide) ?_
      refine lv_istore (lv' := [(5, .int 0), (4, .int 1), (3, .int x8), (0, .ref (ad 31)), (1, .int a1), (2, .int a2)]) hx hb dX1_grow_97 hl (by decide) rfl (fun ls hl => ?_)
      have lp37 : ∀ (n38 : Nat) (x39 : Int32) (σ43 : Nat → Nat → Int32) (H : Heap) (locs : List Loc) (ls : Array Slot), (-x39.toInt + 350 : Int) < n38 → 0 ≤ x39.toInt → x39.toInt ≤ 350 → (∀ i : Nat, (i < 31 ∨ 33 < i) ∧ (i < 36 ∨ 37 < i) → σ43 i = σ26 i) → (∀ k : Nat, (k < 8 ∨ 8 < k) → σ43 31 k = σ26 31 k) → jI31 σ43 → jH D cI cL ad σ43 τ H → va_S (jA ad) s.heap H locs → lv_has ls 9 [(5, .int x39), (4, .int 1), (3, .int x8), (0, .ref (ad 31)), (1, .int a1), (2, .int a2)] → W p l e ({ frames := 3, cells := 0, slots := 0, locals := 73 }) s m args below meth c H locs 0 0 Q (F0 m 99 ls []) := by
        intro n38
        induction n38 with
        | zero => intro x39 σ43 H locs ls h44 h45 h46; exact absurd h44 (by omega)
        | succ n38 ihlp37 =>
          intro x39 σ43 H locs ls h44 h45 h46 f47 f48 p49 hP hS hl
          obtain ⟨i50, w51, w52⟩ : (0 ≤ (σ43 31 8).toInt ∧ (σ43 31 8).toInt ≤ 350) ∧ (∀ k : Nat, k < 1400 → (-1) ≤ (σ43 33 k).toInt ∧ (σ43 33 k).toInt ≤ 350) ∧ (∀ k : Nat, k < 1024 → 0 ≤ (σ43 36 k).toInt ∧ (σ43 36 k).toInt ≤ 349) := id p49
          refine lv_iload hx hb dX1_grow_99 (lv_at hl 0 rfl) ?_
          refine lv_aload_n hx hb dX1_grow_101 rfl (lv_at hl 3 rfl) ?_
          refine va_get (D := D) hx hb hts inlX1 hown hK hP 31 (jc_31 cI cL ad σ43 τ) rfl 8 (by decide) (hts _ kw_27_22) (fun _ h9 => h9) rfl dX1_grow_102 ?_
          refine lv_icmp_ge (tgt := 202) hx hb dX1_grow_105 (by decide) (fun c53 => ?_) (fun c53 => ?_)
          · have kc53 := jle c53 rfl rfl
            exact hret σ43 τ _ _ _ _ ⟨rfl, (fun i hi => ((f47 i hi).trans ((f28 i (imp_86 i hi)).trans ((jnp i eσ21 (imp_87 i hi)).trans ((jnp i eσ20 (imp_87 i hi)).trans ((jnp i eσ19 (imp_87 i hi)).trans ((jnp i eσ18 (imp_87 i hi)).trans (jnp i eσ17 (imp_87 i hi))))))))), (fun i hi => ((f48 i (imp_88 i hi)).trans ((f29 i (imp_88 i hi)).trans ((jkp i eσ21 (imp_89 i hi)).trans ((jkp i eσ20 (imp_90 i hi)).trans ((jkp i eσ19 (imp_91 i hi)).trans ((jkp i eσ18 (imp_92 i hi)).trans (jkp i eσ17 (imp_93 i hi))))))))), p49, trivial⟩ hP hS dX1_grow_202
          · have kc53 := jnle c53 rfl rfl
            refine lv_iload hx hb dX1_grow_108 (lv_at hl 0 rfl) ?_
            refine lv_sipush (v := 350) hx hb dX1_grow_110 (by decide) ?_
            refine lv_icmp_ge (tgt := 202) hx hb dX1_grow_113 (by decide) (fun c => absurd (jle c jz_350 rfl) (by omega)) (fun c54 => ?_)
            have kc54 := jnle c54 jz_350 rfl
            refine lv_aload_n hx hb dX1_grow_116 rfl (lv_at hl 3 rfl) ?_
            refine va_get (D := D) hx hb hts inlX1 hown hK hP 31 (jc_31 cI cL ad σ43 τ) rfl 2 (by decide) (hts _ kw_5_3) (fun _ h9 => h9) rfl dX1_grow_117 ?_
            refine lv_iload hx hb dX1_grow_120 (lv_at hl 0 rfl) ?_
            refine jald hx hb hK hP (jc_32 cI cL ad σ43 τ) (jin rfl (by omega) (by omega)) dX1_grow_122 ?_
            refine lv_topi (fun x55 ex55 => ?_)
            refine lv_ldc (v := 134217727) hx hb hown (hts _ kw_28_10) dX1_grow_123 ?_
            refine lv_iand hx hb dX1_grow_125 ?_
            refine lv_topi (fun x56 ex56 => ?_)
            have gx56 := jrg (rfl : x56.toInt = x56.toInt)
            have g57 : 0 ≤ x56.toInt ∧ x56.toInt ≤ 134217727 := jmask ex56 27 (by decide) (by decide)
            refine lv_istore (lv' := [(6, .int x56), (5, .int x39), (4, .int 1), (3, .int x8), (0, .ref (ad 31)), (1, .int a1), (2, .int a2)]) hx hb dX1_grow_126 hl (by decide) rfl (fun ls hl => ?_)
            refine lv_aload_n hx hb dX1_grow_128 rfl (lv_at hl 4 rfl) ?_
            refine va_get (D := D) hx hb hts inlX1 hown hK hP 31 (jc_31 cI cL ad σ43 τ) rfl 2 (by decide) (hts _ kw_5_3) (fun _ h9 => h9) rfl dX1_grow_129 ?_
            refine lv_iload hx hb dX1_grow_132 (lv_at hl 1 rfl) ?_
            refine jald hx hb hK hP (jc_32 cI cL ad σ43 τ) (jin rfl (by omega) (by omega)) dX1_grow_134 ?_
            refine lv_topi (fun x58 ex58 => ?_)
            refine lv_bipush (v := 27) hx hb dX1_grow_135 (by decide) ?_
            refine lv_ishr hx hb dX1_grow_137 ?_
            refine lv_topi (fun x59 ex59 => ?_)
            have gx59 := jrg (rfl : x59.toInt = x59.toInt)
            refine lv_istore (lv' := [(7, .int x59), (6, .int x56), (5, .int x39), (4, .int 1), (3, .int x8), (0, .ref (ad 31)), (1, .int a1), (2, .int a2)]) hx hb dX1_grow_138 hl (by decide) rfl (fun ls hl => ?_)
            refine lv_iconst (v := 0) hx hb dX1_grow_140 (by decide) ?_
            refine lv_istore (lv' := [(8, .int 0), (7, .int x59), (6, .int x56), (5, .int x39), (4, .int 1), (3, .int x8), (0, .ref (ad 31)), (1, .int a1), (2, .int a2)]) hx hb dX1_grow_141 hl (by decide) rfl (fun ls hl => ?_)
            have lp60 : ∀ (n61 : Nat) (x62 : Int32) (σ63 : Nat → Nat → Int32) (H : Heap) (locs : List Loc) (ls : Array Slot), (-x62.toInt + 4 : Int) < n61 → 0 ≤ x62.toInt → x62.toInt ≤ 4 → (∀ i : Nat, (i < 31 ∨ 33 < i) ∧ (i < 36 ∨ 37 < i) → σ63 i = σ43 i) → (∀ k : Nat, (k < 8 ∨ 8 < k) → σ63 31 k = σ43 31 k) → jI31 σ63 → jH D cI cL ad σ63 τ H → va_S (jA ad) s.heap H locs → lv_has ls 9 [(8, .int x62), (7, .int x59), (6, .int x56), (5, .int x39), (4, .int 1), (3, .int x8), (0, .ref (ad 31)), (1, .int a1), (2, .int a2)] → W p l e ({ frames := 3, cells := 0, slots := 0, locals := 73 }) s m args below meth c H locs 0 0 Q (F0 m 143 ls []) := by
              intro n61
              induction n61 with
              | zero => intro x62 σ63 H locs ls h64 h65 h66; exact absurd h64 (by omega)
              | succ n61 ihlp60 =>
                intro x62 σ63 H locs ls h64 h65 h66 f67 f68 p69 hP hS hl
                obtain ⟨i70, w71, w72⟩ : (0 ≤ (σ63 31 8).toInt ∧ (σ63 31 8).toInt ≤ 350) ∧ (∀ k : Nat, k < 1400 → (-1) ≤ (σ63 33 k).toInt ∧ (σ63 33 k).toInt ≤ 350) ∧ (∀ k : Nat, k < 1024 → 0 ≤ (σ63 36 k).toInt ∧ (σ63 36 k).toInt ≤ 349) := id p69
                refine lv_iload hx hb dX1_grow_143 (lv_at hl 0 rfl) ?_
                refine lv_iconst (v := 4) hx hb dX1_grow_145 (by decide) ?_
                refine lv_icmp_ge (tgt := 196) hx hb dX1_grow_146 (by decide) (fun c73 => ?_) (fun c73 => ?_)
                · have kc73 := jle c73 jz_4 rfl
                  obtain ⟨x74, ex74⟩ : ∃ y : Int32, y = x39 + 1 := ⟨_, rfl⟩
                  have tx74 : x74.toInt = x39.toInt + 1 := (jadd ex74 rfl jz_1 (by omega) (by omega)).trans (by omega)
                  refine lv_iinc (v := x74) (lv' := [(5, .int x74), (8, .int x62), (7, .int x59), (6, .int x56), (4, .int 1), (3, .int x8), (0, .ref (ad 31)), (1, .int a1), (2, .int a2)]) hx hb dX1_grow_196 hl (k := 3) rfl (by rw [ex74]; rfl) (by decide) rfl (fun ls hl => ?_)
                  refine lv_goto (tgt := 99) hx hb dX1_grow_199 (by decide) ?_
                  exact ihlp37 x74 σ63 _ _ ls (by have h90 := tx74; omega) (by have h90 := tx74; omega) (by have h90 := tx74; omega) (fun i hi => ((f67 i hi).trans (f47 i hi))) (fun i hi => ((f68 i hi).trans (f48 i hi)))  p69 hP hS (lv_sub hl [0, 4, 5, 6, 7, 8] rfl)
                · have kc73 := jnle c73 jz_4 rfl
                  refine lv_aload_n hx hb dX1_grow_149 rfl (lv_at hl 6 rfl) ?_
                  refine va_get (D := D) hx hb hts inlX1 hown hK hP 31 (jc_31 cI cL ad σ63 τ) rfl 3 (by decide) (hts _ kw_5_4) (fun _ h9 => h9) rfl dX1_grow_150 ?_
                  refine lv_iload hx hb dX1_grow_153 (lv_at hl 3 rfl) ?_
                  refine lv_iconst (v := 4) hx hb dX1_grow_155 (by decide) ?_
                  have g75 := jrg (rfl : x39.toInt = x39.toInt)
                  refine lv_imul hx hb dX1_grow_156 ?_
                  refine lv_topi (fun x76 ex76 => ?_)
                  have tx76 : x76.toInt = 4 * x39.toInt := (jmul ex76 rfl jz_4 (by omega) (by omega)).trans (by omega)
                  refine lv_iload hx hb dX1_grow_157 (lv_at hl 0 rfl) ?_
                  have g77 := jrg (rfl : x62.toInt = x62.toInt)
                  refine lv_iadd hx hb dX1_grow_159 ?_
                  refine lv_topi (fun x78 ex78 => ?_)
                  have tx78 : x78.toInt = 4 * x39.toInt + x62.toInt := (jadd ex78 tx76 rfl (by omega) (by omega)).trans (by omega)
                  refine lv_iload hx hb dX1_grow_160 (lv_at hl 2 rfl) ?_
                  refine lv_iload hx hb dX1_grow_162 (lv_at hl 0 rfl) ?_
                  refine jcallS (As := [.int x56, .int x62]) (rest := [.int x78, .ref (ad 33)]) ⟨hx, hb, hml, hown, hts⟩ hK hP hA hS hZ (c_X0_mayBowl l D cI cL ad zz hJ σ63 τ x56 (x56.toInt) rfl x62 (x62.toInt) rfl) cw_RX1_115 ⟨Nat.le_of_ble_eq_true rfl, Nat.le_of_ble_eq_true rfl⟩ rfl rfl rfl hl.1 rfl (Nat.le_of_ble_eq_true rfl) dX1_grow_164 ⟨Nat.zero_le _, Nat.zero_le _⟩ (fun r80 σ79 τ79 H locs h79 hP hS => ?_)
                  obtain ⟨⟨rfl, rfl⟩, h79⟩ := h79
                  refine lv_if_eq (tgt := 188) hx hb dX1_grow_167 (by decide) (fun c81 => ?_) (fun c81 => ?_)
                  · have kc81 := jeq c81 rfl jz_0
                    refine lv_iconst (v := (-1)) hx hb dX1_grow_188 (by decide) ?_
                    refine jast hx hb hK hP hJ hA hS (jc_33 cI cL ad σ63 τ) (ja_33 cI cL ad σ63 τ _ _) (jin tx78 (by omega) (by omega)) dX1_grow_189 (fun σ82 H locs eσ82 hP hS => ?_)
                    obtain ⟨x83, ex83⟩ : ∃ y : Int32, y = x62 + 1 := ⟨_, rfl⟩
                    have tx83 : x83.toInt = x62.toInt + 1 := (jadd ex83 rfl jz_1 (by omega) (by omega)).trans (by omega)
                    refine lv_iinc (v := x83) (lv' := [(8, .int x83), (7, .int x59), (6, .int x56), (5, .int x39), (4, .int 1), (3, .int x8), (0, .ref (ad 31)), (1, .int a1), (2, .int a2)]) hx hb dX1_grow_190 hl (k := 0) rfl (by rw [ex83]; rfl) (by decide) rfl (fun ls hl => ?_)
                    refine lv_goto (tgt := 143) hx hb dX1_grow_193 (by decide) ?_
                    have z84 : (σ82 31 8).toInt = (σ63 31 8).toInt := (congrArg Int32.toInt (show σ82 31 8 = (σ63 31 8) from (congrFun (jnp 31 eσ82 (by decide)) 8)))
                    have w85 : ∀ k : Nat, k < 1400 → (-1) ≤ (σ82 33 k).toInt ∧ (σ82 33 k).toInt ≤ 350 := (by rw [eσ82]; exact jrr_up w71 (by have h9 := jz_m1; omega) (by have h9 := jz_m1; omega))
                    have w86 : ∀ k : Nat, k < 1024 → 0 ≤ (σ82 36 k).toInt ∧ (σ82 36 k).toInt ≤ 349 := (jrr_fr (jnp 36 eσ82 (by decide)) w72)
                    have I87 : jI31 σ82 := ⟨(by omega), w85, w86⟩
                    exact ihlp60 x83 σ82 _ _ ls (by have h90 := tx83; omega) (by have h90 := tx83; omega) (by have h90 := tx83; omega) (fun i hi => ((jnp i eσ82 (imp_94 i hi)).trans (f67 i hi))) (fun i hi => ((congrFun (jnp 31 eσ82 (by decide)) i).trans (f68 i hi)))  I87 hP hS (lv_sub hl [0, 1, 2, 3, 4, 5, 6, 7, 8] rfl)
                  · have kc81 := jne c81 rfl jz_0
                    refine lv_aload_n hx hb dX1_grow_170 rfl (lv_at hl 6 rfl) ?_
                    refine lv_iload hx hb dX1_grow_171 (lv_at hl 2 rfl) ?_
                    refine lv_iload hx hb dX1_grow_173 (lv_at hl 0 rfl) ?_
                    refine jcallS (As := [.int x56, .int x62]) (rest := [.ref (ad 31), .int x78, .ref (ad 33)]) ⟨hx, hb, hml, hown, hts⟩ hK hP hA hS hZ (c_X0_after l D cI cL ad zz hJ σ63 τ x56 (x56.toInt) rfl x62 (x62.toInt) rfl) cw_RX1_119 ⟨Nat.le_of_ble_eq_true rfl, Nat.le_of_ble_eq_true rfl⟩ rfl rfl rfl hl.1 rfl (Nat.le_of_ble_eq_true rfl) dX1_grow_175 ⟨Nat.zero_le _, Nat.zero_le _⟩ (fun r89 σ88 τ88 H locs h88 hP hS => ?_)
                    obtain ⟨⟨rfl, rfl⟩, h88⟩ := h88
                    refine lv_iload hx hb dX1_grow_178 (lv_at hl 1 rfl) ?_
                    refine lv_iconst (v := 1) hx hb dX1_grow_180 (by decide) ?_
                    have g90 := jrg (rfl : x59.toInt = x59.toInt)
                    refine lv_iadd hx hb dX1_grow_181 ?_
                    refine lv_topi (fun x91 ex91 => ?_)
                    have gx91 := jrg (rfl : x91.toInt = x91.toInt)
                    refine jcallV (As := [.int r89, .int x91]) (rest := [.int x78, .ref (ad 33)]) ⟨hx, hb, hml, hown, hts⟩ hK hP hA hS hZ (c_X1_add_31 l D cI cL ad zz hJ σ63 τ r89 (r89.toInt) rfl x91 (x91.toInt) rfl p69) cw_RX1_111 (jc_31 cI cL ad σ63 τ) rfl ⟨Nat.le_of_ble_eq_true rfl, Nat.le_of_ble_eq_true rfl⟩ rfl rfl rfl hl.1 rfl (Nat.le_of_ble_eq_true rfl) dX1_grow_182 ⟨Nat.zero_le _, Nat.zero_le _⟩ (fun r93 σ92 τ92 H locs h92 hP hS => ?_)
                    obtain ⟨rfl, f94, f95, I96, h92⟩ := h92
                    obtain ⟨i97, w98, w99⟩ : (0 ≤ (σ92 31 8).toInt ∧ (σ92 31 8).toInt ≤ 350) ∧ (∀ k : Nat, k < 1400 → (-1) ≤ (σ92 33 k).toInt ∧ (σ92 33 k).toInt ≤ 350) ∧ (∀ k : Nat, k < 1024 → 0 ≤ (σ92 36 k).toInt ∧ (σ92 36 k).toInt ≤ 349) := id I96
                    have h100 := h92
                    obtain ⟨q102, k101⟩ := h100
                    refine lv_goto (tgt := 189) hx hb dX1_grow_185 (by decide) ?_
                    refine jast hx hb hK hP hJ hA hS (jc_33 cI cL ad σ92 τ) (ja_33 cI cL ad σ92 τ _ _) (jin tx78 (by omega) (by omega)) dX1_grow_189 (fun σ103 H locs eσ103 hP hS => ?_)
                    obtain ⟨x104, ex104⟩ : ∃ y : Int32, y = x62 + 1 := ⟨_, rfl⟩
                    have tx104 : x104.toInt = x62.toInt + 1 := (jadd ex104 rfl jz_1 (by omega) (by omega)).trans (by omega)
                    refine lv_iinc (v := x104) (lv' := [(8, .int x104), (7, .int x59), (6, .int x56), (5, .int x39), (4, .int 1), (3, .int x8), (0, .ref (ad 31)), (1, .int a1), (2, .int a2)]) hx hb dX1_grow_190 hl (k := 0) rfl (by rw [ex104]; rfl) (by decide) rfl (fun ls hl => ?_)
                    refine lv_goto (tgt := 143) hx hb dX1_grow_193 (by decide) ?_
                    have z105 : (σ103 31 8).toInt = (σ92 31 8).toInt := (congrArg Int32.toInt (show σ103 31 8 = (σ92 31 8) from (congrFun (jnp 31 eσ103 (by decide)) 8)))
                    have w106 : ∀ k : Nat, k < 1400 → (-1) ≤ (σ103 33 k).toInt ∧ (σ103 33 k).toInt ≤ 350 := (by rw [eσ103]; exact jrr_up w98 (by omega) (by omega))
                    have w107 : ∀ k : Nat, k < 1024 → 0 ≤ (σ103 36 k).toInt ∧ (σ103 36 k).toInt ≤ 349 := (jrr_fr (jnp 36 eσ103 (by decide)) w99)
                    have I108 : jI31 σ103 := ⟨(by omega), w106, w107⟩
                    exact ihlp60 x104 σ103 _ _ ls (by have h90 := tx104; omega) (by have h90 := tx104; omega) (by have h90 := tx104; omega) (fun i hi => ((jnp i eσ103 (imp_94 i hi)).trans ((f94 i (imp_86 i hi)).trans (f67 i hi)))) (fun i hi => ((congrFun (jnp 31 eσ103 (by decide)) i).trans ((f95 i hi).trans (f68 i hi))))  I108 hP hS (lv_sub hl [0, 1, 2, 3, 4, 5, 6, 7, 8] rfl)
            exact lp60 1000000 0 σ43 _ _ ls (by have h90 := jz_0; omega) (by have h90 := jz_0; omega) (by have h90 := jz_0; omega) (fun _ _ => rfl) (fun _ _ => rfl)  p49 hP hS hl
      exact lp37 1000000 0 σ26 _ _ ls (by have h90 := jz_0; omega) (by have h90 := jz_0; omega) (by have h90 := jz_0; omega) (fun _ _ => rfl) (fun _ _ => rfl)  I30 hP hS hl
    · have kc16 := jeq c16 rfl t1
      refine lv_aload_n hx hb dX1_grow_40 rfl (lv_at hl 2 rfl) ?_
      refine va_get (D := D) hx hb hts inlX1 hown hK hP 31 (jc_31 cI cL ad σ τ) rfl 11 (by decide) (hts _ kw_28_7) (fun _ h9 => h9) rfl dX1_grow_41 ?_
      refine lv_iload_n hx hb dX1_grow_44 rfl (lv_at hl 1 rfl) ?_
      refine lv_icmp_ne (tgt := 63) hx hb dX1_grow_45 (by decide) (fun c109 => ?_) (fun c109 => ?_)
      · have kc109 := jne c109 rfl rfl
        refine lv_aload_n hx hb dX1_grow_63 rfl (lv_at hl 2 rfl) ?_
        refine lv_iload_n hx hb dX1_grow_64 rfl (lv_at hl 3 rfl) ?_
        refine jput (ty := .int) hx hb hts inlX1 tyX1 tyX1_ok nmX1 hown hK hP hJ hA hS (jc_31 cI cL ad σ τ) rfl (k := 9) (by decide) (Nat.le_of_ble_eq_true rfl) (jp_31_9 cI cL ad σ τ a1) (hts _ kw_5_9) (fun _ h9 => h9) rfl (by decide +kernel) rfl rfl dX1_grow_65 (fun σ110 H locs eσ110 hP hS => ?_)
        refine lv_aload_n hx hb dX1_grow_68 rfl (lv_at hl 2 rfl) ?_
        refine lv_iload_n hx hb dX1_grow_69 rfl (lv_at hl 4 rfl) ?_
        refine jput (ty := .int) hx hb hts inlX1 tyX1 tyX1_ok nmX1 hown hK hP hJ hA hS (jc_31 cI cL ad σ110 τ) rfl (k := 10) (by decide) (Nat.le_of_ble_eq_true rfl) (jp_31_10 cI cL ad σ110 τ a2) (hts _ kw_28_9) (fun _ h9 => h9) rfl (by decide +kernel) rfl rfl dX1_grow_70 (fun σ111 H locs eσ111 hP hS => ?_)
        refine lv_aload_n hx hb dX1_grow_73 rfl (lv_at hl 2 rfl) ?_
        refine lv_iload_n hx hb dX1_grow_74 rfl (lv_at hl 1 rfl) ?_
        refine jput (ty := .int) hx hb hts inlX1 tyX1 tyX1_ok nmX1 hown hK hP hJ hA hS (jc_31 cI cL ad σ111 τ) rfl (k := 11) (by decide) (Nat.le_of_ble_eq_true rfl) (jp_31_11 cI cL ad σ111 τ x8) (hts _ kw_28_7) (fun _ h9 => h9) rfl (by decide +kernel) rfl rfl dX1_grow_75 (fun σ112 H locs eσ112 hP hS => ?_)
        refine lv_aload_n hx hb dX1_grow_78 rfl (lv_at hl 2 rfl) ?_
        refine lv_iload hx hb dX1_grow_79 (lv_at hl 0 rfl) ?_
        refine jput (ty := .boolean) hx hb hts inlX1 tyX1 tyX1_ok nmX1 hown hK hP hJ hA hS (jc_31 cI cL ad σ112 τ) rfl (k := 12) (by decide) (Nat.le_of_ble_eq_true rfl) (jp_31_12 cI cL ad σ112 τ 1) (hts _ kw_28_8) (fun _ h9 => h9) rfl (by decide +kernel) rfl rfl dX1_grow_81 (fun σ113 H locs eσ113 hP hS => ?_)
        refine lv_aload_n hx hb dX1_grow_84 rfl (lv_at hl 2 rfl) ?_
        refine lv_iconst (v := 0) hx hb dX1_grow_85 (by decide) ?_
        refine jput (ty := .int) hx hb hts inlX1 tyX1 tyX1_ok nmX1 hown hK hP hJ hA hS (jc_31 cI cL ad σ113 τ) rfl (k := 8) (by decide) (Nat.le_of_ble_eq_true rfl) (jp_31_8 cI cL ad σ113 τ 0) (hts _ kw_27_22) (fun _ h9 => h9) rfl (by decide +kernel) rfl rfl dX1_grow_86 (fun σ114 H locs eσ114 hP hS => ?_)
        refine lv_aload_n hx hb dX1_grow_89 rfl (lv_at hl 2 rfl) ?_
        refine lv_iload_n hx hb dX1_grow_90 rfl (lv_at hl 3 rfl) ?_
        refine lv_iconst (v := 0) hx hb dX1_grow_91 (by decide) ?_
        have z115 : (σ114 31 8).toInt = 0 := ((congrArg Int32.toInt (show σ114 31 8 = 0 from (jsp eσ114))).trans jz_0)
        have w116 : ∀ k : Nat, k < 1400 → (-1) ≤ (σ114 33 k).toInt ∧ (σ114 33 k).toInt ≤ 350 := (jrr_fr (jnp 33 eσ114 (by decide)) (jrr_fr (jnp 33 eσ113 (by decide)) (jrr_fr (jnp 33 eσ112 (by decide)) (jrr_fr (jnp 33 eσ111 (by decide)) (jrr_fr (jnp 33 eσ110 (by decide)) w2)))))
        have w117 : ∀ k : Nat, k < 1024 → 0 ≤ (σ114 36 k).toInt ∧ (σ114 36 k).toInt ≤ 349 := (jrr_fr (jnp 36 eσ114 (by decide)) (jrr_fr (jnp 36 eσ113 (by decide)) (jrr_fr (jnp 36 eσ112 (by decide)) (jrr_fr (jnp 36 eσ111 (by decide)) (jrr_fr (jnp 36 eσ110 (by decide)) w3)))))
        have I118 : jI31 σ114 := ⟨(by omega), w116, w117⟩
        refine jcallV (As := [.int a1, .int 0]) (rest := []) ⟨hx, hb, hml, hown, hts⟩ hK hP hA hS hZ (c_X1_add_31 l D cI cL ad zz hJ σ114 τ a1 (A1) t1 0 (0) jz_0 I118) cw_RX1_111 (jc_31 cI cL ad σ114 τ) rfl ⟨Nat.le_of_ble_eq_true rfl, Nat.le_of_ble_eq_true rfl⟩ rfl rfl rfl hl.1 rfl (Nat.le_of_ble_eq_true rfl) dX1_grow_92 ⟨Nat.zero_le _, Nat.zero_le _⟩ (fun r120 σ119 τ119 H locs h119 hP hS => ?_)
        obtain ⟨rfl, f121, f122, I123, h119⟩ := h119
        obtain ⟨i124, w125, w126⟩ : (0 ≤ (σ119 31 8).toInt ∧ (σ119 31 8).toInt ≤ 350) ∧ (∀ k : Nat, k < 1400 → (-1) ≤ (σ119 33 k).toInt ∧ (σ119 33 k).toInt ≤ 350) ∧ (∀ k : Nat, k < 1024 → 0 ≤ (σ119 36 k).toInt ∧ (σ119 36 k).toInt ≤ 349) := id I123
        have h127 := h119
        obtain ⟨q129, k128⟩ := h127
        refine lv_pop hx hb dX1_grow_95 rfl ?_
        refine lv_iconst (v := 0) hx hb dX1_grow_96 (by decide) ?_
        refine lv_istore (lv' := [(5, .int 0), (4, .int 1), (3, .int x8), (0, .ref (ad 31)), (1, .int a1), (2, .int a2)]) hx hb dX1_grow_97 hl (by decide) rfl (fun ls hl => ?_)
        have lp130 : ∀ (n131 : Nat) (x132 : Int32) (σ136 : Nat → Nat → Int32) (H : Heap) (locs : List Loc) (ls : Array Slot), (-x132.toInt + 350 : Int) < n131 → 0 ≤ x132.toInt → x132.toInt ≤ 350 → (∀ i : Nat, (i < 31 ∨ 33 < i) ∧ (i < 36 ∨ 37 < i) → σ136 i = σ119 i) → (∀ k : Nat, (k < 8 ∨ 8 < k) → σ136 31 k = σ119 31 k) → jI31 σ136 → jH D cI cL ad σ136 τ H → va_S (jA ad) s.heap H locs → lv_has ls 9 [(5, .int x132), (4, .int 1), (3, .int x8), (0, .ref (ad 31)), (1, .int a1), (2, .int a2)] → W p l e ({ frames := 3, cells := 0, slots := 0, locals := 73 }) s m args below meth c H locs 0 0 Q (F0 m 99 ls []) := by
          intro n131
          induction n131 with
          | zero => intro x132 σ136 H locs ls h137 h138 h139; exact absurd h137 (by omega)
          | succ n131 ihlp130 =>
            intro x132 σ136 H locs ls h137 h138 h139 f140 f141 p142 hP hS hl
            obtain ⟨i143, w144, w145⟩ : (0 ≤ (σ136 31 8).toInt ∧ (σ136 31 8).toInt ≤ 350) ∧ (∀ k : Nat, k < 1400 → (-1) ≤ (σ136 33 k).toInt ∧ (σ136 33 k).toInt ≤ 350) ∧ (∀ k : Nat, k < 1024 → 0 ≤ (σ136 36 k).toInt ∧ (σ136 36 k).toInt ≤ 349) := id p142
            refine lv_iload hx hb dX1_grow_99 (lv_at hl 0 rfl) ?_
            refine lv_aload_n hx hb dX1_grow_101 rfl (lv_at hl 3 rfl) ?_
            refine va_get (D := D) hx hb hts inlX1 hown hK hP 31 (jc_31 cI cL ad σ136 τ) rfl 8 (by decide) (hts _ kw_27_22) (fun _ h9 => h9) rfl dX1_grow_102 ?_
            refine lv_icmp_ge (tgt := 202) hx hb dX1_grow_105 (by decide) (fun c146 => ?_) (fun c146 => ?_)
            · have kc146 := jle c146 rfl rfl
              exact hret σ136 τ _ _ _ _ ⟨rfl, (fun i hi => ((f140 i hi).trans ((f121 i (imp_86 i hi)).trans ((jnp i eσ114 (imp_87 i hi)).trans ((jnp i eσ113 (imp_87 i hi)).trans ((jnp i eσ112 (imp_87 i hi)).trans ((jnp i eσ111 (imp_87 i hi)).trans (jnp i eσ110 (imp_87 i hi))))))))), (fun i hi => ((f141 i (imp_88 i hi)).trans ((f122 i (imp_88 i hi)).trans ((jkp i eσ114 (imp_89 i hi)).trans ((jkp i eσ113 (imp_90 i hi)).trans ((jkp i eσ112 (imp_91 i hi)).trans ((jkp i eσ111 (imp_92 i hi)).trans (jkp i eσ110 (imp_93 i hi))))))))), p142, trivial⟩ hP hS dX1_grow_202
            · have kc146 := jnle c146 rfl rfl
              refine lv_iload hx hb dX1_grow_108 (lv_at hl 0 rfl) ?_
              refine lv_sipush (v := 350) hx hb dX1_grow_110 (by decide) ?_
              refine lv_icmp_ge (tgt := 202) hx hb dX1_grow_113 (by decide) (fun c => absurd (jle c jz_350 rfl) (by omega)) (fun c147 => ?_)
              have kc147 := jnle c147 jz_350 rfl
              refine lv_aload_n hx hb dX1_grow_116 rfl (lv_at hl 3 rfl) ?_
              refine va_get (D := D) hx hb hts inlX1 hown hK hP 31 (jc_31 cI cL ad σ136 τ) rfl 2 (by decide) (hts _ kw_5_3) (fun _ h9 => h9) rfl dX1_grow_117 ?_
              refine lv_iload hx hb dX1_grow_120 (lv_at hl 0 rfl) ?_
              refine jald hx hb hK hP (jc_32 cI cL ad σ136 τ) (jin rfl (by omega) (by omega)) dX1_grow_122 ?_
              refine lv_topi (fun x148 ex148 => ?_)
              refine lv_ldc (v := 134217727) hx hb hown (hts _ kw_28_10) dX1_grow_123 ?_
              refine lv_iand hx hb dX1_grow_125 ?_
              refine lv_topi (fun x149 ex149 => ?_)
              have gx149 := jrg (rfl : x149.toInt = x149.toInt)
              have g150 : 0 ≤ x149.toInt ∧ x149.toInt ≤ 134217727 := jmask ex149 27 (by decide) (by decide)
              refine lv_istore (lv' := [(6, .int x149), (5, .int x132), (4, .int 1), (3, .int x8), (0, .ref (ad 31)), (1, .int a1), (2, .int a2)]) hx hb dX1_grow_126 hl (by decide) rfl (fun ls hl => ?_)
              refine lv_aload_n hx hb dX1_grow_128 rfl (lv_at hl 4 rfl) ?_
              refine va_get (D := D) hx hb hts inlX1 hown hK hP 31 (jc_31 cI cL ad σ136 τ) rfl 2 (by decide) (hts _ kw_5_3) (fun _ h9 => h9) rfl dX1_grow_129 ?_
              refine lv_iload hx hb dX1_grow_132 (lv_at hl 1 rfl) ?_
              refine jald hx hb hK hP (jc_32 cI cL ad σ136 τ) (jin rfl (by omega) (by omega)) dX1_grow_134 ?_
              refine lv_topi (fun x151 ex151 => ?_)
              refine lv_bipush (v := 27) hx hb dX1_grow_135 (by decide) ?_
              refine lv_ishr hx hb dX1_grow_137 ?_
              refine lv_topi (fun x152 ex152 => ?_)
              have gx152 := jrg (rfl : x152.toInt = x152.toInt)
              refine lv_istore (lv' := [(7, .int x152), (6, .int x149), (5, .int x132), (4, .int 1), (3, .int x8), (0, .ref (ad 31)), (1, .int a1), (2, .int a2)]) hx hb dX1_grow_138 hl (by decide) rfl (fun ls hl => ?_)
              refine lv_iconst (v := 0) hx hb dX1_grow_140 (by decide) ?_
              refine lv_istore (lv' := [(8, .int 0), (7, .int x152), (6, .int x149), (5, .int x132), (4, .int 1), (3, .int x8), (0, .ref (ad 31)), (1, .int a1), (2, .int a2)]) hx hb dX1_grow_141 hl (by decide) rfl (fun ls hl => ?_)
              have lp153 : ∀ (n154 : Nat) (x155 : Int32) (σ156 : Nat → Nat → Int32) (H : Heap) (locs : List Loc) (ls : Array Slot), (-x155.toInt + 4 : Int) < n154 → 0 ≤ x155.toInt → x155.toInt ≤ 4 → (∀ i : Nat, (i < 31 ∨ 33 < i) ∧ (i < 36 ∨ 37 < i) → σ156 i = σ136 i) → (∀ k : Nat, (k < 8 ∨ 8 < k) → σ156 31 k = σ136 31 k) → jI31 σ156 → jH D cI cL ad σ156 τ H → va_S (jA ad) s.heap H locs → lv_has ls 9 [(8, .int x155), (7, .int x152), (6, .int x149), (5, .int x132), (4, .int 1), (3, .int x8), (0, .ref (ad 31)), (1, .int a1), (2, .int a2)] → W p l e ({ frames := 3, cells := 0, slots := 0, locals := 73 }) s m args below meth c H locs 0 0 Q (F0 m 143 ls []) := by
                intro n154
                induction n154 with
                | zero => intro x155 σ156 H locs ls h157 h158 h159; exact absurd h157 (by omega)
                | succ n154 ihlp153 =>
                  intro x155 σ156 H locs ls h157 h158 h159 f160 f161 p162 hP hS hl
                  obtain ⟨i163, w164, w165⟩ : (0 ≤ (σ156 31 8).toInt ∧ (σ156 31 8).toInt ≤ 350) ∧ (∀ k : Nat, k < 1400 → (-1) ≤ (σ156 33 k).toInt ∧ (σ156 33 k).toInt ≤ 350) ∧ (∀ k : Nat, k < 1024 → 0 ≤ (σ156 36 k).toInt ∧ (σ156 36 k).toInt ≤ 349) := id p162
                  refine lv_iload hx hb dX1_grow_143 (lv_at hl 0 rfl) ?_
                  refine lv_iconst (v := 4) hx hb dX1_grow_145 (by decide) ?_
                  refine lv_icmp_ge (tgt := 196) hx hb dX1_grow_146 (by decide) (fun c166 => ?_) (fun c166 => ?_)
                  · have kc166 := jle c166 jz_4 rfl
                    obtain ⟨x167, ex167⟩ : ∃ y : Int32, y = x132 + 1 := ⟨_, rfl⟩
                    have tx167 : x167.toInt = x132.toInt + 1 := (jadd ex167 rfl jz_1 (by omega) (by omega)).trans (by omega)
                    refine lv_iinc (v := x167) (lv' := [(5, .int x167), (8, .int x155), (7, .int x152), (6, .int x149), (4, .int 1), (3, .int x8), (0, .ref (ad 31)), (1, .int a1), (2, .int a2)]) hx hb dX1_grow_196 hl (k := 3) rfl (by rw [ex167]; rfl) (by decide) rfl (fun ls hl => ?_)
                    refine lv_goto (tgt := 99) hx hb dX1_grow_199 (by decide) ?_
                    exact ihlp130 x167 σ156 _ _ ls (by have h90 := tx167; omega) (by have h90 := tx167; omega) (by have h90 := tx167; omega) (fun i hi => ((f160 i hi).trans (f140 i hi))) (fun i hi => ((f161 i hi).trans (f141 i hi)))  p162 hP hS (lv_sub hl [0, 4, 5, 6, 7, 8] rfl)
                  · have kc166 := jnle c166 jz_4 rfl
                    refine lv_aload_n hx hb dX1_grow_149 rfl (lv_at hl 6 rfl) ?_
                    refine va_get (D := D) hx hb hts inlX1 hown hK hP 31 (jc_31 cI cL ad σ156 τ) rfl 3 (by decide) (hts _ kw_5_4) (fun _ h9 => h9) rfl dX1_grow_150 ?_
                    refine lv_iload hx hb dX1_grow_153 (lv_at hl 3 rfl) ?_
                    refine lv_iconst (v := 4) hx hb dX1_grow_155 (by decide) ?_
                    have g168 := jrg (rfl : x132.toInt = x132.toInt)
                    refine lv_imul hx hb dX1_grow_156 ?_
                    refine lv_topi (fun x169 ex169 => ?_)
                    have tx169 : x169.toInt = 4 * x132.toInt := (jmul ex169 rfl jz_4 (by omega) (by omega)).trans (by omega)
                    refine lv_iload hx hb dX1_grow_157 (lv_at hl 0 rfl) ?_
                    have g170 := jrg (rfl : x155.toInt = x155.toInt)
                    refine lv_iadd hx hb dX1_grow_159 ?_
                    refine lv_topi (fun x171 ex171 => ?_)
                    have tx171 : x171.toInt = 4 * x132.toInt + x155.toInt := (jadd ex171 tx169 rfl (by omega) (by omega)).trans (by omega)
                    refine lv_iload hx hb dX1_grow_160 (lv_at hl 2 rfl) ?_
                    refine lv_iload hx hb dX1_grow_162 (lv_at hl 0 rfl) ?_
                    refine jcallS (As := [.int x149, .int x155]) (rest := [.int x171, .ref (ad 33)]) ⟨hx, hb, hml, hown, hts⟩ hK hP hA hS hZ (c_X0_mayBowl l D cI cL ad zz hJ σ156 τ x149 (x149.toInt) rfl x155 (x155.toInt) rfl) cw_RX1_115 ⟨Nat.le_of_ble_eq_true rfl, Nat.le_of_ble_eq_true rfl⟩ rfl rfl rfl hl.1 rfl (Nat.le_of_ble_eq_true rfl) dX1_grow_164 ⟨Nat.zero_le _, Nat.zero_le _⟩ (fun r173 σ172 τ172 H locs h172 hP hS => ?_)
                    obtain ⟨⟨rfl, rfl⟩, h172⟩ := h172
                    refine lv_if_eq (tgt := 188) hx hb dX1_grow_167 (by decide) (fun c174 => ?_) (fun c174 => ?_)
                    · have kc174 := jeq c174 rfl jz_0
                      refine lv_iconst (v := (-1)) hx hb dX1_grow_188 (by decide) ?_
                      refine jast hx hb hK hP hJ hA hS (jc_33 cI cL ad σ156 τ) (ja_33 cI cL ad σ156 τ _ _) (jin tx171 (by omega) (by omega)) dX1_grow_189 (fun σ175 H locs eσ175 hP hS => ?_)
                      obtain ⟨x176, ex176⟩ : ∃ y : Int32, y = x155 + 1 := ⟨_, rfl⟩
                      have tx176 : x176.toInt = x155.toInt + 1 := (jadd ex176 rfl jz_1 (by omega) (by omega)).trans (by omega)
                      refine lv_iinc (v := x176) (lv' := [(8, .int x176), (7, .int x152), (6, .int x149), (5, .int x132), (4, .int 1), (3, .int x8), (0, .ref (ad 31)), (1, .int a1), (2, .int a2)]) hx hb dX1_grow_190 hl (k := 0) rfl (by rw [ex176]; rfl) (by decide) rfl (fun ls hl => ?_)
                      refine lv_goto (tgt := 143) hx hb dX1_grow_193 (by decide) ?_
                      have z177 : (σ175 31 8).toInt = (σ156 31 8).toInt := (congrArg Int32.toInt (show σ175 31 8 = (σ156 31 8) from (congrFun (jnp 31 eσ175 (by decide)) 8)))
                      have w178 : ∀ k : Nat, k < 1400 → (-1) ≤ (σ175 33 k).toInt ∧ (σ175 33 k).toInt ≤ 350 := (by rw [eσ175]; exact jrr_up w164 (by have h9 := jz_m1; omega) (by have h9 := jz_m1; omega))
                      have w179 : ∀ k : Nat, k < 1024 → 0 ≤ (σ175 36 k).toInt ∧ (σ175 36 k).toInt ≤ 349 := (jrr_fr (jnp 36 eσ175 (by decide)) w165)
                      have I180 : jI31 σ175 := ⟨(by omega), w178, w179⟩
                      exact ihlp153 x176 σ175 _ _ ls (by have h90 := tx176; omega) (by have h90 := tx176; omega) (by have h90 := tx176; omega) (fun i hi => ((jnp i eσ175 (imp_94 i hi)).trans (f160 i hi))) (fun i hi => ((congrFun (jnp 31 eσ175 (by decide)) i).trans (f161 i hi)))  I180 hP hS (lv_sub hl [0, 1, 2, 3, 4, 5, 6, 7, 8] rfl)
                    · have kc174 := jne c174 rfl jz_0
                      refine lv_aload_n hx hb dX1_grow_170 rfl (lv_at hl 6 rfl) ?_
                      refine lv_iload hx hb dX1_grow_171 (lv_at hl 2 rfl) ?_
                      refine lv_iload hx hb dX1_grow_173 (lv_at hl 0 rfl) ?_
                      refine jcallS (As := [.int x149, .int x155]) (rest := [.ref (ad 31), .int x171, .ref (ad 33)]) ⟨hx, hb, hml, hown, hts⟩ hK hP hA hS hZ (c_X0_after l D cI cL ad zz hJ σ156 τ x149 (x149.toInt) rfl x155 (x155.toInt) rfl) cw_RX1_119 ⟨Nat.le_of_ble_eq_true rfl, Nat.le_of_ble_eq_true rfl⟩ rfl rfl rfl hl.1 rfl (Nat.le_of_ble_eq_true rfl) dX1_grow_175 ⟨Nat.zero_le _, Nat.zero_le _⟩ (fun r182 σ181 τ181 H locs h181 hP hS => ?_)
                      obtain ⟨⟨rfl, rfl⟩, h181⟩ := h181
                      refine lv_iload hx hb dX1_grow_178 (lv_at hl 1 rfl) ?_
                      refine lv_iconst (v := 1) hx hb dX1_grow_180 (by decide) ?_
                      have g183 := jrg (rfl : x152.toInt = x152.toInt)
                      refine lv_iadd hx hb dX1_grow_181 ?_
                      refine lv_topi (fun x184 ex184 => ?_)
                      have gx184 := jrg (rfl : x184.toInt = x184.toInt)
                      refine jcallV (As := [.int r182, .int x184]) (rest := [.int x171, .ref (ad 33)]) ⟨hx, hb, hml, hown, hts⟩ hK hP hA hS hZ (c_X1_add_31 l D cI cL ad zz hJ σ156 τ r182 (r182.toInt) rfl x184 (x184.toInt) rfl p162) cw_RX1_111 (jc_31 cI cL ad σ156 τ) rfl ⟨Nat.le_of_ble_eq_true rfl, Nat.le_of_ble_eq_true rfl⟩ rfl rfl rfl hl.1 rfl (Nat.le_of_ble_eq_true rfl) dX1_grow_182 ⟨Nat.zero_le _, Nat.zero_le _⟩ (fun r186 σ185 τ185 H locs h185 hP hS => ?_)
                      obtain ⟨rfl, f187, f188, I189, h185⟩ := h185
                      obtain ⟨i190, w191, w192⟩ : (0 ≤ (σ185 31 8).toInt ∧ (σ185 31 8).toInt ≤ 350) ∧ (∀ k : Nat, k < 1400 → (-1) ≤ (σ185 33 k).toInt ∧ (σ185 33 k).toInt ≤ 350) ∧ (∀ k : Nat, k < 1024 → 0 ≤ (σ185 36 k).toInt ∧ (σ185 36 k).toInt ≤ 349) := id I189
                      have h193 := h185
                      obtain ⟨q195, k194⟩ := h193
                      refine lv_goto (tgt := 189) hx hb dX1_grow_185 (by decide) ?_
                      refine jast hx hb hK hP hJ hA hS (jc_33 cI cL ad σ185 τ) (ja_33 cI cL ad σ185 τ _ _) (jin tx171 (by omega) (by omega)) dX1_grow_189 (fun σ196 H locs eσ196 hP hS => ?_)
                      obtain ⟨x197, ex197⟩ : ∃ y : Int32, y = x155 + 1 := ⟨_, rfl⟩
                      have tx197 : x197.toInt = x155.toInt + 1 := (jadd ex197 rfl jz_1 (by omega) (by omega)).trans (by omega)
                      refine lv_iinc (v := x197) (lv' := [(8, .int x197), (7, .int x152), (6, .int x149), (5, .int x132), (4, .int 1), (3, .int x8), (0, .ref (ad 31)), (1, .int a1), (2, .int a2)]) hx hb dX1_grow_190 hl (k := 0) rfl (by rw [ex197]; rfl) (by decide) rfl (fun ls hl => ?_)
                      refine lv_goto (tgt := 143) hx hb dX1_grow_193 (by decide) ?_
                      have z198 : (σ196 31 8).toInt = (σ185 31 8).toInt := (congrArg Int32.toInt (show σ196 31 8 = (σ185 31 8) from (congrFun (jnp 31 eσ196 (by decide)) 8)))
                      have w199 : ∀ k : Nat, k < 1400 → (-1) ≤ (σ196 33 k).toInt ∧ (σ196 33 k).toInt ≤ 350 := (by rw [eσ196]; exact jrr_up w191 (by omega) (by omega))
                      have w200 : ∀ k : Nat, k < 1024 → 0 ≤ (σ196 36 k).toInt ∧ (σ196 36 k).toInt ≤ 349 := (jrr_fr (jnp 36 eσ196 (by decide)) w192)
                      have I201 : jI31 σ196 := ⟨(by omega), w199, w200⟩
                      exact ihlp153 x197 σ196 _ _ ls (by have h90 := tx197; omega) (by have h90 := tx197; omega) (by have h90 := tx197; omega) (fun i hi => ((jnp i eσ196 (imp_94 i hi)).trans ((f187 i (imp_86 i hi)).trans (f160 i hi)))) (fun i hi => ((congrFun (jnp 31 eσ196 (by decide)) i).trans ((f188 i hi).trans (f161 i hi))))  I201 hP hS (lv_sub hl [0, 1, 2, 3, 4, 5, 6, 7, 8] rfl)
              exact lp153 1000000 0 σ136 _ _ ls (by have h90 := jz_0; omega) (by have h90 := jz_0; omega) (by have h90 := jz_0; omega) (fun _ _ => rfl) (fun _ _ => rfl)  p142 hP hS hl
        exact lp130 1000000 0 σ119 _ _ ls (by have h90 := jz_0; omega) (by have h90 := jz_0; omega) (by have h90 := jz_0; omega) (fun _ _ => rfl) (fun _ _ => rfl)  I123 hP hS hl
      · have kc109 := jeq c109 rfl rfl
        refine lv_aload_n hx hb dX1_grow_48 rfl (lv_at hl 2 rfl) ?_
        refine va_get (D := D) hx hb hts inlX1 hown hK hP 31 (jc_31 cI cL ad σ τ) rfl 12 (by decide) (hts _ kw_28_8) (fun _ h9 => h9) rfl dX1_grow_49 ?_
        refine lv_iload hx hb dX1_grow_52 (lv_at hl 0 rfl) ?_
        refine lv_icmp_ne (tgt := 63) hx hb dX1_grow_54 (by decide) (fun c202 => ?_) (fun c202 => ?_)
        · have kc202 := jne c202 rfl jz_1
          refine lv_aload_n hx hb dX1_grow_63 rfl (lv_at hl 2 rfl) ?_
          refine lv_iload_n hx hb dX1_grow_64 rfl (lv_at hl 3 rfl) ?_
          refine jput (ty := .int) hx hb hts inlX1 tyX1 tyX1_ok nmX1 hown hK hP hJ hA hS (jc_31 cI cL ad σ τ) rfl (k := 9) (by decide) (Nat.le_of_ble_eq_true rfl) (jp_31_9 cI cL ad σ τ a1) (hts _ kw_5_9) (fun _ h9 => h9) rfl (by decide +kernel) rfl rfl dX1_grow_65 (fun σ203 H locs eσ203 hP hS => ?_)
          refine lv_aload_n hx hb dX1_grow_68 rfl (lv_at hl 2 rfl) ?_
          refine lv_iload_n hx hb dX1_grow_69 rfl (lv_at hl 4 rfl) ?_
          refine jput (ty := .int) hx hb hts inlX1 tyX1 tyX1_ok nmX1 hown hK hP hJ hA hS (jc_31 cI cL ad σ203 τ) rfl (k := 10) (by decide) (Nat.le_of_ble_eq_true rfl) (jp_31_10 cI cL ad σ203 τ a2) (hts _ kw_28_9) (fun _ h9 => h9) rfl (by decide +kernel) rfl rfl dX1_grow_70 (fun σ204 H locs eσ204 hP hS => ?_)
          refine lv_aload_n hx hb dX1_grow_73 rfl (lv_at hl 2 rfl) ?_
          refine lv_iload_n hx hb dX1_grow_74 rfl (lv_at hl 1 rfl) ?_
          refine jput (ty := .int) hx hb hts inlX1 tyX1 tyX1_ok nmX1 hown hK hP hJ hA hS (jc_31 cI cL ad σ204 τ) rfl (k := 11) (by decide) (Nat.le_of_ble_eq_true rfl) (jp_31_11 cI cL ad σ204 τ x8) (hts _ kw_28_7) (fun _ h9 => h9) rfl (by decide +kernel) rfl rfl dX1_grow_75 (fun σ205 H locs eσ205 hP hS => ?_)
          refine lv_aload_n hx hb dX1_grow_78 rfl (lv_at hl 2 rfl) ?_
          refine lv_iload hx hb dX1_grow_79 (lv_at hl 0 rfl) ?_
          refine jput (ty := .boolean) hx hb hts inlX1 tyX1 tyX1_ok nmX1 hown hK hP hJ hA hS (jc_31 cI cL ad σ205 τ) rfl (k := 12) (by decide) (Nat.le_of_ble_eq_true rfl) (jp_31_12 cI cL ad σ205 τ 1) (hts _ kw_28_8) (fun _ h9 => h9) rfl (by decide +kernel) rfl rfl dX1_grow_81 (fun σ206 H locs eσ206 hP hS => ?_)
          refine lv_aload_n hx hb dX1_grow_84 rfl (lv_at hl 2 rfl) ?_
          refine lv_iconst (v := 0) hx hb dX1_grow_85 (by decide) ?_
          refine jput (ty := .int) hx hb hts inlX1 tyX1 tyX1_ok nmX1 hown hK hP hJ hA hS (jc_31 cI cL ad σ206 τ) rfl (k := 8) (by decide) (Nat.le_of_ble_eq_true rfl) (jp_31_8 cI cL ad σ206 τ 0) (hts _ kw_27_22) (fun _ h9 => h9) rfl (by decide +kernel) rfl rfl dX1_grow_86 (fun σ207 H locs eσ207 hP hS => ?_)
          refine lv_aload_n hx hb dX1_grow_89 rfl (lv_at hl 2 rfl) ?_
          refine lv_iload_n hx hb dX1_grow_90 rfl (lv_at hl 3 rfl) ?_
          refine lv_iconst (v := 0) hx hb dX1_grow_91 (by decide) ?_
          have z208 : (σ207 31 8).toInt = 0 := ((congrArg Int32.toInt (show σ207 31 8 = 0 from (jsp eσ207))).trans jz_0)
          have w209 : ∀ k : Nat, k < 1400 → (-1) ≤ (σ207 33 k).toInt ∧ (σ207 33 k).toInt ≤ 350 := (jrr_fr (jnp 33 eσ207 (by decide)) (jrr_fr (jnp 33 eσ206 (by decide)) (jrr_fr (jnp 33 eσ205 (by decide)) (jrr_fr (jnp 33 eσ204 (by decide)) (jrr_fr (jnp 33 eσ203 (by decide)) w2)))))
          have w210 : ∀ k : Nat, k < 1024 → 0 ≤ (σ207 36 k).toInt ∧ (σ207 36 k).toInt ≤ 349 := (jrr_fr (jnp 36 eσ207 (by decide)) (jrr_fr (jnp 36 eσ206 (by decide)) (jrr_fr (jnp 36 eσ205 (by decide)) (jrr_fr (jnp 36 eσ204 (by decide)) (jrr_fr (jnp 36 eσ203 (by decide)) w3)))))
          have I211 : jI31 σ207 := ⟨(by omega), w209, w210⟩
          refine jcallV (As := [.int a1, .int 0]) (rest := []) ⟨hx, hb, hml, hown, hts⟩ hK hP hA hS hZ (c_X1_add_31 l D cI cL ad zz hJ σ207 τ a1 (A1) t1 0 (0) jz_0 I211) cw_RX1_111 (jc_31 cI cL ad σ207 τ) rfl ⟨Nat.le_of_ble_eq_true rfl, Nat.le_of_ble_eq_true rfl⟩ rfl rfl rfl hl.1 rfl (Nat.le_of_ble_eq_true rfl) dX1_grow_92 ⟨Nat.zero_le _, Nat.zero_le _⟩ (fun r213 σ212 τ212 H locs h212 hP hS => ?_)
          obtain ⟨rfl, f214, f215, I216, h212⟩ := h212
          obtain ⟨i217, w218, w219⟩ : (0 ≤ (σ212 31 8).toInt ∧ (σ212 31 8).toInt ≤ 350) ∧ (∀ k : Nat, k < 1400 → (-1) ≤ (σ212 33 k).toInt ∧ (σ212 33 k).toInt ≤ 350) ∧ (∀ k : Nat, k < 1024 → 0 ≤ (σ212 36 k).toInt ∧ (σ212 36 k).toInt ≤ 349) := id I216
          have h220 := h212
          obtain ⟨q222, k221⟩ := h220
          refine lv_pop hx hb dX1_grow_95 rfl ?_
          refine lv_iconst (v := 0) hx hb dX1_grow_96 (by decide) ?_
          refine lv_istore (lv' := [(5, .int 0), (4, .int 1), (3, .int x8), (0, .ref (ad 31)), (1, .int a1), (2, .int a2)]) hx hb dX1_grow_97 hl (by decide) rfl (fun ls hl => ?_)
          have lp223 : ∀ (n224 : Nat) (x225 : Int32) (σ229 : Nat → Nat → Int32) (H : Heap) (locs : List Loc) (ls : Array Slot), (-x225.toInt + 350 : Int) < n224 → 0 ≤ x225.toInt → x225.toInt ≤ 350 → (∀ i : Nat, (i < 31 ∨ 33 < i) ∧ (i < 36 ∨ 37 < i) → σ229 i = σ212 i) → (∀ k : Nat, (k < 8 ∨ 8 < k) → σ229 31 k = σ212 31 k) → jI31 σ229 → jH D cI cL ad σ229 τ H → va_S (jA ad) s.heap H locs → lv_has ls 9 [(5, .int x225), (4, .int 1), (3, .int x8), (0, .ref (ad 31)), (1, .int a1), (2, .int a2)] → W p l e ({ frames := 3, cells := 0, slots := 0, locals := 73 }) s m args below meth c H locs 0 0 Q (F0 m 99 ls []) := by
            intro n224
            induction n224 with
            | zero => intro x225 σ229 H locs ls h230 h231 h232; exact absurd h230 (by omega)
            | succ n224 ihlp223 =>
              intro x225 σ229 H locs ls h230 h231 h232 f233 f234 p235 hP hS hl
              obtain ⟨i236, w237, w238⟩ : (0 ≤ (σ229 31 8).toInt ∧ (σ229 31 8).toInt ≤ 350) ∧ (∀ k : Nat, k < 1400 → (-1) ≤ (σ229 33 k).toInt ∧ (σ229 33 k).toInt ≤ 350) ∧ (∀ k : Nat, k < 1024 → 0 ≤ (σ229 36 k).toInt ∧ (σ229 36 k).toInt ≤ 349) := id p235
              refine lv_iload hx hb dX1_grow_99 (lv_at hl 0 rfl) ?_
              refine lv_aload_n hx hb dX1_grow_101 rfl (lv_at hl 3 rfl) ?_
              refine va_get (D := D) hx hb hts inlX1 hown hK hP 31 (jc_31 cI cL ad σ229 τ) rfl 8 (by decide) (hts _ kw_27_22) (fun _ h9 => h9) rfl dX1_grow_102 ?_
              refine lv_icmp_ge (tgt := 202) hx hb dX1_grow_105 (by decide) (fun c239 => ?_) (fun c239 => ?_)
              · have kc239 := jle c239 rfl rfl
                exact hret σ229 τ _ _ _ _ ⟨rfl, (fun i hi => ((f233 i hi).trans ((f214 i (imp_86 i hi)).trans ((jnp i eσ207 (imp_87 i hi)).trans ((jnp i eσ206 (imp_87 i hi)).trans ((jnp i eσ205 (imp_87 i hi)).trans ((jnp i eσ204 (imp_87 i hi)).trans (jnp i eσ203 (imp_87 i hi))))))))), (fun i hi => ((f234 i (imp_88 i hi)).trans ((f215 i (imp_88 i hi)).trans ((jkp i eσ207 (imp_89 i hi)).trans ((jkp i eσ206 (imp_90 i hi)).trans ((jkp i eσ205 (imp_91 i hi)).trans ((jkp i eσ204 (imp_92 i hi)).trans (jkp i eσ203 (imp_93 i hi))))))))), p235, trivial⟩ hP hS dX1_grow_202
              · have kc239 := jnle c239 rfl rfl
                refine lv_iload hx hb dX1_grow_108 (lv_at hl 0 rfl) ?_
                refine lv_sipush (v := 350) hx hb dX1_grow_110 (by decide) ?_
                refine lv_icmp_ge (tgt := 202) hx hb dX1_grow_113 (by decide) (fun c => absurd (jle c jz_350 rfl) (by omega)) (fun c240 => ?_)
                have kc240 := jnle c240 jz_350 rfl
                refine lv_aload_n hx hb dX1_grow_116 rfl (lv_at hl 3 rfl) ?_
                refine va_get (D := D) hx hb hts inlX1 hown hK hP 31 (jc_31 cI cL ad σ229 τ) rfl 2 (by decide) (hts _ kw_5_3) (fun _ h9 => h9) rfl dX1_grow_117 ?_
                refine lv_iload hx hb dX1_grow_120 (lv_at hl 0 rfl) ?_
                refine jald hx hb hK hP (jc_32 cI cL ad σ229 τ) (jin rfl (by omega) (by omega)) dX1_grow_122 ?_
                refine lv_topi (fun x241 ex241 => ?_)
                refine lv_ldc (v := 134217727) hx hb hown (hts _ kw_28_10) dX1_grow_123 ?_
                refine lv_iand hx hb dX1_grow_125 ?_
                refine lv_topi (fun x242 ex242 => ?_)
                have gx242 := jrg (rfl : x242.toInt = x242.toInt)
                have g243 : 0 ≤ x242.toInt ∧ x242.toInt ≤ 134217727 := jmask ex242 27 (by decide) (by decide)
                refine lv_istore (lv' := [(6, .int x242), (5, .int x225), (4, .int 1), (3, .int x8), (0, .ref (ad 31)), (1, .int a1), (2, .int a2)]) hx hb dX1_grow_126 hl (by decide) rfl (fun ls hl => ?_)
                refine lv_aload_n hx hb dX1_grow_128 rfl (lv_at hl 4 rfl) ?_
                refine va_get (D := D) hx hb hts inlX1 hown hK hP 31 (jc_31 cI cL ad σ229 τ) rfl 2 (by decide) (hts _ kw_5_3) (fun _ h9 => h9) rfl dX1_grow_129 ?_
                refine lv_iload hx hb dX1_grow_132 (lv_at hl 1 rfl) ?_
                refine jald hx hb hK hP (jc_32 cI cL ad σ229 τ) (jin rfl (by omega) (by omega)) dX1_grow_134 ?_
                refine lv_topi (fun x244 ex244 => ?_)
                refine lv_bipush (v := 27) hx hb dX1_grow_135 (by decide) ?_
                refine lv_ishr hx hb dX1_grow_137 ?_
                refine lv_topi (fun x245 ex245 => ?_)
                have gx245 := jrg (rfl : x245.toInt = x245.toInt)
                refine lv_istore (lv' := [(7, .int x245), (6, .int x242), (5, .int x225), (4, .int 1), (3, .int x8), (0, .ref (ad 31)), (1, .int a1), (2, .int a2)]) hx hb dX1_grow_138 hl (by decide) rfl (fun ls hl => ?_)
                refine lv_iconst (v := 0) hx hb dX1_grow_140 (by decide) ?_
                refine lv_istore (lv' := [(8, .int 0), (7, .int x245), (6, .int x242), (5, .int x225), (4, .int 1), (3, .int x8), (0, .ref (ad 31)), (1, .int a1), (2, .int a2)]) hx hb dX1_grow_141 hl (by decide) rfl (fun ls hl => ?_)
                have lp246 : ∀ (n247 : Nat) (x248 : Int32) (σ249 : Nat → Nat → Int32) (H : Heap) (locs : List Loc) (ls : Array Slot), (-x248.toInt + 4 : Int) < n247 → 0 ≤ x248.toInt → x248.toInt ≤ 4 → (∀ i : Nat, (i < 31 ∨ 33 < i) ∧ (i < 36 ∨ 37 < i) → σ249 i = σ229 i) → (∀ k : Nat, (k < 8 ∨ 8 < k) → σ249 31 k = σ229 31 k) → jI31 σ249 → jH D cI cL ad σ249 τ H → va_S (jA ad) s.heap H locs → lv_has ls 9 [(8, .int x248), (7, .int x245), (6, .int x242), (5, .int x225), (4, .int 1), (3, .int x8), (0, .ref (ad 31)), (1, .int a1), (2, .int a2)] → W p l e ({ frames := 3, cells := 0, slots := 0, locals := 73 }) s m args below meth c H locs 0 0 Q (F0 m 143 ls []) := by
                  intro n247
                  induction n247 with
                  | zero => intro x248 σ249 H locs ls h250 h251 h252; exact absurd h250 (by omega)
                  | succ n247 ihlp246 =>
                    intro x248 σ249 H locs ls h250 h251 h252 f253 f254 p255 hP hS hl
                    obtain ⟨i256, w257, w258⟩ : (0 ≤ (σ249 31 8).toInt ∧ (σ249 31 8).toInt ≤ 350) ∧ (∀ k : Nat, k < 1400 → (-1) ≤ (σ249 33 k).toInt ∧ (σ249 33 k).toInt ≤ 350) ∧ (∀ k : Nat, k < 1024 → 0 ≤ (σ249 36 k).toInt ∧ (σ249 36 k).toInt ≤ 349) := id p255
                    refine lv_iload hx hb dX1_grow_143 (lv_at hl 0 rfl) ?_
                    refine lv_iconst (v := 4) hx hb dX1_grow_145 (by decide) ?_
                    refine lv_icmp_ge (tgt := 196) hx hb dX1_grow_146 (by decide) (fun c259 => ?_) (fun c259 => ?_)
                    · have kc259 := jle c259 jz_4 rfl
                      obtain ⟨x260, ex260⟩ : ∃ y : Int32, y = x225 + 1 := ⟨_, rfl⟩
                      have tx260 : x260.toInt = x225.toInt + 1 := (jadd ex260 rfl jz_1 (by omega) (by omega)).trans (by omega)
                      refine lv_iinc (v := x260) (lv' := [(5, .int x260), (8, .int x248), (7, .int x245), (6, .int x242), (4, .int 1), (3, .int x8), (0, .ref (ad 31)), (1, .int a1), (2, .int a2)]) hx hb dX1_grow_196 hl (k := 3) rfl (by rw [ex260]; rfl) (by decide) rfl (fun ls hl => ?_)
                      refine lv_goto (tgt := 99) hx hb dX1_grow_199 (by decide) ?_
                      exact ihlp223 x260 σ249 _ _ ls (by have h90 := tx260; omega) (by have h90 := tx260; omega) (by have h90 := tx260; omega) (fun i hi => ((f253 i hi).trans (f233 i hi))) (fun i hi => ((f254 i hi).trans (f234 i hi)))  p255 hP hS (lv_sub hl [0, 4, 5, 6, 7, 8] rfl)
                    · have kc259 := jnle c259 jz_4 rfl
                      refine lv_aload_n hx hb dX1_grow_149 rfl (lv_at hl 6 rfl) ?_
                      refine va_get (D := D) hx hb hts inlX1 hown hK hP 31 (jc_31 cI cL ad σ249 τ) rfl 3 (by decide) (hts _ kw_5_4) (fun _ h9 => h9) rfl dX1_grow_150 ?_
                      refine lv_iload hx hb dX1_grow_153 (lv_at hl 3 rfl) ?_
                      refine lv_iconst (v := 4) hx hb dX1_grow_155 (by decide) ?_
                      have g261 := jrg (rfl : x225.toInt = x225.toInt)
                      refine lv_imul hx hb dX1_grow_156 ?_
                      refine lv_topi (fun x262 ex262 => ?_)
                      have tx262 : x262.toInt = 4 * x225.toInt := (jmul ex262 rfl jz_4 (by omega) (by omega)).trans (by omega)
                      refine lv_iload hx hb dX1_grow_157 (lv_at hl 0 rfl) ?_
                      have g263 := jrg (rfl : x248.toInt = x248.toInt)
                      refine lv_iadd hx hb dX1_grow_159 ?_
                      refine lv_topi (fun x264 ex264 => ?_)
                      have tx264 : x264.toInt = 4 * x225.toInt + x248.toInt := (jadd ex264 tx262 rfl (by omega) (by omega)).trans (by omega)
                      refine lv_iload hx hb dX1_grow_160 (lv_at hl 2 rfl) ?_
                      refine lv_iload hx hb dX1_grow_162 (lv_at hl 0 rfl) ?_
                      refine jcallS (As := [.int x242, .int x248]) (rest := [.int x264, .ref (ad 33)]) ⟨hx, hb, hml, hown, hts⟩ hK hP hA hS hZ (c_X0_mayBowl l D cI cL ad zz hJ σ249 τ x242 (x242.toInt) rfl x248 (x248.toInt) rfl) cw_RX1_115 ⟨Nat.le_of_ble_eq_true rfl, Nat.le_of_ble_eq_true rfl⟩ rfl rfl rfl hl.1 rfl (Nat.le_of_ble_eq_true rfl) dX1_grow_164 ⟨Nat.zero_le _, Nat.zero_le _⟩ (fun r266 σ265 τ265 H locs h265 hP hS => ?_)
                      obtain ⟨⟨rfl, rfl⟩, h265⟩ := h265
                      refine lv_if_eq (tgt := 188) hx hb dX1_grow_167 (by decide) (fun c267 => ?_) (fun c267 => ?_)
                      · have kc267 := jeq c267 rfl jz_0
                        refine lv_iconst (v := (-1)) hx hb dX1_grow_188 (by decide) ?_
                        refine jast hx hb hK hP hJ hA hS (jc_33 cI cL ad σ249 τ) (ja_33 cI cL ad σ249 τ _ _) (jin tx264 (by omega) (by omega)) dX1_grow_189 (fun σ268 H locs eσ268 hP hS => ?_)
                        obtain ⟨x269, ex269⟩ : ∃ y : Int32, y = x248 + 1 := ⟨_, rfl⟩
                        have tx269 : x269.toInt = x248.toInt + 1 := (jadd ex269 rfl jz_1 (by omega) (by omega)).trans (by omega)
                        refine lv_iinc (v := x269) (lv' := [(8, .int x269), (7, .int x245), (6, .int x242), (5, .int x225), (4, .int 1), (3, .int x8), (0, .ref (ad 31)), (1, .int a1), (2, .int a2)]) hx hb dX1_grow_190 hl (k := 0) rfl (by rw [ex269]; rfl) (by decide) rfl (fun ls hl => ?_)
                        refine lv_goto (tgt := 143) hx hb dX1_grow_193 (by decide) ?_
                        have z270 : (σ268 31 8).toInt = (σ249 31 8).toInt := (congrArg Int32.toInt (show σ268 31 8 = (σ249 31 8) from (congrFun (jnp 31 eσ268 (by decide)) 8)))
                        have w271 : ∀ k : Nat, k < 1400 → (-1) ≤ (σ268 33 k).toInt ∧ (σ268 33 k).toInt ≤ 350 := (by rw [eσ268]; exact jrr_up w257 (by have h9 := jz_m1; omega) (by have h9 := jz_m1; omega))
                        have w272 : ∀ k : Nat, k < 1024 → 0 ≤ (σ268 36 k).toInt ∧ (σ268 36 k).toInt ≤ 349 := (jrr_fr (jnp 36 eσ268 (by decide)) w258)
                        have I273 : jI31 σ268 := ⟨(by omega), w271, w272⟩
                        exact ihlp246 x269 σ268 _ _ ls (by have h90 := tx269; omega) (by have h90 := tx269; omega) (by have h90 := tx269; omega) (fun i hi => ((jnp i eσ268 (imp_94 i hi)).trans (f253 i hi))) (fun i hi => ((congrFun (jnp 31 eσ268 (by decide)) i).trans (f254 i hi)))  I273 hP hS (lv_sub hl [0, 1, 2, 3, 4, 5, 6, 7, 8] rfl)
                      · have kc267 := jne c267 rfl jz_0
                        refine lv_aload_n hx hb dX1_grow_170 rfl (lv_at hl 6 rfl) ?_
                        refine lv_iload hx hb dX1_grow_171 (lv_at hl 2 rfl) ?_
                        refine lv_iload hx hb dX1_grow_173 (lv_at hl 0 rfl) ?_
                        refine jcallS (As := [.int x242, .int x248]) (rest := [.ref (ad 31), .int x264, .ref (ad 33)]) ⟨hx, hb, hml, hown, hts⟩ hK hP hA hS hZ (c_X0_after l D cI cL ad zz hJ σ249 τ x242 (x242.toInt) rfl x248 (x248.toInt) rfl) cw_RX1_119 ⟨Nat.le_of_ble_eq_true rfl, Nat.le_of_ble_eq_true rfl⟩ rfl rfl rfl hl.1 rfl (Nat.le_of_ble_eq_true rfl) dX1_grow_175 ⟨Nat.zero_le _, Nat.zero_le _⟩ (fun r275 σ274 τ274 H locs h274 hP hS => ?_)
                        obtain ⟨⟨rfl, rfl⟩, h274⟩ := h274
                        refine lv_iload hx hb dX1_grow_178 (lv_at hl 1 rfl) ?_
                        refine lv_iconst (v := 1) hx hb dX1_grow_180 (by decide) ?_
                        have g276 := jrg (rfl : x245.toInt = x245.toInt)
                        refine lv_iadd hx hb dX1_grow_181 ?_
                        refine lv_topi (fun x277 ex277 => ?_)
                        have gx277 := jrg (rfl : x277.toInt = x277.toInt)
                        refine jcallV (As := [.int r275, .int x277]) (rest := [.int x264, .ref (ad 33)]) ⟨hx, hb, hml, hown, hts⟩ hK hP hA hS hZ (c_X1_add_31 l D cI cL ad zz hJ σ249 τ r275 (r275.toInt) rfl x277 (x277.toInt) rfl p255) cw_RX1_111 (jc_31 cI cL ad σ249 τ) rfl ⟨Nat.le_of_ble_eq_true rfl, Nat.le_of_ble_eq_true rfl⟩ rfl rfl rfl hl.1 rfl (Nat.le_of_ble_eq_true rfl) dX1_grow_182 ⟨Nat.zero_le _, Nat.zero_le _⟩ (fun r279 σ278 τ278 H locs h278 hP hS => ?_)
                        obtain ⟨rfl, f280, f281, I282, h278⟩ := h278
                        obtain ⟨i283, w284, w285⟩ : (0 ≤ (σ278 31 8).toInt ∧ (σ278 31 8).toInt ≤ 350) ∧ (∀ k : Nat, k < 1400 → (-1) ≤ (σ278 33 k).toInt ∧ (σ278 33 k).toInt ≤ 350) ∧ (∀ k : Nat, k < 1024 → 0 ≤ (σ278 36 k).toInt ∧ (σ278 36 k).toInt ≤ 349) := id I282
                        have h286 := h278
                        obtain ⟨q288, k287⟩ := h286
                        refine lv_goto (tgt := 189) hx hb dX1_grow_185 (by decide) ?_
                        refine jast hx hb hK hP hJ hA hS (jc_33 cI cL ad σ278 τ) (ja_33 cI cL ad σ278 τ _ _) (jin tx264 (by omega) (by omega)) dX1_grow_189 (fun σ289 H locs eσ289 hP hS => ?_)
                        obtain ⟨x290, ex290⟩ : ∃ y : Int32, y = x248 + 1 := ⟨_, rfl⟩
                        have tx290 : x290.toInt = x248.toInt + 1 := (jadd ex290 rfl jz_1 (by omega) (by omega)).trans (by omega)
                        refine lv_iinc (v := x290) (lv' := [(8, .int x290), (7, .int x245), (6, .int x242), (5, .int x225), (4, .int 1), (3, .int x8), (0, .ref (ad 31)), (1, .int a1), (2, .int a2)]) hx hb dX1_grow_190 hl (k := 0) rfl (by rw [ex290]; rfl) (by decide) rfl (fun ls hl => ?_)
                        refine lv_goto (tgt := 143) hx hb dX1_grow_193 (by decide) ?_
                        have z291 : (σ289 31 8).toInt = (σ278 31 8).toInt := (congrArg Int32.toInt (show σ289 31 8 = (σ278 31 8) from (congrFun (jnp 31 eσ289 (by decide)) 8)))
                        have w292 : ∀ k : Nat, k < 1400 → (-1) ≤ (σ289 33 k).toInt ∧ (σ289 33 k).toInt ≤ 350 := (by rw [eσ289]; exact jrr_up w284 (by omega) (by omega))
                        have w293 : ∀ k : Nat, k < 1024 → 0 ≤ (σ289 36 k).toInt ∧ (σ289 36 k).toInt ≤ 349 := (jrr_fr (jnp 36 eσ289 (by decide)) w285)
                        have I294 : jI31 σ289 := ⟨(by omega), w292, w293⟩
                        exact ihlp246 x290 σ289 _ _ ls (by have h90 := tx290; omega) (by have h90 := tx290; omega) (by have h90 := tx290; omega) (fun i hi => ((jnp i eσ289 (imp_94 i hi)).trans ((f280 i (imp_86 i hi)).trans (f253 i hi)))) (fun i hi => ((congrFun (jnp 31 eσ289 (by decide)) i).trans ((f281 i hi).trans (f254 i hi))))  I294 hP hS (lv_sub hl [0, 1, 2, 3, 4, 5, 6, 7, 8] rfl)
                exact lp246 1000000 0 σ229 _ _ ls (by have h90 := jz_0; omega) (by have h90 := jz_0; omega) (by have h90 := jz_0; omega) (fun _ _ => rfl) (fun _ _ => rfl)  p235 hP hS hl
          exact lp223 1000000 0 σ212 _ _ ls (by have h90 := jz_0; omega) (by have h90 := jz_0; omega) (by have h90 := jz_0; omega) (fun _ _ => rfl) (fun _ _ => rfl)  I216 hP hS hl
        · have kc202 := jeq c202 rfl jz_1
          refine lv_aload_n hx hb dX1_grow_57 rfl (lv_at hl 2 rfl) ?_
          refine lv_iload_n hx hb dX1_grow_58 rfl (lv_at hl 4 rfl) ?_
          refine jput (ty := .int) hx hb hts inlX1 tyX1 tyX1_ok nmX1 hown hK hP hJ hA hS (jc_31 cI cL ad σ τ) rfl (k := 10) (by decide) (Nat.le_of_ble_eq_true rfl) (jp_31_10 cI cL ad σ τ a2) (hts _ kw_28_9) (fun _ h9 => h9) rfl (by decide +kernel) rfl rfl dX1_grow_59 (fun σ295 H locs eσ295 hP hS => ?_)
          have I296 : jI31 σ295 := jI31_fr (jkp 8 eσ295 (by decide)) (jnp 33 eσ295 (by decide)) (jnp 36 eσ295 (by decide)) hI31
          exact hret σ295 τ _ _ _ _ ⟨rfl, (fun i hi => (jnp i eσ295 (imp_87 i hi))), (fun i hi => (jkp i eσ295 (imp_92 i hi))), I296, trivial⟩ hP hS dX1_grow_62
  · obtain ⟨q298, k297⟩ := h13
    have q298 := q298.symm
    subst q298
    refine lv_istore (lv' := [(4, .int 0), (3, .int x8), (0, .ref (ad 31)), (1, .int a1), (2, .int a2)]) hx hb dX1_grow_30 hl (by decide) rfl (fun ls hl => ?_)
    refine lv_aload_n hx hb dX1_grow_32 rfl (lv_at hl 2 rfl) ?_
    refine va_get (D := D) hx hb hts inlX1 hown hK hP 31 (jc_31 cI cL ad σ τ) rfl 9 (by decide) (hts _ kw_5_9) (fun _ h9 => h9) rfl dX1_grow_33 ?_
    refine lv_iload_n hx hb dX1_grow_36 rfl (lv_at hl 3 rfl) ?_
    refine lv_icmp_ne (tgt := 63) hx hb dX1_grow_37 (by decide) (fun c299 => ?_) (fun c299 => ?_)
    · have kc299 := jne c299 rfl t1
      refine lv_aload_n hx hb dX1_grow_63 rfl (lv_at hl 2 rfl) ?_
      refine lv_iload_n hx hb dX1_grow_64 rfl (lv_at hl 3 rfl) ?_
      refine jput (ty := .int) hx hb hts inlX1 tyX1 tyX1_ok nmX1 hown hK hP hJ hA hS (jc_31 cI cL ad σ τ) rfl (k := 9) (by decide) (Nat.le_of_ble_eq_true rfl) (jp_31_9 cI cL ad σ τ a1) (hts _ kw_5_9) (fun _ h9 => h9) rfl (by decide +kernel) rfl rfl dX1_grow_65 (fun σ300 H locs eσ300 hP hS => ?_)
      refine lv_aload_n hx hb dX1_grow_68 rfl (lv_at hl 2 rfl) ?_
      refine lv_iload_n hx hb dX1_grow_69 rfl (lv_at hl 4 rfl) ?_
      refine jput (ty := .int) hx hb hts inlX1 tyX1 tyX1_ok nmX1 hown hK hP hJ hA hS (jc_31 cI cL ad σ300 τ) rfl (k := 10) (by decide) (Nat.le_of_ble_eq_true rfl) (jp_31_10 cI cL ad σ300 τ a2) (hts _ kw_28_9) (fun _ h9 => h9) rfl (by decide +kernel) rfl rfl dX1_grow_70 (fun σ301 H locs eσ301 hP hS => ?_)
      refine lv_aload_n hx hb dX1_grow_73 rfl (lv_at hl 2 rfl) ?_
      refine lv_iload_n hx hb dX1_grow_74 rfl (lv_at hl 1 rfl) ?_
      refine jput (ty := .int) hx hb hts inlX1 tyX1 tyX1_ok nmX1 hown hK hP hJ hA hS (jc_31 cI cL ad σ301 τ) rfl (k := 11) (by decide) (Nat.le_of_ble_eq_true rfl) (jp_31_11 cI cL ad σ301 τ x8) (hts _ kw_28_7) (fun _ h9 => h9) rfl (by decide +kernel) rfl rfl dX1_grow_75 (fun σ302 H locs eσ302 hP hS => ?_)
      refine lv_aload_n hx hb dX1_grow_78 rfl (lv_at hl 2 rfl) ?_
      refine lv_iload hx hb dX1_grow_79 (lv_at hl 0 rfl) ?_
      refine jput (ty := .boolean) hx hb hts inlX1 tyX1 tyX1_ok nmX1 hown hK hP hJ hA hS (jc_31 cI cL ad σ302 τ) rfl (k := 12) (by decide) (Nat.le_of_ble_eq_true rfl) (jp_31_12 cI cL ad σ302 τ 0) (hts _ kw_28_8) (fun _ h9 => h9) rfl (by decide +kernel) rfl rfl dX1_grow_81 (fun σ303 H locs eσ303 hP hS => ?_)
      refine lv_aload_n hx hb dX1_grow_84 rfl (lv_at hl 2 rfl) ?_
      refine lv_iconst (v := 0) hx hb dX1_grow_85 (by decide) ?_
      refine jput (ty := .int) hx hb hts inlX1 tyX1 tyX1_ok nmX1 hown hK hP hJ hA hS (jc_31 cI cL ad σ303 τ) rfl (k := 8) (by decide) (Nat.le_of_ble_eq_true rfl) (jp_31_8 cI cL ad σ303 τ 0) (hts _ kw_27_22) (fun _ h9 => h9) rfl (by decide +kernel) rfl rfl dX1_grow_86 (fun σ304 H locs eσ304 hP hS => ?_)
      refine lv_aload_n hx hb dX1_grow_89 rfl (lv_at hl 2 rfl) ?_
      refine lv_iload_n hx hb dX1_grow_90 rfl (lv_at hl 3 rfl) ?_
      refine lv_iconst (v := 0) hx hb dX1_grow_91 (by decide) ?_
      have z305 : (σ304 31 8).toInt = 0 := ((congrArg Int32.toInt (show σ304 31 8 = 0 from (jsp eσ304))).trans jz_0)
      have w306 : ∀ k : Nat, k < 1400 → (-1) ≤ (σ304 33 k).toInt ∧ (σ304 33 k).toInt ≤ 350 := (jrr_fr (jnp 33 eσ304 (by decide)) (jrr_fr (jnp 33 eσ303 (by decide)) (jrr_fr (jnp 33 eσ302 (by decide)) (jrr_fr (jnp 33 eσ301 (by decide)) (jrr_fr (jnp 33 eσ300 (by decide)) w2)))))
      have w307 : ∀ k : Nat, k < 1024 → 0 ≤ (σ304 36 k).toInt ∧ (σ304 36 k).toInt ≤ 349 := (jrr_fr (jnp 36 eσ304 (by decide)) (jrr_fr (jnp 36 eσ303 (by decide)) (jrr_fr (jnp 36 eσ302 (by decide)) (jrr_fr (jnp 36 eσ301 (by decide)) (jrr_fr (jnp 36 eσ300 (by decide)) w3)))))
      have I308 : jI31 σ304 := ⟨(by omega), w306, w307⟩
      refine jcallV (As := [.int a1, .int 0]) (rest := []) ⟨hx, hb, hml, hown, hts⟩ hK hP hA hS hZ (c_X1_add_31 l D cI cL ad zz hJ σ304 τ a1 (A1) t1 0 (0) jz_0 I308) cw_RX1_111 (jc_31 cI cL ad σ304 τ) rfl ⟨Nat.le_of_ble_eq_true rfl, Nat.le_of_ble_eq_true rfl⟩ rfl rfl rfl hl.1 rfl (Nat.le_of_ble_eq_true rfl) dX1_grow_92 ⟨Nat.zero_le _, Nat.zero_le _⟩ (fun r310 σ309 τ309 H locs h309 hP hS => ?_)
      obtain ⟨rfl, f311, f312, I313, h309⟩ := h309
      obtain ⟨i314, w315, w316⟩ : (0 ≤ (σ309 31 8).toInt ∧ (σ309 31 8).toInt ≤ 350) ∧ (∀ k : Nat, k < 1400 → (-1) ≤ (σ309 33 k).toInt ∧ (σ309 33 k).toInt ≤ 350) ∧ (∀ k : Nat, k < 1024 → 0 ≤ (σ309 36 k).toInt ∧ (σ309 36 k).toInt ≤ 349) := id I313
      have h317 := h309
      obtain ⟨q319, k318⟩ := h317
      refine lv_pop hx hb dX1_grow_95 rfl ?_
      refine lv_iconst (v := 0) hx hb dX1_grow_96 (by decide) ?_
      refine lv_istore (lv' := [(5, .int 0), (4, .int 0), (3, .int x8), (0, .ref (ad 31)), (1, .int a1), (2, .int a2)]) hx hb dX1_grow_97 hl (by decide) rfl (fun ls hl => ?_)
      have lp320 : ∀ (n321 : Nat) (x322 : Int32) (σ326 : Nat → Nat → Int32) (H : Heap) (locs : List Loc) (ls : Array Slot), (-x322.toInt + 350 : Int) < n321 → 0 ≤ x322.toInt → x322.toInt ≤ 350 → (∀ i : Nat, (i < 31 ∨ 33 < i) ∧ (i < 36 ∨ 37 < i) → σ326 i = σ309 i) → (∀ k : Nat, (k < 8 ∨ 8 < k) → σ326 31 k = σ309 31 k) → jI31 σ326 → jH D cI cL ad σ326 τ H → va_S (jA ad) s.heap H locs → lv_has ls 9 [(5, .int x322), (4, .int 0), (3, .int x8), (0, .ref (ad 31)), (1, .int a1), (2, .int a2)] → W p l e ({ frames := 3, cells := 0, slots := 0, locals := 73 }) s m args below meth c H locs 0 0 Q (F0 m 99 ls []) := by
        intro n321
        induction n321 with
        | zero => intro x322 σ326 H locs ls h327 h328 h329; exact absurd h327 (by omega)
        | succ n321 ihlp320 =>
          intro x322 σ326 H locs ls h327 h328 h329 f330 f331 p332 hP hS hl
          obtain ⟨i333, w334, w335⟩ : (0 ≤ (σ326 31 8).toInt ∧ (σ326 31 8).toInt ≤ 350) ∧ (∀ k : Nat, k < 1400 → (-1) ≤ (σ326 33 k).toInt ∧ (σ326 33 k).toInt ≤ 350) ∧ (∀ k : Nat, k < 1024 → 0 ≤ (σ326 36 k).toInt ∧ (σ326 36 k).toInt ≤ 349) := id p332
          refine lv_iload hx hb dX1_grow_99 (lv_at hl 0 rfl) ?_
          refine lv_aload_n hx hb dX1_grow_101 rfl (lv_at hl 3 rfl) ?_
          refine va_get (D := D) hx hb hts inlX1 hown hK hP 31 (jc_31 cI cL ad σ326 τ) rfl 8 (by decide) (hts _ kw_27_22) (fun _ h9 => h9) rfl dX1_grow_102 ?_
          refine lv_icmp_ge (tgt := 202) hx hb dX1_grow_105 (by decide) (fun c336 => ?_) (fun c336 => ?_)
          · have kc336 := jle c336 rfl rfl
            exact hret σ326 τ _ _ _ _ ⟨rfl, (fun i hi => ((f330 i hi).trans ((f311 i (imp_86 i hi)).trans ((jnp i eσ304 (imp_87 i hi)).trans ((jnp i eσ303 (imp_87 i hi)).trans ((jnp i eσ302 (imp_87 i hi)).trans ((jnp i eσ301 (imp_87 i hi)).trans (jnp i eσ300 (imp_87 i hi))))))))), (fun i hi => ((f331 i (imp_88 i hi)).trans ((f312 i (imp_88 i hi)).trans ((jkp i eσ304 (imp_89 i hi)).trans ((jkp i eσ303 (imp_90 i hi)).trans ((jkp i eσ302 (imp_91 i hi)).trans ((jkp i eσ301 (imp_92 i hi)).trans (jkp i eσ300 (imp_93 i hi))))))))), p332, trivial⟩ hP hS dX1_grow_202
          · have kc336 := jnle c336 rfl rfl
            refine lv_iload hx hb dX1_grow_108 (lv_at hl 0 rfl) ?_
            refine lv_sipush (v := 350) hx hb dX1_grow_110 (by decide) ?_
            refine lv_icmp_ge (tgt := 202) hx hb dX1_grow_113 (by decide) (fun c => absurd (jle c jz_350 rfl) (by omega)) (fun c337 => ?_)
            have kc337 := jnle c337 jz_350 rfl
            refine lv_aload_n hx hb dX1_grow_116 rfl (lv_at hl 3 rfl) ?_
            refine va_get (D := D) hx hb hts inlX1 hown hK hP 31 (jc_31 cI cL ad σ326 τ) rfl 2 (by decide) (hts _ kw_5_3) (fun _ h9 => h9) rfl dX1_grow_117 ?_
            refine lv_iload hx hb dX1_grow_120 (lv_at hl 0 rfl) ?_
            refine jald hx hb hK hP (jc_32 cI cL ad σ326 τ) (jin rfl (by omega) (by omega)) dX1_grow_122 ?_
            refine lv_topi (fun x338 ex338 => ?_)
            refine lv_ldc (v := 134217727) hx hb hown (hts _ kw_28_10) dX1_grow_123 ?_
            refine lv_iand hx hb dX1_grow_125 ?_
            refine lv_topi (fun x339 ex339 => ?_)
            have gx339 := jrg (rfl : x339.toInt = x339.toInt)
            have g340 : 0 ≤ x339.toInt ∧ x339.toInt ≤ 134217727 := jmask ex339 27 (by decide) (by decide)
            refine lv_istore (lv' := [(6, .int x339), (5, .int x322), (4, .int 0), (3, .int x8), (0, .ref (ad 31)), (1, .int a1), (2, .int a2)]) hx hb dX1_grow_126 hl (by decide) rfl (fun ls hl => ?_)
            refine lv_aload_n hx hb dX1_grow_128 rfl (lv_at hl 4 rfl) ?_
            refine va_get (D := D) hx hb hts inlX1 hown hK hP 31 (jc_31 cI cL ad σ326 τ) rfl 2 (by decide) (hts _ kw_5_3) (fun _ h9 => h9) rfl dX1_grow_129 ?_
            refine lv_iload hx hb dX1_grow_132 (lv_at hl 1 rfl) ?_
            refine jald hx hb hK hP (jc_32 cI cL ad σ326 τ) (jin rfl (by omega) (by omega)) dX1_grow_134 ?_
            refine lv_topi (fun x341 ex341 => ?_)
            refine lv_bipush (v := 27) hx hb dX1_grow_135 (by decide) ?_
            refine lv_ishr hx hb dX1_grow_137 ?_
            refine lv_topi (fun x342 ex342 => ?_)
            have gx342 := jrg (rfl : x342.toInt = x342.toInt)
            refine lv_istore (lv' := [(7, .int x342), (6, .int x339), (5, .int x322), (4, .int 0), (3, .int x8), (0, .ref (ad 31)), (1, .int a1), (2, .int a2)]) hx hb dX1_grow_138 hl (by decide) rfl (fun ls hl => ?_)
            refine lv_iconst (v := 0) hx hb dX1_grow_140 (by decide) ?_
            refine lv_istore (lv' := [(8, .int 0), (7, .int x342), (6, .int x339), (5, .int x322), (4, .int 0), (3, .int x8), (0, .ref (ad 31)), (1, .int a1), (2, .int a2)]) hx hb dX1_grow_141 hl (by decide) rfl (fun ls hl => ?_)
            have lp343 : ∀ (n344 : Nat) (x345 : Int32) (σ346 : Nat → Nat → Int32) (H : Heap) (locs : List Loc) (ls : Array Slot), (-x345.toInt + 4 : Int) < n344 → 0 ≤ x345.toInt → x345.toInt ≤ 4 → (∀ i : Nat, (i < 31 ∨ 33 < i) ∧ (i < 36 ∨ 37 < i) → σ346 i = σ326 i) → (∀ k : Nat, (k < 8 ∨ 8 < k) → σ346 31 k = σ326 31 k) → jI31 σ346 → jH D cI cL ad σ346 τ H → va_S (jA ad) s.heap H locs → lv_has ls 9 [(8, .int x345), (7, .int x342), (6, .int x339), (5, .int x322), (4, .int 0), (3, .int x8), (0, .ref (ad 31)), (1, .int a1), (2, .int a2)] → W p l e ({ frames := 3, cells := 0, slots := 0, locals := 73 }) s m args below meth c H locs 0 0 Q (F0 m 143 ls []) := by
              intro n344
              induction n344 with
              | zero => intro x345 σ346 H locs ls h347 h348 h349; exact absurd h347 (by omega)
              | succ n344 ihlp343 =>
                intro x345 σ346 H locs ls h347 h348 h349 f350 f351 p352 hP hS hl
                obtain ⟨i353, w354, w355⟩ : (0 ≤ (σ346 31 8).toInt ∧ (σ346 31 8).toInt ≤ 350) ∧ (∀ k : Nat, k < 1400 → (-1) ≤ (σ346 33 k).toInt ∧ (σ346 33 k).toInt ≤ 350) ∧ (∀ k : Nat, k < 1024 → 0 ≤ (σ346 36 k).toInt ∧ (σ346 36 k).toInt ≤ 349) := id p352
                refine lv_iload hx hb dX1_grow_143 (lv_at hl 0 rfl) ?_
                refine lv_iconst (v := 4) hx hb dX1_grow_145 (by decide) ?_
                refine lv_icmp_ge (tgt := 196) hx hb dX1_grow_146 (by decide) (fun c356 => ?_) (fun c356 => ?_)
                · have kc356 := jle c356 jz_4 rfl
                  obtain ⟨x357, ex357⟩ : ∃ y : Int32, y = x322 + 1 := ⟨_, rfl⟩
                  have tx357 : x357.toInt = x322.toInt + 1 := (jadd ex357 rfl jz_1 (by omega) (by omega)).trans (by omega)
                  refine lv_iinc (v := x357) (lv' := [(5, .int x357), (8, .int x345), (7, .int x342), (6, .int x339), (4, .int 0), (3, .int x8), (0, .ref (ad 31)), (1, .int a1), (2, .int a2)]) hx hb dX1_grow_196 hl (k := 3) rfl (by rw [ex357]; rfl) (by decide) rfl (fun ls hl => ?_)
                  refine lv_goto (tgt := 99) hx hb dX1_grow_199 (by decide) ?_
                  exact ihlp320 x357 σ346 _ _ ls (by have h90 := tx357; omega) (by have h90 := tx357; omega) (by have h90 := tx357; omega) (fun i hi => ((f350 i hi).trans (f330 i hi))) (fun i hi => ((f351 i hi).trans (f331 i hi)))  p352 hP hS (lv_sub hl [0, 4, 5, 6, 7, 8] rfl)
                · have kc356 := jnle c356 jz_4 rfl
                  refine lv_aload_n hx hb dX1_grow_149 rfl (lv_at hl 6 rfl) ?_
                  refine va_get (D := D) hx hb hts inlX1 hown hK hP 31 (jc_31 cI cL ad σ346 τ) rfl 3 (by decide) (hts _ kw_5_4) (fun _ h9 => h9) rfl dX1_grow_150 ?_
                  refine lv_iload hx hb dX1_grow_153 (lv_at hl 3 rfl) ?_
                  refine lv_iconst (v := 4) hx hb dX1_grow_155 (by decide) ?_
                  have g358 := jrg (rfl : x322.toInt = x322.toInt)
                  refine lv_imul hx hb dX1_grow_156 ?_
                  refine lv_topi (fun x359 ex359 => ?_)
                  have tx359 : x359.toInt = 4 * x322.toInt := (jmul ex359 rfl jz_4 (by omega) (by omega)).trans (by omega)
                  refine lv_iload hx hb dX1_grow_157 (lv_at hl 0 rfl) ?_
                  have g360 := jrg (rfl : x345.toInt = x345.toInt)
                  refine lv_iadd hx hb dX1_grow_159 ?_
                  refine lv_topi (fun x361 ex361 => ?_)
                  have tx361 : x361.toInt = 4 * x322.toInt + x345.toInt := (jadd ex361 tx359 rfl (by omega) (by omega)).trans (by omega)
                  refine lv_iload hx hb dX1_grow_160 (lv_at hl 2 rfl) ?_
                  refine lv_iload hx hb dX1_grow_162 (lv_at hl 0 rfl) ?_
                  refine jcallS (As := [.int x339, .int x345]) (rest := [.int x361, .ref (ad 33)]) ⟨hx, hb, hml, hown, hts⟩ hK hP hA hS hZ (c_X0_mayBowl l D cI cL ad zz hJ σ346 τ x339 (x339.toInt) rfl x345 (x345.toInt) rfl) cw_RX1_115 ⟨Nat.le_of_ble_eq_true rfl, Nat.le_of_ble_eq_true rfl⟩ rfl rfl rfl hl.1 rfl (Nat.le_of_ble_eq_true rfl) dX1_grow_164 ⟨Nat.zero_le _, Nat.zero_le _⟩ (fun r363 σ362 τ362 H locs h362 hP hS => ?_)
                  obtain ⟨⟨rfl, rfl⟩, h362⟩ := h362
                  refine lv_if_eq (tgt := 188) hx hb dX1_grow_167 (by decide) (fun c364 => ?_) (fun c364 => ?_)
                  · have kc364 := jeq c364 rfl jz_0
                    refine lv_iconst (v := (-1)) hx hb dX1_grow_188 (by decide) ?_
                    refine jast hx hb hK hP hJ hA hS (jc_33 cI cL ad σ346 τ) (ja_33 cI cL ad σ346 τ _ _) (jin tx361 (by omega) (by omega)) dX1_grow_189 (fun σ365 H locs eσ365 hP hS => ?_)
                    obtain ⟨x366, ex366⟩ : ∃ y : Int32, y = x345 + 1 := ⟨_, rfl⟩
                    have tx366 : x366.toInt = x345.toInt + 1 := (jadd ex366 rfl jz_1 (by omega) (by omega)).trans (by omega)
                    refine lv_iinc (v := x366) (lv' := [(8, .int x366), (7, .int x342), (6, .int x339), (5, .int x322), (4, .int 0), (3, .int x8), (0, .ref (ad 31)), (1, .int a1), (2, .int a2)]) hx hb dX1_grow_190 hl (k := 0) rfl (by rw [ex366]; rfl) (by decide) rfl (fun ls hl => ?_)
                    refine lv_goto (tgt := 143) hx hb dX1_grow_193 (by decide) ?_
                    have z367 : (σ365 31 8).toInt = (σ346 31 8).toInt := (congrArg Int32.toInt (show σ365 31 8 = (σ346 31 8) from (congrFun (jnp 31 eσ365 (by decide)) 8)))
                    have w368 : ∀ k : Nat, k < 1400 → (-1) ≤ (σ365 33 k).toInt ∧ (σ365 33 k).toInt ≤ 350 := (by rw [eσ365]; exact jrr_up w354 (by have h9 := jz_m1; omega) (by have h9 := jz_m1; omega))
                    have w369 : ∀ k : Nat, k < 1024 → 0 ≤ (σ365 36 k).toInt ∧ (σ365 36 k).toInt ≤ 349 := (jrr_fr (jnp 36 eσ365 (by decide)) w355)
                    have I370 : jI31 σ365 := ⟨(by omega), w368, w369⟩
                    exact ihlp343 x366 σ365 _ _ ls (by have h90 := tx366; omega) (by have h90 := tx366; omega) (by have h90 := tx366; omega) (fun i hi => ((jnp i eσ365 (imp_94 i hi)).trans (f350 i hi))) (fun i hi => ((congrFun (jnp 31 eσ365 (by decide)) i).trans (f351 i hi)))  I370 hP hS (lv_sub hl [0, 1, 2, 3, 4, 5, 6, 7, 8] rfl)
                  · have kc364 := jne c364 rfl jz_0
                    refine lv_aload_n hx hb dX1_grow_170 rfl (lv_at hl 6 rfl) ?_
                    refine lv_iload hx hb dX1_grow_171 (lv_at hl 2 rfl) ?_
                    refine lv_iload hx hb dX1_grow_173 (lv_at hl 0 rfl) ?_
                    refine jcallS (As := [.int x339, .int x345]) (rest := [.ref (ad 31), .int x361, .ref (ad 33)]) ⟨hx, hb, hml, hown, hts⟩ hK hP hA hS hZ (c_X0_after l D cI cL ad zz hJ σ346 τ x339 (x339.toInt) rfl x345 (x345.toInt) rfl) cw_RX1_119 ⟨Nat.le_of_ble_eq_true rfl, Nat.le_of_ble_eq_true rfl⟩ rfl rfl rfl hl.1 rfl (Nat.le_of_ble_eq_true rfl) dX1_grow_175 ⟨Nat.zero_le _, Nat.zero_le _⟩ (fun r372 σ371 τ371 H locs h371 hP hS => ?_)
                    obtain ⟨⟨rfl, rfl⟩, h371⟩ := h371
                    refine lv_iload hx hb dX1_grow_178 (lv_at hl 1 rfl) ?_
                    refine lv_iconst (v := 1) hx hb dX1_grow_180 (by decide) ?_
                    have g373 := jrg (rfl : x342.toInt = x342.toInt)
                    refine lv_iadd hx hb dX1_grow_181 ?_
                    refine lv_topi (fun x374 ex374 => ?_)
                    have gx374 := jrg (rfl : x374.toInt = x374.toInt)
                    refine jcallV (As := [.int r372, .int x374]) (rest := [.int x361, .ref (ad 33)]) ⟨hx, hb, hml, hown, hts⟩ hK hP hA hS hZ (c_X1_add_31 l D cI cL ad zz hJ σ346 τ r372 (r372.toInt) rfl x374 (x374.toInt) rfl p352) cw_RX1_111 (jc_31 cI cL ad σ346 τ) rfl ⟨Nat.le_of_ble_eq_true rfl, Nat.le_of_ble_eq_true rfl⟩ rfl rfl rfl hl.1 rfl (Nat.le_of_ble_eq_true rfl) dX1_grow_182 ⟨Nat.zero_le _, Nat.zero_le _⟩ (fun r376 σ375 τ375 H locs h375 hP hS => ?_)
                    obtain ⟨rfl, f377, f378, I379, h375⟩ := h375
                    obtain ⟨i380, w381, w382⟩ : (0 ≤ (σ375 31 8).toInt ∧ (σ375 31 8).toInt ≤ 350) ∧ (∀ k : Nat, k < 1400 → (-1) ≤ (σ375 33 k).toInt ∧ (σ375 33 k).toInt ≤ 350) ∧ (∀ k : Nat, k < 1024 → 0 ≤ (σ375 36 k).toInt ∧ (σ375 36 k).toInt ≤ 349) := id I379
                    have h383 := h375
                    obtain ⟨q385, k384⟩ := h383
                    refine lv_goto (tgt := 189) hx hb dX1_grow_185 (by decide) ?_
                    refine jast hx hb hK hP hJ hA hS (jc_33 cI cL ad σ375 τ) (ja_33 cI cL ad σ375 τ _ _) (jin tx361 (by omega) (by omega)) dX1_grow_189 (fun σ386 H locs eσ386 hP hS => ?_)
                    obtain ⟨x387, ex387⟩ : ∃ y : Int32, y = x345 + 1 := ⟨_, rfl⟩
                    have tx387 : x387.toInt = x345.toInt + 1 := (jadd ex387 rfl jz_1 (by omega) (by omega)).trans (by omega)
                    refine lv_iinc (v := x387) (lv' := [(8, .int x387), (7, .int x342), (6, .int x339), (5, .int x322), (4, .int 0), (3, .int x8), (0, .ref (ad 31)), (1, .int a1), (2, .int a2)]) hx hb dX1_grow_190 hl (k := 0) rfl (by rw [ex387]; rfl) (by decide) rfl (fun ls hl => ?_)
                    refine lv_goto (tgt := 143) hx hb dX1_grow_193 (by decide) ?_
                    have z388 : (σ386 31 8).toInt = (σ375 31 8).toInt := (congrArg Int32.toInt (show σ386 31 8 = (σ375 31 8) from (congrFun (jnp 31 eσ386 (by decide)) 8)))
                    have w389 : ∀ k : Nat, k < 1400 → (-1) ≤ (σ386 33 k).toInt ∧ (σ386 33 k).toInt ≤ 350 := (by rw [eσ386]; exact jrr_up w381 (by omega) (by omega))
                    have w390 : ∀ k : Nat, k < 1024 → 0 ≤ (σ386 36 k).toInt ∧ (σ386 36 k).toInt ≤ 349 := (jrr_fr (jnp 36 eσ386 (by decide)) w382)
                    have I391 : jI31 σ386 := ⟨(by omega), w389, w390⟩
                    exact ihlp343 x387 σ386 _ _ ls (by have h90 := tx387; omega) (by have h90 := tx387; omega) (by have h90 := tx387; omega) (fun i hi => ((jnp i eσ386 (imp_94 i hi)).trans ((f377 i (imp_86 i hi)).trans (f350 i hi)))) (fun i hi => ((congrFun (jnp 31 eσ386 (by decide)) i).trans ((f378 i hi).trans (f351 i hi))))  I391 hP hS (lv_sub hl [0, 1, 2, 3, 4, 5, 6, 7, 8] rfl)
            exact lp343 1000000 0 σ326 _ _ ls (by have h90 := jz_0; omega) (by have h90 := jz_0; omega) (by have h90 := jz_0; omega) (fun _ _ => rfl) (fun _ _ => rfl)  p332 hP hS hl
      exact lp320 1000000 0 σ309 _ _ ls (by have h90 := jz_0; omega) (by have h90 := jz_0; omega) (by have h90 := jz_0; omega) (fun _ _ => rfl) (fun _ _ => rfl)  I313 hP hS hl
    · have kc299 := jeq c299 rfl t1
      refine lv_aload_n hx hb dX1_grow_40 rfl (lv_at hl 2 rfl) ?_
      refine va_get (D := D) hx hb hts inlX1 hown hK hP 31 (jc_31 cI cL ad σ τ) rfl 11 (by decide) (hts _ kw_28_7) (fun _ h9 => h9) rfl dX1_grow_41 ?_
      refine lv_iload_n hx hb dX1_grow_44 rfl (lv_at hl 1 rfl) ?_
      refine lv_icmp_ne (tgt := 63) hx hb dX1_grow_45 (by decide) (fun c392 => ?_) (fun c392 => ?_)
      · have kc392 := jne c392 rfl rfl
        refine lv_aload_n hx hb dX1_grow_63 rfl (lv_at hl 2 rfl) ?_
        refine lv_iload_n hx hb dX1_grow_64 rfl (lv_at hl 3 rfl) ?_
        refine jput (ty := .int) hx hb hts inlX1 tyX1 tyX1_ok nmX1 hown hK hP hJ hA hS (jc_31 cI cL ad σ τ) rfl (k := 9) (by decide) (Nat.le_of_ble_eq_true rfl) (jp_31_9 cI cL ad σ τ a1) (hts _ kw_5_9) (fun _ h9 => h9) rfl (by decide +kernel) rfl rfl dX1_grow_65 (fun σ393 H locs eσ393 hP hS => ?_)
        refine lv_aload_n hx hb dX1_grow_68 rfl (lv_at hl 2 rfl) ?_
        refine lv_iload_n hx hb dX1_grow_69 rfl (lv_at hl 4 rfl) ?_
        refine jput (ty := .int) hx hb hts inlX1 tyX1 tyX1_ok nmX1 hown hK hP hJ hA hS (jc_31 cI cL ad σ393 τ) rfl (k := 10) (by decide) (Nat.le_of_ble_eq_true rfl) (jp_31_10 cI cL ad σ393 τ a2) (hts _ kw_28_9) (fun _ h9 => h9) rfl (by decide +kernel) rfl rfl dX1_grow_70 (fun σ394 H locs eσ394 hP hS => ?_)
        refine lv_aload_n hx hb dX1_grow_73 rfl (lv_at hl 2 rfl) ?_
        refine lv_iload_n hx hb dX1_grow_74 rfl (lv_at hl 1 rfl) ?_
        refine jput (ty := .int) hx hb hts inlX1 tyX1 tyX1_ok nmX1 hown hK hP hJ hA hS (jc_31 cI cL ad σ394 τ) rfl (k := 11) (by decide) (Nat.le_of_ble_eq_true rfl) (jp_31_11 cI cL ad σ394 τ x8) (hts _ kw_28_7) (fun _ h9 => h9) rfl (by decide +kernel) rfl rfl dX1_grow_75 (fun σ395 H locs eσ395 hP hS => ?_)
        refine lv_aload_n hx hb dX1_grow_78 rfl (lv_at hl 2 rfl) ?_
        refine lv_iload hx hb dX1_grow_79 (lv_at hl 0 rfl) ?_
        refine jput (ty := .boolean) hx hb hts inlX1 tyX1 tyX1_ok nmX1 hown hK hP hJ hA hS (jc_31 cI cL ad σ395 τ) rfl (k := 12) (by decide) (Nat.le_of_ble_eq_true rfl) (jp_31_12 cI cL ad σ395 τ 0) (hts _ kw_28_8) (fun _ h9 => h9) rfl (by decide +kernel) rfl rfl dX1_grow_81 (fun σ396 H locs eσ396 hP hS => ?_)
        refine lv_aload_n hx hb dX1_grow_84 rfl (lv_at hl 2 rfl) ?_
        refine lv_iconst (v := 0) hx hb dX1_grow_85 (by decide) ?_
        refine jput (ty := .int) hx hb hts inlX1 tyX1 tyX1_ok nmX1 hown hK hP hJ hA hS (jc_31 cI cL ad σ396 τ) rfl (k := 8) (by decide) (Nat.le_of_ble_eq_true rfl) (jp_31_8 cI cL ad σ396 τ 0) (hts _ kw_27_22) (fun _ h9 => h9) rfl (by decide +kernel) rfl rfl dX1_grow_86 (fun σ397 H locs eσ397 hP hS => ?_)
        refine lv_aload_n hx hb dX1_grow_89 rfl (lv_at hl 2 rfl) ?_
        refine lv_iload_n hx hb dX1_grow_90 rfl (lv_at hl 3 rfl) ?_
        refine lv_iconst (v := 0) hx hb dX1_grow_91 (by decide) ?_
        have z398 : (σ397 31 8).toInt = 0 := ((congrArg Int32.toInt (show σ397 31 8 = 0 from (jsp eσ397))).trans jz_0)
        have w399 : ∀ k : Nat, k < 1400 → (-1) ≤ (σ397 33 k).toInt ∧ (σ397 33 k).toInt ≤ 350 := (jrr_fr (jnp 33 eσ397 (by decide)) (jrr_fr (jnp 33 eσ396 (by decide)) (jrr_fr (jnp 33 eσ395 (by decide)) (jrr_fr (jnp 33 eσ394 (by decide)) (jrr_fr (jnp 33 eσ393 (by decide)) w2)))))
        have w400 : ∀ k : Nat, k < 1024 → 0 ≤ (σ397 36 k).toInt ∧ (σ397 36 k).toInt ≤ 349 := (jrr_fr (jnp 36 eσ397 (by decide)) (jrr_fr (jnp 36 eσ396 (by decide)) (jrr_fr (jnp 36 eσ395 (by decide)) (jrr_fr (jnp 36 eσ394 (by decide)) (jrr_fr (jnp 36 eσ393 (by decide)) w3)))))
        have I401 : jI31 σ397 := ⟨(by omega), w399, w400⟩
        refine jcallV (As := [.int a1, .int 0]) (rest := []) ⟨hx, hb, hml, hown, hts⟩ hK hP hA hS hZ (c_X1_add_31 l D cI cL ad zz hJ σ397 τ a1 (A1) t1 0 (0) jz_0 I401) cw_RX1_111 (jc_31 cI cL ad σ397 τ) rfl ⟨Nat.le_of_ble_eq_true rfl, Nat.le_of_ble_eq_true rfl⟩ rfl rfl rfl hl.1 rfl (Nat.le_of_ble_eq_true rfl) dX1_grow_92 ⟨Nat.zero_le _, Nat.zero_le _⟩ (fun r403 σ402 τ402 H locs h402 hP hS => ?_)
        obtain ⟨rfl, f404, f405, I406, h402⟩ := h402
        obtain ⟨i407, w408, w409⟩ : (0 ≤ (σ402 31 8).toInt ∧ (σ402 31 8).toInt ≤ 350) ∧ (∀ k : Nat, k < 1400 → (-1) ≤ (σ402 33 k).toInt ∧ (σ402 33 k).toInt ≤ 350) ∧ (∀ k : Nat, k < 1024 → 0 ≤ (σ402 36 k).toInt ∧ (σ402 36 k).toInt ≤ 349) := id I406
        have h410 := h402
        obtain ⟨q412, k411⟩ := h410
        refine lv_pop hx hb dX1_grow_95 rfl ?_
        refine lv_iconst (v := 0) hx hb dX1_grow_96 (by decide) ?_
        refine lv_istore (lv' := [(5, .int 0), (4, .int 0), (3, .int x8), (0, .ref (ad 31)), (1, .int a1), (2, .int a2)]) hx hb dX1_grow_97 hl (by decide) rfl (fun ls hl => ?_)
        have lp413 : ∀ (n414 : Nat) (x415 : Int32) (σ419 : Nat → Nat → Int32) (H : Heap) (locs : List Loc) (ls : Array Slot), (-x415.toInt + 350 : Int) < n414 → 0 ≤ x415.toInt → x415.toInt ≤ 350 → (∀ i : Nat, (i < 31 ∨ 33 < i) ∧ (i < 36 ∨ 37 < i) → σ419 i = σ402 i) → (∀ k : Nat, (k < 8 ∨ 8 < k) → σ419 31 k = σ402 31 k) → jI31 σ419 → jH D cI cL ad σ419 τ H → va_S (jA ad) s.heap H locs → lv_has ls 9 [(5, .int x415), (4, .int 0), (3, .int x8), (0, .ref (ad 31)), (1, .int a1), (2, .int a2)] → W p l e ({ frames := 3, cells := 0, slots := 0, locals := 73 }) s m args below meth c H locs 0 0 Q (F0 m 99 ls []) := by
          intro n414
          induction n414 with
          | zero => intro x415 σ419 H locs ls h420 h421 h422; exact absurd h420 (by omega)
          | succ n414 ihlp413 =>
            intro x415 σ419 H locs ls h420 h421 h422 f423 f424 p425 hP hS hl
            obtain ⟨i426, w427, w428⟩ : (0 ≤ (σ419 31 8).toInt ∧ (σ419 31 8).toInt ≤ 350) ∧ (∀ k : Nat, k < 1400 → (-1) ≤ (σ419 33 k).toInt ∧ (σ419 33 k).toInt ≤ 350) ∧ (∀ k : Nat, k < 1024 → 0 ≤ (σ419 36 k).toInt ∧ (σ419 36 k).toInt ≤ 349) := id p425
            refine lv_iload hx hb dX1_grow_99 (lv_at hl 0 rfl) ?_
            refine lv_aload_n hx hb dX1_grow_101 rfl (lv_at hl 3 rfl) ?_
            refine va_get (D := D) hx hb hts inlX1 hown hK hP 31 (jc_31 cI cL ad σ419 τ) rfl 8 (by decide) (hts _ kw_27_22) (fun _ h9 => h9) rfl dX1_grow_102 ?_
            refine lv_icmp_ge (tgt := 202) hx hb dX1_grow_105 (by decide) (fun c429 => ?_) (fun c429 => ?_)
            · have kc429 := jle c429 rfl rfl
              exact hret σ419 τ _ _ _ _ ⟨rfl, (fun i hi => ((f423 i hi).trans ((f404 i (imp_86 i hi)).trans ((jnp i eσ397 (imp_87 i hi)).trans ((jnp i eσ396 (imp_87 i hi)).trans ((jnp i eσ395 (imp_87 i hi)).trans ((jnp i eσ394 (imp_87 i hi)).trans (jnp i eσ393 (imp_87 i hi))))))))), (fun i hi => ((f424 i (imp_88 i hi)).trans ((f405 i (imp_88 i hi)).trans ((jkp i eσ397 (imp_89 i hi)).trans ((jkp i eσ396 (imp_90 i hi)).trans ((jkp i eσ395 (imp_91 i hi)).trans ((jkp i eσ394 (imp_92 i hi)).trans (jkp i eσ393 (imp_93 i hi))))))))), p425, trivial⟩ hP hS dX1_grow_202
            · have kc429 := jnle c429 rfl rfl
              refine lv_iload hx hb dX1_grow_108 (lv_at hl 0 rfl) ?_
              refine lv_sipush (v := 350) hx hb dX1_grow_110 (by decide) ?_
              refine lv_icmp_ge (tgt := 202) hx hb dX1_grow_113 (by decide) (fun c => absurd (jle c jz_350 rfl) (by omega)) (fun c430 => ?_)
              have kc430 := jnle c430 jz_350 rfl
              refine lv_aload_n hx hb dX1_grow_116 rfl (lv_at hl 3 rfl) ?_
              refine va_get (D := D) hx hb hts inlX1 hown hK hP 31 (jc_31 cI cL ad σ419 τ) rfl 2 (by decide) (hts _ kw_5_3) (fun _ h9 => h9) rfl dX1_grow_117 ?_
              refine lv_iload hx hb dX1_grow_120 (lv_at hl 0 rfl) ?_
              refine jald hx hb hK hP (jc_32 cI cL ad σ419 τ) (jin rfl (by omega) (by omega)) dX1_grow_122 ?_
              refine lv_topi (fun x431 ex431 => ?_)
              refine lv_ldc (v := 134217727) hx hb hown (hts _ kw_28_10) dX1_grow_123 ?_
              refine lv_iand hx hb dX1_grow_125 ?_
              refine lv_topi (fun x432 ex432 => ?_)
              have gx432 := jrg (rfl : x432.toInt = x432.toInt)
              have g433 : 0 ≤ x432.toInt ∧ x432.toInt ≤ 134217727 := jmask ex432 27 (by decide) (by decide)
              refine lv_istore (lv' := [(6, .int x432), (5, .int x415), (4, .int 0), (3, .int x8), (0, .ref (ad 31)), (1, .int a1), (2, .int a2)]) hx hb dX1_grow_126 hl (by decide) rfl (fun ls hl => ?_)
              refine lv_aload_n hx hb dX1_grow_128 rfl (lv_at hl 4 rfl) ?_
              refine va_get (D := D) hx hb hts inlX1 hown hK hP 31 (jc_31 cI cL ad σ419 τ) rfl 2 (by decide) (hts _ kw_5_3) (fun _ h9 => h9) rfl dX1_grow_129 ?_
              refine lv_iload hx hb dX1_grow_132 (lv_at hl 1 rfl) ?_
              refine jald hx hb hK hP (jc_32 cI cL ad σ419 τ) (jin rfl (by omega) (by omega)) dX1_grow_134 ?_
              refine lv_topi (fun x434 ex434 => ?_)
              refine lv_bipush (v := 27) hx hb dX1_grow_135 (by decide) ?_
              refine lv_ishr hx hb dX1_grow_137 ?_
              refine lv_topi (fun x435 ex435 => ?_)
              have gx435 := jrg (rfl : x435.toInt = x435.toInt)
              refine lv_istore (lv' := [(7, .int x435), (6, .int x432), (5, .int x415), (4, .int 0), (3, .int x8), (0, .ref (ad 31)), (1, .int a1), (2, .int a2)]) hx hb dX1_grow_138 hl (by decide) rfl (fun ls hl => ?_)
              refine lv_iconst (v := 0) hx hb dX1_grow_140 (by decide) ?_
              refine lv_istore (lv' := [(8, .int 0), (7, .int x435), (6, .int x432), (5, .int x415), (4, .int 0), (3, .int x8), (0, .ref (ad 31)), (1, .int a1), (2, .int a2)]) hx hb dX1_grow_141 hl (by decide) rfl (fun ls hl => ?_)
              have lp436 : ∀ (n437 : Nat) (x438 : Int32) (σ439 : Nat → Nat → Int32) (H : Heap) (locs : List Loc) (ls : Array Slot), (-x438.toInt + 4 : Int) < n437 → 0 ≤ x438.toInt → x438.toInt ≤ 4 → (∀ i : Nat, (i < 31 ∨ 33 < i) ∧ (i < 36 ∨ 37 < i) → σ439 i = σ419 i) → (∀ k : Nat, (k < 8 ∨ 8 < k) → σ439 31 k = σ419 31 k) → jI31 σ439 → jH D cI cL ad σ439 τ H → va_S (jA ad) s.heap H locs → lv_has ls 9 [(8, .int x438), (7, .int x435), (6, .int x432), (5, .int x415), (4, .int 0), (3, .int x8), (0, .ref (ad 31)), (1, .int a1), (2, .int a2)] → W p l e ({ frames := 3, cells := 0, slots := 0, locals := 73 }) s m args below meth c H locs 0 0 Q (F0 m 143 ls []) := by
                intro n437
                induction n437 with
                | zero => intro x438 σ439 H locs ls h440 h441 h442; exact absurd h440 (by omega)
                | succ n437 ihlp436 =>
                  intro x438 σ439 H locs ls h440 h441 h442 f443 f444 p445 hP hS hl
                  obtain ⟨i446, w447, w448⟩ : (0 ≤ (σ439 31 8).toInt ∧ (σ439 31 8).toInt ≤ 350) ∧ (∀ k : Nat, k < 1400 → (-1) ≤ (σ439 33 k).toInt ∧ (σ439 33 k).toInt ≤ 350) ∧ (∀ k : Nat, k < 1024 → 0 ≤ (σ439 36 k).toInt ∧ (σ439 36 k).toInt ≤ 349) := id p445
                  refine lv_iload hx hb dX1_grow_143 (lv_at hl 0 rfl) ?_
                  refine lv_iconst (v := 4) hx hb dX1_grow_145 (by decide) ?_
                  refine lv_icmp_ge (tgt := 196) hx hb dX1_grow_146 (by decide) (fun c449 => ?_) (fun c449 => ?_)
                  · have kc449 := jle c449 jz_4 rfl
                    obtain ⟨x450, ex450⟩ : ∃ y : Int32, y = x415 + 1 := ⟨_, rfl⟩
                    have tx450 : x450.toInt = x415.toInt + 1 := (jadd ex450 rfl jz_1 (by omega) (by omega)).trans (by omega)
                    refine lv_iinc (v := x450) (lv' := [(5, .int x450), (8, .int x438), (7, .int x435), (6, .int x432), (4, .int 0), (3, .int x8), (0, .ref (ad 31)), (1, .int a1), (2, .int a2)]) hx hb dX1_grow_196 hl (k := 3) rfl (by rw [ex450]; rfl) (by decide) rfl (fun ls hl => ?_)
                    refine lv_goto (tgt := 99) hx hb dX1_grow_199 (by decide) ?_
                    exact ihlp413 x450 σ439 _ _ ls (by have h90 := tx450; omega) (by have h90 := tx450; omega) (by have h90 := tx450; omega) (fun i hi => ((f443 i hi).trans (f423 i hi))) (fun i hi => ((f444 i hi).trans (f424 i hi)))  p445 hP hS (lv_sub hl [0, 4, 5, 6, 7, 8] rfl)
                  · have kc449 := jnle c449 jz_4 rfl
                    refine lv_aload_n hx hb dX1_grow_149 rfl (lv_at hl 6 rfl) ?_
                    refine va_get (D := D) hx hb hts inlX1 hown hK hP 31 (jc_31 cI cL ad σ439 τ) rfl 3 (by decide) (hts _ kw_5_4) (fun _ h9 => h9) rfl dX1_grow_150 ?_
                    refine lv_iload hx hb dX1_grow_153 (lv_at hl 3 rfl) ?_
                    refine lv_iconst (v := 4) hx hb dX1_grow_155 (by decide) ?_
                    have g451 := jrg (rfl : x415.toInt = x415.toInt)
                    refine lv_imul hx hb dX1_grow_156 ?_
                    refine lv_topi (fun x452 ex452 => ?_)
                    have tx452 : x452.toInt = 4 * x415.toInt := (jmul ex452 rfl jz_4 (by omega) (by omega)).trans (by omega)
                    refine lv_iload hx hb dX1_grow_157 (lv_at hl 0 rfl) ?_
                    have g453 := jrg (rfl : x438.toInt = x438.toInt)
                    refine lv_iadd hx hb dX1_grow_159 ?_
                    refine lv_topi (fun x454 ex454 => ?_)
                    have tx454 : x454.toInt = 4 * x415.toInt + x438.toInt := (jadd ex454 tx452 rfl (by omega) (by omega)).trans (by omega)
                    refine lv_iload hx hb dX1_grow_160 (lv_at hl 2 rfl) ?_
                    refine lv_iload hx hb dX1_grow_162 (lv_at hl 0 rfl) ?_
                    refine jcallS (As := [.int x432, .int x438]) (rest := [.int x454, .ref (ad 33)]) ⟨hx, hb, hml, hown, hts⟩ hK hP hA hS hZ (c_X0_mayBowl l D cI cL ad zz hJ σ439 τ x432 (x432.toInt) rfl x438 (x438.toInt) rfl) cw_RX1_115 ⟨Nat.le_of_ble_eq_true rfl, Nat.le_of_ble_eq_true rfl⟩ rfl rfl rfl hl.1 rfl (Nat.le_of_ble_eq_true rfl) dX1_grow_164 ⟨Nat.zero_le _, Nat.zero_le _⟩ (fun r456 σ455 τ455 H locs h455 hP hS => ?_)
                    obtain ⟨⟨rfl, rfl⟩, h455⟩ := h455
                    refine lv_if_eq (tgt := 188) hx hb dX1_grow_167 (by decide) (fun c457 => ?_) (fun c457 => ?_)
                    · have kc457 := jeq c457 rfl jz_0
                      refine lv_iconst (v := (-1)) hx hb dX1_grow_188 (by decide) ?_
                      refine jast hx hb hK hP hJ hA hS (jc_33 cI cL ad σ439 τ) (ja_33 cI cL ad σ439 τ _ _) (jin tx454 (by omega) (by omega)) dX1_grow_189 (fun σ458 H locs eσ458 hP hS => ?_)
                      obtain ⟨x459, ex459⟩ : ∃ y : Int32, y = x438 + 1 := ⟨_, rfl⟩
                      have tx459 : x459.toInt = x438.toInt + 1 := (jadd ex459 rfl jz_1 (by omega) (by omega)).trans (by omega)
                      refine lv_iinc (v := x459) (lv' := [(8, .int x459), (7, .int x435), (6, .int x432), (5, .int x415), (4, .int 0), (3, .int x8), (0, .ref (ad 31)), (1, .int a1), (2, .int a2)]) hx hb dX1_grow_190 hl (k := 0) rfl (by rw [ex459]; rfl) (by decide) rfl (fun ls hl => ?_)
                      refine lv_goto (tgt := 143) hx hb dX1_grow_193 (by decide) ?_
                      have z460 : (σ458 31 8).toInt = (σ439 31 8).toInt := (congrArg Int32.toInt (show σ458 31 8 = (σ439 31 8) from (congrFun (jnp 31 eσ458 (by decide)) 8)))
                      have w461 : ∀ k : Nat, k < 1400 → (-1) ≤ (σ458 33 k).toInt ∧ (σ458 33 k).toInt ≤ 350 := (by rw [eσ458]; exact jrr_up w447 (by have h9 := jz_m1; omega) (by have h9 := jz_m1; omega))
                      have w462 : ∀ k : Nat, k < 1024 → 0 ≤ (σ458 36 k).toInt ∧ (σ458 36 k).toInt ≤ 349 := (jrr_fr (jnp 36 eσ458 (by decide)) w448)
                      have I463 : jI31 σ458 := ⟨(by omega), w461, w462⟩
                      exact ihlp436 x459 σ458 _ _ ls (by have h90 := tx459; omega) (by have h90 := tx459; omega) (by have h90 := tx459; omega) (fun i hi => ((jnp i eσ458 (imp_94 i hi)).trans (f443 i hi))) (fun i hi => ((congrFun (jnp 31 eσ458 (by decide)) i).trans (f444 i hi)))  I463 hP hS (lv_sub hl [0, 1, 2, 3, 4, 5, 6, 7, 8] rfl)
                    · have kc457 := jne c457 rfl jz_0
                      refine lv_aload_n hx hb dX1_grow_170 rfl (lv_at hl 6 rfl) ?_
                      refine lv_iload hx hb dX1_grow_171 (lv_at hl 2 rfl) ?_
                      refine lv_iload hx hb dX1_grow_173 (lv_at hl 0 rfl) ?_
                      refine jcallS (As := [.int x432, .int x438]) (rest := [.ref (ad 31), .int x454, .ref (ad 33)]) ⟨hx, hb, hml, hown, hts⟩ hK hP hA hS hZ (c_X0_after l D cI cL ad zz hJ σ439 τ x432 (x432.toInt) rfl x438 (x438.toInt) rfl) cw_RX1_119 ⟨Nat.le_of_ble_eq_true rfl, Nat.le_of_ble_eq_true rfl⟩ rfl rfl rfl hl.1 rfl (Nat.le_of_ble_eq_true rfl) dX1_grow_175 ⟨Nat.zero_le _, Nat.zero_le _⟩ (fun r465 σ464 τ464 H locs h464 hP hS => ?_)
                      obtain ⟨⟨rfl, rfl⟩, h464⟩ := h464
                      refine lv_iload hx hb dX1_grow_178 (lv_at hl 1 rfl) ?_
                      refine lv_iconst (v := 1) hx hb dX1_grow_180 (by decide) ?_
                      have g466 := jrg (rfl : x435.toInt = x435.toInt)
                      refine lv_iadd hx hb dX1_grow_181 ?_
                      refine lv_topi (fun x467 ex467 => ?_)
                      have gx467 := jrg (rfl : x467.toInt = x467.toInt)
                      refine jcallV (As := [.int r465, .int x467]) (rest := [.int x454, .ref (ad 33)]) ⟨hx, hb, hml, hown, hts⟩ hK hP hA hS hZ (c_X1_add_31 l D cI cL ad zz hJ σ439 τ r465 (r465.toInt) rfl x467 (x467.toInt) rfl p445) cw_RX1_111 (jc_31 cI cL ad σ439 τ) rfl ⟨Nat.le_of_ble_eq_true rfl, Nat.le_of_ble_eq_true rfl⟩ rfl rfl rfl hl.1 rfl (Nat.le_of_ble_eq_true rfl) dX1_grow_182 ⟨Nat.zero_le _, Nat.zero_le _⟩ (fun r469 σ468 τ468 H locs h468 hP hS => ?_)
                      obtain ⟨rfl, f470, f471, I472, h468⟩ := h468
                      obtain ⟨i473, w474, w475⟩ : (0 ≤ (σ468 31 8).toInt ∧ (σ468 31 8).toInt ≤ 350) ∧ (∀ k : Nat, k < 1400 → (-1) ≤ (σ468 33 k).toInt ∧ (σ468 33 k).toInt ≤ 350) ∧ (∀ k : Nat, k < 1024 → 0 ≤ (σ468 36 k).toInt ∧ (σ468 36 k).toInt ≤ 349) := id I472
                      have h476 := h468
                      obtain ⟨q478, k477⟩ := h476
                      refine lv_goto (tgt := 189) hx hb dX1_grow_185 (by decide) ?_
                      refine jast hx hb hK hP hJ hA hS (jc_33 cI cL ad σ468 τ) (ja_33 cI cL ad σ468 τ _ _) (jin tx454 (by omega) (by omega)) dX1_grow_189 (fun σ479 H locs eσ479 hP hS => ?_)
                      obtain ⟨x480, ex480⟩ : ∃ y : Int32, y = x438 + 1 := ⟨_, rfl⟩
                      have tx480 : x480.toInt = x438.toInt + 1 := (jadd ex480 rfl jz_1 (by omega) (by omega)).trans (by omega)
                      refine lv_iinc (v := x480) (lv' := [(8, .int x480), (7, .int x435), (6, .int x432), (5, .int x415), (4, .int 0), (3, .int x8), (0, .ref (ad 31)), (1, .int a1), (2, .int a2)]) hx hb dX1_grow_190 hl (k := 0) rfl (by rw [ex480]; rfl) (by decide) rfl (fun ls hl => ?_)
                      refine lv_goto (tgt := 143) hx hb dX1_grow_193 (by decide) ?_
                      have z481 : (σ479 31 8).toInt = (σ468 31 8).toInt := (congrArg Int32.toInt (show σ479 31 8 = (σ468 31 8) from (congrFun (jnp 31 eσ479 (by decide)) 8)))
                      have w482 : ∀ k : Nat, k < 1400 → (-1) ≤ (σ479 33 k).toInt ∧ (σ479 33 k).toInt ≤ 350 := (by rw [eσ479]; exact jrr_up w474 (by omega) (by omega))
                      have w483 : ∀ k : Nat, k < 1024 → 0 ≤ (σ479 36 k).toInt ∧ (σ479 36 k).toInt ≤ 349 := (jrr_fr (jnp 36 eσ479 (by decide)) w475)
                      have I484 : jI31 σ479 := ⟨(by omega), w482, w483⟩
                      exact ihlp436 x480 σ479 _ _ ls (by have h90 := tx480; omega) (by have h90 := tx480; omega) (by have h90 := tx480; omega) (fun i hi => ((jnp i eσ479 (imp_94 i hi)).trans ((f470 i (imp_86 i hi)).trans (f443 i hi)))) (fun i hi => ((congrFun (jnp 31 eσ479 (by decide)) i).trans ((f471 i hi).trans (f444 i hi))))  I484 hP hS (lv_sub hl [0, 1, 2, 3, 4, 5, 6, 7, 8] rfl)
              exact lp436 1000000 0 σ419 _ _ ls (by have h90 := jz_0; omega) (by have h90 := jz_0; omega) (by have h90 := jz_0; omega) (fun _ _ => rfl) (fun _ _ => rfl)  p425 hP hS hl
        exact lp413 1000000 0 σ402 _ _ ls (by have h90 := jz_0; omega) (by have h90 := jz_0; omega) (by have h90 := jz_0; omega) (fun _ _ => rfl) (fun _ _ => rfl)  I406 hP hS hl
      · have kc392 := jeq c392 rfl rfl
        refine lv_aload_n hx hb dX1_grow_48 rfl (lv_at hl 2 rfl) ?_
        refine va_get (D := D) hx hb hts inlX1 hown hK hP 31 (jc_31 cI cL ad σ τ) rfl 12 (by decide) (hts _ kw_28_8) (fun _ h9 => h9) rfl dX1_grow_49 ?_
        refine lv_iload hx hb dX1_grow_52 (lv_at hl 0 rfl) ?_
        refine lv_icmp_ne (tgt := 63) hx hb dX1_grow_54 (by decide) (fun c485 => ?_) (fun c485 => ?_)
        · have kc485 := jne c485 rfl jz_0
          refine lv_aload_n hx hb dX1_grow_63 rfl (lv_at hl 2 rfl) ?_
          refine lv_iload_n hx hb dX1_grow_64 rfl (lv_at hl 3 rfl) ?_
          refine jput (ty := .int) hx hb hts inlX1 tyX1 tyX1_ok nmX1 hown hK hP hJ hA hS (jc_31 cI cL ad σ τ) rfl (k := 9) (by decide) (Nat.le_of_ble_eq_true rfl) (jp_31_9 cI cL ad σ τ a1) (hts _ kw_5_9) (fun _ h9 => h9) rfl (by decide +kernel) rfl rfl dX1_grow_65 (fun σ486 H locs eσ486 hP hS => ?_)
          refine lv_aload_n hx hb dX1_grow_68 rfl (lv_at hl 2 rfl) ?_
          refine lv_iload_n hx hb dX1_grow_69 rfl (lv_at hl 4 rfl) ?_
          refine jput (ty := .int) hx hb hts inlX1 tyX1 tyX1_ok nmX1 hown hK hP hJ hA hS (jc_31 cI cL ad σ486 τ) rfl (k := 10) (by decide) (Nat.le_of_ble_eq_true rfl) (jp_31_10 cI cL ad σ486 τ a2) (hts _ kw_28_9) (fun _ h9 => h9) rfl (by decide +kernel) rfl rfl dX1_grow_70 (fun σ487 H locs eσ487 hP hS => ?_)
          refine lv_aload_n hx hb dX1_grow_73 rfl (lv_at hl 2 rfl) ?_
          refine lv_iload_n hx hb dX1_grow_74 rfl (lv_at hl 1 rfl) ?_
          refine jput (ty := .int) hx hb hts inlX1 tyX1 tyX1_ok nmX1 hown hK hP hJ hA hS (jc_31 cI cL ad σ487 τ) rfl (k := 11) (by decide) (Nat.le_of_ble_eq_true rfl) (jp_31_11 cI cL ad σ487 τ x8) (hts _ kw_28_7) (fun _ h9 => h9) rfl (by decide +kernel) rfl rfl dX1_grow_75 (fun σ488 H locs eσ488 hP hS => ?_)
          refine lv_aload_n hx hb dX1_grow_78 rfl (lv_at hl 2 rfl) ?_
          refine lv_iload hx hb dX1_grow_79 (lv_at hl 0 rfl) ?_
          refine jput (ty := .boolean) hx hb hts inlX1 tyX1 tyX1_ok nmX1 hown hK hP hJ hA hS (jc_31 cI cL ad σ488 τ) rfl (k := 12) (by decide) (Nat.le_of_ble_eq_true rfl) (jp_31_12 cI cL ad σ488 τ 0) (hts _ kw_28_8) (fun _ h9 => h9) rfl (by decide +kernel) rfl rfl dX1_grow_81 (fun σ489 H locs eσ489 hP hS => ?_)
          refine lv_aload_n hx hb dX1_grow_84 rfl (lv_at hl 2 rfl) ?_
          refine lv_iconst (v := 0) hx hb dX1_grow_85 (by decide) ?_
          refine jput (ty := .int) hx hb hts inlX1 tyX1 tyX1_ok nmX1 hown hK hP hJ hA hS (jc_31 cI cL ad σ489 τ) rfl (k := 8) (by decide) (Nat.le_of_ble_eq_true rfl) (jp_31_8 cI cL ad σ489 τ 0) (hts _ kw_27_22) (fun _ h9 => h9) rfl (by decide +kernel) rfl rfl dX1_grow_86 (fun σ490 H locs eσ490 hP hS => ?_)
          refine lv_aload_n hx hb dX1_grow_89 rfl (lv_at hl 2 rfl) ?_
          refine lv_iload_n hx hb dX1_grow_90 rfl (lv_at hl 3 rfl) ?_
          refine lv_iconst (v := 0) hx hb dX1_grow_91 (by decide) ?_
          have z491 : (σ490 31 8).toInt = 0 := ((congrArg Int32.toInt (show σ490 31 8 = 0 from (jsp eσ490))).trans jz_0)
          have w492 : ∀ k : Nat, k < 1400 → (-1) ≤ (σ490 33 k).toInt ∧ (σ490 33 k).toInt ≤ 350 := (jrr_fr (jnp 33 eσ490 (by decide)) (jrr_fr (jnp 33 eσ489 (by decide)) (jrr_fr (jnp 33 eσ488 (by decide)) (jrr_fr (jnp 33 eσ487 (by decide)) (jrr_fr (jnp 33 eσ486 (by decide)) w2)))))
          have w493 : ∀ k : Nat, k < 1024 → 0 ≤ (σ490 36 k).toInt ∧ (σ490 36 k).toInt ≤ 349 := (jrr_fr (jnp 36 eσ490 (by decide)) (jrr_fr (jnp 36 eσ489 (by decide)) (jrr_fr (jnp 36 eσ488 (by decide)) (jrr_fr (jnp 36 eσ487 (by decide)) (jrr_fr (jnp 36 eσ486 (by decide)) w3)))))
          have I494 : jI31 σ490 := ⟨(by omega), w492, w493⟩
          refine jcallV (As := [.int a1, .int 0]) (rest := []) ⟨hx, hb, hml, hown, hts⟩ hK hP hA hS hZ (c_X1_add_31 l D cI cL ad zz hJ σ490 τ a1 (A1) t1 0 (0) jz_0 I494) cw_RX1_111 (jc_31 cI cL ad σ490 τ) rfl ⟨Nat.le_of_ble_eq_true rfl, Nat.le_of_ble_eq_true rfl⟩ rfl rfl rfl hl.1 rfl (Nat.le_of_ble_eq_true rfl) dX1_grow_92 ⟨Nat.zero_le _, Nat.zero_le _⟩ (fun r496 σ495 τ495 H locs h495 hP hS => ?_)
          obtain ⟨rfl, f497, f498, I499, h495⟩ := h495
          obtain ⟨i500, w501, w502⟩ : (0 ≤ (σ495 31 8).toInt ∧ (σ495 31 8).toInt ≤ 350) ∧ (∀ k : Nat, k < 1400 → (-1) ≤ (σ495 33 k).toInt ∧ (σ495 33 k).toInt ≤ 350) ∧ (∀ k : Nat, k < 1024 → 0 ≤ (σ495 36 k).toInt ∧ (σ495 36 k).toInt ≤ 349) := id I499
          have h503 := h495
          obtain ⟨q505, k504⟩ := h503
          refine lv_pop hx hb dX1_grow_95 rfl ?_
          refine lv_iconst (v := 0) hx hb dX1_grow_96 (by decide) ?_
          refine lv_istore (lv' := [(5, .int 0), (4, .int 0), (3, .int x8), (0, .ref (ad 31)), (1, .int a1), (2, .int a2)]) hx hb dX1_grow_97 hl (by decide) rfl (fun ls hl => ?_)
          have lp506 : ∀ (n507 : Nat) (x508 : Int32) (σ512 : Nat → Nat → Int32) (H : Heap) (locs : List Loc) (ls : Array Slot), (-x508.toInt + 350 : Int) < n507 → 0 ≤ x508.toInt → x508.toInt ≤ 350 → (∀ i : Nat, (i < 31 ∨ 33 < i) ∧ (i < 36 ∨ 37 < i) → σ512 i = σ495 i) → (∀ k : Nat, (k < 8 ∨ 8 < k) → σ512 31 k = σ495 31 k) → jI31 σ512 → jH D cI cL ad σ512 τ H → va_S (jA ad) s.heap H locs → lv_has ls 9 [(5, .int x508), (4, .int 0), (3, .int x8), (0, .ref (ad 31)), (1, .int a1), (2, .int a2)] → W p l e ({ frames := 3, cells := 0, slots := 0, locals := 73 }) s m args below meth c H locs 0 0 Q (F0 m 99 ls []) := by
            intro n507
            induction n507 with
            | zero => intro x508 σ512 H locs ls h513 h514 h515; exact absurd h513 (by omega)
            | succ n507 ihlp506 =>
              intro x508 σ512 H locs ls h513 h514 h515 f516 f517 p518 hP hS hl
              obtain ⟨i519, w520, w521⟩ : (0 ≤ (σ512 31 8).toInt ∧ (σ512 31 8).toInt ≤ 350) ∧ (∀ k : Nat, k < 1400 → (-1) ≤ (σ512 33 k).toInt ∧ (σ512 33 k).toInt ≤ 350) ∧ (∀ k : Nat, k < 1024 → 0 ≤ (σ512 36 k).toInt ∧ (σ512 36 k).toInt ≤ 349) := id p518
              refine lv_iload hx hb dX1_grow_99 (lv_at hl 0 rfl) ?_
              refine lv_aload_n hx hb dX1_grow_101 rfl (lv_at hl 3 rfl) ?_
              refine va_get (D := D) hx hb hts inlX1 hown hK hP 31 (jc_31 cI cL ad σ512 τ) rfl 8 (by decide) (hts _ kw_27_22) (fun _ h9 => h9) rfl dX1_grow_102 ?_
              refine lv_icmp_ge (tgt := 202) hx hb dX1_grow_105 (by decide) (fun c522 => ?_) (fun c522 => ?_)
              · have kc522 := jle c522 rfl rfl
                exact hret σ512 τ _ _ _ _ ⟨rfl, (fun i hi => ((f516 i hi).trans ((f497 i (imp_86 i hi)).trans ((jnp i eσ490 (imp_87 i hi)).trans ((jnp i eσ489 (imp_87 i hi)).trans ((jnp i eσ488 (imp_87 i hi)).trans ((jnp i eσ487 (imp_87 i hi)).trans (jnp i eσ486 (imp_87 i hi))))))))), (fun i hi => ((f517 i (imp_88 i hi)).trans ((f498 i (imp_88 i hi)).trans ((jkp i eσ490 (imp_89 i hi)).trans ((jkp i eσ489 (imp_90 i hi)).trans ((jkp i eσ488 (imp_91 i hi)).trans ((jkp i eσ487 (imp_92 i hi)).trans (jkp i eσ486 (imp_93 i hi))))))))), p518, trivial⟩ hP hS dX1_grow_202
              · have kc522 := jnle c522 rfl rfl
                refine lv_iload hx hb dX1_grow_108 (lv_at hl 0 rfl) ?_
                refine lv_sipush (v := 350) hx hb dX1_grow_110 (by decide) ?_
                refine lv_icmp_ge (tgt := 202) hx hb dX1_grow_113 (by decide) (fun c => absurd (jle c jz_350 rfl) (by omega)) (fun c523 => ?_)
                have kc523 := jnle c523 jz_350 rfl
                refine lv_aload_n hx hb dX1_grow_116 rfl (lv_at hl 3 rfl) ?_
                refine va_get (D := D) hx hb hts inlX1 hown hK hP 31 (jc_31 cI cL ad σ512 τ) rfl 2 (by decide) (hts _ kw_5_3) (fun _ h9 => h9) rfl dX1_grow_117 ?_
                refine lv_iload hx hb dX1_grow_120 (lv_at hl 0 rfl) ?_
                refine jald hx hb hK hP (jc_32 cI cL ad σ512 τ) (jin rfl (by omega) (by omega)) dX1_grow_122 ?_
                refine lv_topi (fun x524 ex524 => ?_)
                refine lv_ldc (v := 134217727) hx hb hown (hts _ kw_28_10) dX1_grow_123 ?_
                refine lv_iand hx hb dX1_grow_125 ?_
                refine lv_topi (fun x525 ex525 => ?_)
                have gx525 := jrg (rfl : x525.toInt = x525.toInt)
                have g526 : 0 ≤ x525.toInt ∧ x525.toInt ≤ 134217727 := jmask ex525 27 (by decide) (by decide)
                refine lv_istore (lv' := [(6, .int x525), (5, .int x508), (4, .int 0), (3, .int x8), (0, .ref (ad 31)), (1, .int a1), (2, .int a2)]) hx hb dX1_grow_126 hl (by decide) rfl (fun ls hl => ?_)
                refine lv_aload_n hx hb dX1_grow_128 rfl (lv_at hl 4 rfl) ?_
                refine va_get (D := D) hx hb hts inlX1 hown hK hP 31 (jc_31 cI cL ad σ512 τ) rfl 2 (by decide) (hts _ kw_5_3) (fun _ h9 => h9) rfl dX1_grow_129 ?_
                refine lv_iload hx hb dX1_grow_132 (lv_at hl 1 rfl) ?_
                refine jald hx hb hK hP (jc_32 cI cL ad σ512 τ) (jin rfl (by omega) (by omega)) dX1_grow_134 ?_
                refine lv_topi (fun x527 ex527 => ?_)
                refine lv_bipush (v := 27) hx hb dX1_grow_135 (by decide) ?_
                refine lv_ishr hx hb dX1_grow_137 ?_
                refine lv_topi (fun x528 ex528 => ?_)
                have gx528 := jrg (rfl : x528.toInt = x528.toInt)
                refine lv_istore (lv' := [(7, .int x528), (6, .int x525), (5, .int x508), (4, .int 0), (3, .int x8), (0, .ref (ad 31)), (1, .int a1), (2, .int a2)]) hx hb dX1_grow_138 hl (by decide) rfl (fun ls hl => ?_)
                refine lv_iconst (v := 0) hx hb dX1_grow_140 (by decide) ?_
                refine lv_istore (lv' := [(8, .int 0), (7, .int x528), (6, .int x525), (5, .int x508), (4, .int 0), (3, .int x8), (0, .ref (ad 31)), (1, .int a1), (2, .int a2)]) hx hb dX1_grow_141 hl (by decide) rfl (fun ls hl => ?_)
                have lp529 : ∀ (n530 : Nat) (x531 : Int32) (σ532 : Nat → Nat → Int32) (H : Heap) (locs : List Loc) (ls : Array Slot), (-x531.toInt + 4 : Int) < n530 → 0 ≤ x531.toInt → x531.toInt ≤ 4 → (∀ i : Nat, (i < 31 ∨ 33 < i) ∧ (i < 36 ∨ 37 < i) → σ532 i = σ512 i) → (∀ k : Nat, (k < 8 ∨ 8 < k) → σ532 31 k = σ512 31 k) → jI31 σ532 → jH D cI cL ad σ532 τ H → va_S (jA ad) s.heap H locs → lv_has ls 9 [(8, .int x531), (7, .int x528), (6, .int x525), (5, .int x508), (4, .int 0), (3, .int x8), (0, .ref (ad 31)), (1, .int a1), (2, .int a2)] → W p l e ({ frames := 3, cells := 0, slots := 0, locals := 73 }) s m args below meth c H locs 0 0 Q (F0 m 143 ls []) := by
                  intro n530
                  induction n530 with
                  | zero => intro x531 σ532 H locs ls h533 h534 h535; exact absurd h533 (by omega)
                  | succ n530 ihlp529 =>
                    intro x531 σ532 H locs ls h533 h534 h535 f536 f537 p538 hP hS hl
                    obtain ⟨i539, w540, w541⟩ : (0 ≤ (σ532 31 8).toInt ∧ (σ532 31 8).toInt ≤ 350) ∧ (∀ k : Nat, k < 1400 → (-1) ≤ (σ532 33 k).toInt ∧ (σ532 33 k).toInt ≤ 350) ∧ (∀ k : Nat, k < 1024 → 0 ≤ (σ532 36 k).toInt ∧ (σ532 36 k).toInt ≤ 349) := id p538
                    refine lv_iload hx hb dX1_grow_143 (lv_at hl 0 rfl) ?_
                    refine lv_iconst (v := 4) hx hb dX1_grow_145 (by decide) ?_
                    refine lv_icmp_ge (tgt := 196) hx hb dX1_grow_146 (by decide) (fun c542 => ?_) (fun c542 => ?_)
                    · have kc542 := jle c542 jz_4 rfl
                      obtain ⟨x543, ex543⟩ : ∃ y : Int32, y = x508 + 1 := ⟨_, rfl⟩
                      have tx543 : x543.toInt = x508.toInt + 1 := (jadd ex543 rfl jz_1 (by omega) (by omega)).trans (by omega)
                      refine lv_iinc (v := x543) (lv' := [(5, .int x543), (8, .int x531), (7, .int x528), (6, .int x525), (4, .int 0), (3, .int x8), (0, .ref (ad 31)), (1, .int a1), (2, .int a2)]) hx hb dX1_grow_196 hl (k := 3) rfl (by rw [ex543]; rfl) (by decide) rfl (fun ls hl => ?_)
                      refine lv_goto (tgt := 99) hx hb dX1_grow_199 (by decide) ?_
                      exact ihlp506 x543 σ532 _ _ ls (by have h90 := tx543; omega) (by have h90 := tx543; omega) (by have h90 := tx543; omega) (fun i hi => ((f536 i hi).trans (f516 i hi))) (fun i hi => ((f537 i hi).trans (f517 i hi)))  p538 hP hS (lv_sub hl [0, 4, 5, 6, 7, 8] rfl)
                    · have kc542 := jnle c542 jz_4 rfl
                      refine lv_aload_n hx hb dX1_grow_149 rfl (lv_at hl 6 rfl) ?_
                      refine va_get (D := D) hx hb hts inlX1 hown hK hP 31 (jc_31 cI cL ad σ532 τ) rfl 3 (by decide) (hts _ kw_5_4) (fun _ h9 => h9) rfl dX1_grow_150 ?_
                      refine lv_iload hx hb dX1_grow_153 (lv_at hl 3 rfl) ?_
                      refine lv_iconst (v := 4) hx hb dX1_grow_155 (by decide) ?_
                      have g544 := jrg (rfl : x508.toInt = x508.toInt)
                      refine lv_imul hx hb dX1_grow_156 ?_
                      refine lv_topi (fun x545 ex545 => ?_)
                      have tx545 : x545.toInt = 4 * x508.toInt := (jmul ex545 rfl jz_4 (by omega) (by omega)).trans (by omega)
                      refine lv_iload hx hb dX1_grow_157 (lv_at hl 0 rfl) ?_
                      have g546 := jrg (rfl : x531.toInt = x531.toInt)
                      refine lv_iadd hx hb dX1_grow_159 ?_
                      refine lv_topi (fun x547 ex547 => ?_)
                      have tx547 : x547.toInt = 4 * x508.toInt + x531.toInt := (jadd ex547 tx545 rfl (by omega) (by omega)).trans (by omega)
                      refine lv_iload hx hb dX1_grow_160 (lv_at hl 2 rfl) ?_
                      refine lv_iload hx hb dX1_grow_162 (lv_at hl 0 rfl) ?_
                      refine jcallS (As := [.int x525, .int x531]) (rest := [.int x547, .ref (ad 33)]) ⟨hx, hb, hml, hown, hts⟩ hK hP hA hS hZ (c_X0_mayBowl l D cI cL ad zz hJ σ532 τ x525 (x525.toInt) rfl x531 (x531.toInt) rfl) cw_RX1_115 ⟨Nat.le_of_ble_eq_true rfl, Nat.le_of_ble_eq_true rfl⟩ rfl rfl rfl hl.1 rfl (Nat.le_of_ble_eq_true rfl) dX1_grow_164 ⟨Nat.zero_le _, Nat.zero_le _⟩ (fun r549 σ548 τ548 H locs h548 hP hS => ?_)
                      obtain ⟨⟨rfl, rfl⟩, h548⟩ := h548
                      refine lv_if_eq (tgt := 188) hx hb dX1_grow_167 (by decide) (fun c550 => ?_) (fun c550 => ?_)
                      · have kc550 := jeq c550 rfl jz_0
                        refine lv_iconst (v := (-1)) hx hb dX1_grow_188 (by decide) ?_
                        refine jast hx hb hK hP hJ hA hS (jc_33 cI cL ad σ532 τ) (ja_33 cI cL ad σ532 τ _ _) (jin tx547 (by omega) (by omega)) dX1_grow_189 (fun σ551 H locs eσ551 hP hS => ?_)
                        obtain ⟨x552, ex552⟩ : ∃ y : Int32, y = x531 + 1 := ⟨_, rfl⟩
                        have tx552 : x552.toInt = x531.toInt + 1 := (jadd ex552 rfl jz_1 (by omega) (by omega)).trans (by omega)
                        refine lv_iinc (v := x552) (lv' := [(8, .int x552), (7, .int x528), (6, .int x525), (5, .int x508), (4, .int 0), (3, .int x8), (0, .ref (ad 31)), (1, .int a1), (2, .int a2)]) hx hb dX1_grow_190 hl (k := 0) rfl (by rw [ex552]; rfl) (by decide) rfl (fun ls hl => ?_)
                        refine lv_goto (tgt := 143) hx hb dX1_grow_193 (by decide) ?_
                        have z553 : (σ551 31 8).toInt = (σ532 31 8).toInt := (congrArg Int32.toInt (show σ551 31 8 = (σ532 31 8) from (congrFun (jnp 31 eσ551 (by decide)) 8)))
                        have w554 : ∀ k : Nat, k < 1400 → (-1) ≤ (σ551 33 k).toInt ∧ (σ551 33 k).toInt ≤ 350 := (by rw [eσ551]; exact jrr_up w540 (by have h9 := jz_m1; omega) (by have h9 := jz_m1; omega))
                        have w555 : ∀ k : Nat, k < 1024 → 0 ≤ (σ551 36 k).toInt ∧ (σ551 36 k).toInt ≤ 349 := (jrr_fr (jnp 36 eσ551 (by decide)) w541)
                        have I556 : jI31 σ551 := ⟨(by omega), w554, w555⟩
                        exact ihlp529 x552 σ551 _ _ ls (by have h90 := tx552; omega) (by have h90 := tx552; omega) (by have h90 := tx552; omega) (fun i hi => ((jnp i eσ551 (imp_94 i hi)).trans (f536 i hi))) (fun i hi => ((congrFun (jnp 31 eσ551 (by decide)) i).trans (f537 i hi)))  I556 hP hS (lv_sub hl [0, 1, 2, 3, 4, 5, 6, 7, 8] rfl)
                      · have kc550 := jne c550 rfl jz_0
                        refine lv_aload_n hx hb dX1_grow_170 rfl (lv_at hl 6 rfl) ?_
                        refine lv_iload hx hb dX1_grow_171 (lv_at hl 2 rfl) ?_
                        refine lv_iload hx hb dX1_grow_173 (lv_at hl 0 rfl) ?_
                        refine jcallS (As := [.int x525, .int x531]) (rest := [.ref (ad 31), .int x547, .ref (ad 33)]) ⟨hx, hb, hml, hown, hts⟩ hK hP hA hS hZ (c_X0_after l D cI cL ad zz hJ σ532 τ x525 (x525.toInt) rfl x531 (x531.toInt) rfl) cw_RX1_119 ⟨Nat.le_of_ble_eq_true rfl, Nat.le_of_ble_eq_true rfl⟩ rfl rfl rfl hl.1 rfl (Nat.le_of_ble_eq_true rfl) dX1_grow_175 ⟨Nat.zero_le _, Nat.zero_le _⟩ (fun r558 σ557 τ557 H locs h557 hP hS => ?_)
                        obtain ⟨⟨rfl, rfl⟩, h557⟩ := h557
                        refine lv_iload hx hb dX1_grow_178 (lv_at hl 1 rfl) ?_
                        refine lv_iconst (v := 1) hx hb dX1_grow_180 (by decide) ?_
                        have g559 := jrg (rfl : x528.toInt = x528.toInt)
                        refine lv_iadd hx hb dX1_grow_181 ?_
                        refine lv_topi (fun x560 ex560 => ?_)
                        have gx560 := jrg (rfl : x560.toInt = x560.toInt)
                        refine jcallV (As := [.int r558, .int x560]) (rest := [.int x547, .ref (ad 33)]) ⟨hx, hb, hml, hown, hts⟩ hK hP hA hS hZ (c_X1_add_31 l D cI cL ad zz hJ σ532 τ r558 (r558.toInt) rfl x560 (x560.toInt) rfl p538) cw_RX1_111 (jc_31 cI cL ad σ532 τ) rfl ⟨Nat.le_of_ble_eq_true rfl, Nat.le_of_ble_eq_true rfl⟩ rfl rfl rfl hl.1 rfl (Nat.le_of_ble_eq_true rfl) dX1_grow_182 ⟨Nat.zero_le _, Nat.zero_le _⟩ (fun r562 σ561 τ561 H locs h561 hP hS => ?_)
                        obtain ⟨rfl, f563, f564, I565, h561⟩ := h561
                        obtain ⟨i566, w567, w568⟩ : (0 ≤ (σ561 31 8).toInt ∧ (σ561 31 8).toInt ≤ 350) ∧ (∀ k : Nat, k < 1400 → (-1) ≤ (σ561 33 k).toInt ∧ (σ561 33 k).toInt ≤ 350) ∧ (∀ k : Nat, k < 1024 → 0 ≤ (σ561 36 k).toInt ∧ (σ561 36 k).toInt ≤ 349) := id I565
                        have h569 := h561
                        obtain ⟨q571, k570⟩ := h569
                        refine lv_goto (tgt := 189) hx hb dX1_grow_185 (by decide) ?_
                        refine jast hx hb hK hP hJ hA hS (jc_33 cI cL ad σ561 τ) (ja_33 cI cL ad σ561 τ _ _) (jin tx547 (by omega) (by omega)) dX1_grow_189 (fun σ572 H locs eσ572 hP hS => ?_)
                        obtain ⟨x573, ex573⟩ : ∃ y : Int32, y = x531 + 1 := ⟨_, rfl⟩
                        have tx573 : x573.toInt = x531.toInt + 1 := (jadd ex573 rfl jz_1 (by omega) (by omega)).trans (by omega)
                        refine lv_iinc (v := x573) (lv' := [(8, .int x573), (7, .int x528), (6, .int x525), (5, .int x508), (4, .int 0), (3, .int x8), (0, .ref (ad 31)), (1, .int a1), (2, .int a2)]) hx hb dX1_grow_190 hl (k := 0) rfl (by rw [ex573]; rfl) (by decide) rfl (fun ls hl => ?_)
                        refine lv_goto (tgt := 143) hx hb dX1_grow_193 (by decide) ?_
                        have z574 : (σ572 31 8).toInt = (σ561 31 8).toInt := (congrArg Int32.toInt (show σ572 31 8 = (σ561 31 8) from (congrFun (jnp 31 eσ572 (by decide)) 8)))
                        have w575 : ∀ k : Nat, k < 1400 → (-1) ≤ (σ572 33 k).toInt ∧ (σ572 33 k).toInt ≤ 350 := (by rw [eσ572]; exact jrr_up w567 (by omega) (by omega))
                        have w576 : ∀ k : Nat, k < 1024 → 0 ≤ (σ572 36 k).toInt ∧ (σ572 36 k).toInt ≤ 349 := (jrr_fr (jnp 36 eσ572 (by decide)) w568)
                        have I577 : jI31 σ572 := ⟨(by omega), w575, w576⟩
                        exact ihlp529 x573 σ572 _ _ ls (by have h90 := tx573; omega) (by have h90 := tx573; omega) (by have h90 := tx573; omega) (fun i hi => ((jnp i eσ572 (imp_94 i hi)).trans ((f563 i (imp_86 i hi)).trans (f536 i hi)))) (fun i hi => ((congrFun (jnp 31 eσ572 (by decide)) i).trans ((f564 i hi).trans (f537 i hi))))  I577 hP hS (lv_sub hl [0, 1, 2, 3, 4, 5, 6, 7, 8] rfl)
                exact lp529 1000000 0 σ512 _ _ ls (by have h90 := jz_0; omega) (by have h90 := jz_0; omega) (by have h90 := jz_0; omega) (fun _ _ => rfl) (fun _ _ => rfl)  p518 hP hS hl
          exact lp506 1000000 0 σ495 _ _ ls (by have h90 := jz_0; omega) (by have h90 := jz_0; omega) (by have h90 := jz_0; omega) (fun _ _ => rfl) (fun _ _ => rfl)  I499 hP hS hl
        · have kc485 := jeq c485 rfl jz_0
          refine lv_aload_n hx hb dX1_grow_57 rfl (lv_at hl 2 rfl) ?_
          refine lv_iload_n hx hb dX1_grow_58 rfl (lv_at hl 4 rfl) ?_
          refine jput (ty := .int) hx hb hts inlX1 tyX1 tyX1_ok nmX1 hown hK hP hJ hA hS (jc_31 cI cL ad σ τ) rfl (k := 10) (by decide) (Nat.le_of_ble_eq_true rfl) (jp_31_10 cI cL ad σ τ a2) (hts _ kw_28_9) (fun _ h9 => h9) rfl (by decide +kernel) rfl rfl dX1_grow_59 (fun σ578 H locs eσ578 hP hS => ?_)
          have I579 : jI31 σ578 := jI31_fr (jkp 8 eσ578 (by decide)) (jnp 33 eσ578 (by decide)) (jnp 36 eσ578 (by decide)) hI31
          exact hret σ578 τ _ _ _ _ ⟨rfl, (fun i hi => (jnp i eσ578 (imp_87 i hi))), (fun i hi => (jkp i eσ578 (imp_92 i hi))), I579, trivial⟩ hP hS dX1_grow_62
set_option maxHeartbeats 4000000 in
set_option maxRecDepth 100000 in
theorem c_X1_judge_31 (l : Launch) (D : va_G) (cI cL : ClassId) (ad zz : Nat → Nat) (hJ : jD ad) (σ : Nat → Nat → Int32) (τ : Nat → Nat → Int64) (a1 : Int32) (A1 : Int) (t1 : a1.toInt = A1) (a3 : Int32) (A3 : Int) (t3 : a3.toInt = A3) (a4 : Int32) (A4 : Int) (t4 : a4.toInt = A4) (hI16 : jI16 σ) (hI22 : jI22 σ) (hI31 : jI31 σ) (hp0 : 0 ≤ A1 ∧ A1 ≤ 349) : jMv l yX1_judge cX1_judge 18 none ({ frames := 3, cells := 0, slots := 0, locals := 76 }) D cI cL ad zz [.ref (ad 31), .int a1, .ref (ad 17), .int a3, .int a4] σ τ (fun σ' τ' => τ = τ' ∧ (∀ i : Nat, (i < 24 ∨ 25 < i) ∧ (i < 29 ∨ 30 < i) ∧ (i < 34 ∨ 35 < i) → σ' i = σ i) ∧ True) := by
  refine jMv.of hJ (by decide +kernel) rfl (Nat.le_of_ble_eq_true rfl) ?_
  intro p e s m args below meth c Q ls hC hret hl hP
  obtain ⟨hx, hb, hr, hml, hown, hts, hK, -, hlocks, hZ⟩ := hC
  have hown : s.vm.findClass RX1 = some m.cls := hown
  have hS : va_S (jA ad) s.heap s.heap [] := va_S.rf
  have hA : ∀ q, jA ad q → jA ad q := fun _ h => h
  have hl : lv_has ls 18 [(0, .ref (ad 31)), (1, .int a1), (2, .ref (ad 17)), (3, .int a3), (4, .int a4)] := hl
  have g1 := jrg t1
  have g3 := jrg t3
  have g4 := jrg t4
  obtain ⟨i1, i2, i3, w4⟩ : (1 ≤ (σ 16 0).toInt ∧ (σ 16 0).toInt ≤ 8) ∧ (1 ≤ (σ 16 1).toInt ∧ (σ 16 1).toInt ≤ 12) ∧ (0 ≤ (σ 16 2).toInt ∧ (σ 16 2).toInt ≤ 999) ∧ (∀ k : Nat, k < 8 → 0 ≤ (σ 17 k).toInt ∧ (σ 17 k).toInt ≤ 3) := id hI16
  obtain ⟨i5, w6, w7⟩ : (0 ≤ (σ 31 8).toInt ∧ (σ 31 8).toInt ≤ 350) ∧ (∀ k : Nat, k < 1400 → (-1) ≤ (σ 33 k).toInt ∧ (σ 33 k).toInt ≤ 350) ∧ (∀ k : Nat, k < 1024 → 0 ≤ (σ 36 k).toInt ∧ (σ 36 k).toInt ≤ 349) := id hI31
  refine lv_aload_n hx hb dX1_judge_0 rfl (lv_at hl 0 rfl) ?_
  refine va_get (D := D) hx hb hts inlX1 hown hK hP 31 (jc_31 cI cL ad σ τ) rfl 2 (by decide) (hts _ kw_5_3) (fun _ h9 => h9) rfl dX1_judge_1 ?_
  refine lv_iload_n hx hb dX1_judge_4 rfl (lv_at hl 1 rfl) ?_
  refine jald hx hb hK hP (jc_32 cI cL ad σ τ) (jin t1 (by omega) (by omega)) dX1_judge_5 ?_
  refine lv_topi (fun x8 ex8 => ?_)
  refine lv_ldc (v := 134217727) hx hb hown (hts _ kw_28_10) dX1_judge_6 ?_
  refine lv_iand hx hb dX1_judge_8 ?_
  refine lv_topi (fun x9 ex9 => ?_)
  have gx9 := jrg (rfl : x9.toInt = x9.toInt)
  have g10 : 0 ≤ x9.toInt ∧ x9.toInt ≤ 134217727 := jmask ex9 27 (by decide) (by decide)
  refine lv_istore (lv' := [(5, .int x9), (0, .ref (ad 31)), (1, .int a1), (2, .ref (ad 17)), (3, .int a3), (4, .int a4)]) hx hb dX1_judge_9 hl (by decide) rfl (fun ls hl => ?_)
  refine lv_aload_n hx hb dX1_judge_11 rfl (lv_at hl 1 rfl) ?_
  refine va_get (D := D) hx hb hts inlX1 hown hK hP 31 (jc_31 cI cL ad σ τ) rfl 2 (by decide) (hts _ kw_5_3) (fun _ h9 => h9) rfl dX1_judge_12 ?_
  refine lv_iload_n hx hb dX1_judge_15 rfl (lv_at hl 2 rfl) ?_
  refine jald hx hb hK hP (jc_32 cI cL ad σ τ) (jin t1 (by omega) (by omega)) dX1_judge_16 ?_
  refine lv_topi (fun x11 ex11 => ?_)
  refine lv_bipush (v := 27) hx hb dX1_judge_17 (by decide) ?_
  refine lv_ishr hx hb dX1_judge_19 ?_
  refine lv_topi (fun x12 ex12 => ?_)
  have gx12 := jrg (rfl : x12.toInt = x12.toInt)
  refine lv_istore (lv' := [(6, .int x12), (5, .int x9), (0, .ref (ad 31)), (1, .int a1), (2, .ref (ad 17)), (3, .int a3), (4, .int a4)]) hx hb dX1_judge_20 hl (by decide) rfl (fun ls hl => ?_)
  refine lv_iload_n hx hb dX1_judge_22 rfl (lv_at hl 3 rfl) ?_
  refine lv_bipush (v := 9) hx hb dX1_judge_23 (by decide) ?_
  refine lv_imul hx hb dX1_judge_25 ?_
  refine lv_topi (fun x13 ex13 => ?_)
  have tx13 : x13.toInt = 9 * A1 := (jmul ex13 t1 jz_9 (by omega) (by omega)).trans (by omega)
  refine lv_istore (lv' := [(7, .int x13), (6, .int x12), (5, .int x9), (0, .ref (ad 31)), (1, .int a1), (2, .ref (ad 17)), (3, .int a3), (4, .int a4)]) hx hb dX1_judge_26 hl (by decide) rfl (fun ls hl => ?_)
  refine lv_iconst (v := 0) hx hb dX1_judge_28 (by decide) ?_
  refine lv_iload_n hx hb dX1_judge_29 rfl (lv_at hl 6 rfl) ?_
  refine va_mmax hx hb (hml.trans hl.1.symm) hown (hts _ kw_28_5) (hts _ kw_21_0) (hts _ kw_21_1) (hts _ kw_21_2) (Nat.le_of_ble_eq_true rfl) (Nat.le_of_ble_eq_true rfl) (Nat.le_of_ble_eq_true rfl) (Nat.le_of_ble_eq_true rfl) dX1_judge_30 ?_
  refine lv_topi (fun x14 ex14 => ?_)
  have g15 := jmax ex14 jz_0 t3
  refine lv_istore (lv' := [(8, .int x14), (7, .int x13), (6, .int x12), (5, .int x9), (0, .ref (ad 31)), (1, .int a1), (2, .ref (ad 17)), (3, .int a3), (4, .int a4)]) hx hb dX1_judge_33 hl (by decide) rfl (fun ls hl => ?_)
  refine lv_iload hx hb dX1_judge_35 (lv_at hl 8 rfl) ?_
  refine lv_aload_n hx hb dX1_judge_37 rfl (lv_at hl 6 rfl) ?_
  refine jalen (v := 8) hx hb hK hP (jc_17 cI cL ad σ τ) (by decide) dX1_judge_38 ?_
  refine lv_iconst (v := 1) hx hb dX1_judge_39 (by decide) ?_
  refine lv_isub hx hb dX1_judge_40 ?_
  refine jtopr (y := 7) (by decide) ?_
  refine va_mmin hx hb (hml.trans hl.1.symm) hown (hts _ kw_28_4) (hts _ kw_22_11) (hts _ kw_21_1) (hts _ kw_22_12) (Nat.le_of_ble_eq_true rfl) (Nat.le_of_ble_eq_true rfl) (Nat.le_of_ble_eq_true rfl) (Nat.le_of_ble_eq_true rfl) dX1_judge_41 ?_
  refine lv_topi (fun x16 ex16 => ?_)
  have g17 := jmin ex16 t4 jz_7
  refine lv_iload_n hx hb dX1_judge_44 rfl (lv_at hl 7 rfl) ?_
  refine lv_iconst (v := 1) hx hb dX1_judge_45 (by decide) ?_
  refine lv_iadd hx hb dX1_judge_46 ?_
  refine lv_topi (fun x18 ex18 => ?_)
  have gx18 := jrg (rfl : x18.toInt = x18.toInt)
  refine lv_iload hx hb dX1_judge_47 (lv_at hl 2 rfl) ?_
  have g19 := jrg (rfl : x18.toInt = x18.toInt)
  have g20 := jrg (rfl : x12.toInt = x12.toInt)
  refine lv_iadd hx hb dX1_judge_49 ?_
  refine lv_topi (fun x21 ex21 => ?_)
  have gx21 := jrg (rfl : x21.toInt = x21.toInt)
  refine va_mmin hx hb (hml.trans hl.1.symm) hown (hts _ kw_28_4) (hts _ kw_22_11) (hts _ kw_21_1) (hts _ kw_22_12) (Nat.le_of_ble_eq_true rfl) (Nat.le_of_ble_eq_true rfl) (Nat.le_of_ble_eq_true rfl) (Nat.le_of_ble_eq_true rfl) dX1_judge_50 ?_
  refine lv_topi (fun x22 ex22 => ?_)
  have g23 := jmin ex22 rfl rfl
  refine lv_istore (lv' := [(9, .int x22), (8, .int x14), (7, .int x13), (6, .int x12), (5, .int x9), (0, .ref (ad 31)), (1, .int a1), (2, .ref (ad 17)), (3, .int a3), (4, .int a4)]) hx hb dX1_judge_53 hl (by decide) rfl (fun ls hl => ?_)
  refine lv_iload hx hb dX1_judge_55 (lv_at hl 1 rfl) ?_
  refine lv_istore (lv' := [(10, .int x14), (9, .int x22), (8, .int x14), (7, .int x13), (6, .int x12), (5, .int x9), (0, .ref (ad 31)), (1, .int a1), (2, .ref (ad 17)), (3, .int a3), (4, .int a4)]) hx hb dX1_judge_57 hl (by decide) rfl (fun ls hl => ?_)
  have lp24 : ∀ (n25 : Nat) (x26 : Int32) (σ27 : Nat → Nat → Int32) (H : Heap) (locs : List Loc) (ls : Array Slot), (-x26.toInt + 3000000000 : Int) < n25 → 0 ≤ x26.toInt → (∀ i : Nat, (i < 34 ∨ 35 < i) → σ27 i = σ i) → jH D cI cL ad σ27 τ H → va_S (jA ad) s.heap H locs → lv_has ls 18 [(10, .int x26), (9, .int x22), (8, .int x14), (7, .int x13), (6, .int x12), (5, .int x9), (0, .ref (ad 31)), (1, .int a1), (2, .ref (ad 17)), (3, .int a3), (4, .int a4)] → W p l e ({ frames := 3, cells := 0, slots := 0, locals := 76 }) s m args below meth c H locs 0 0 Q (F0 m 59 ls []) := by
    intro n25
    induction n25 with
    | zero => intro x26 σ27 H locs ls h28 h29; have gx26 := jrg (rfl : x26.toInt = x26.toInt); exact absurd h28 (by omega)
    | succ n25 ihlp24 =>
      intro x26 σ27 H locs ls h28 h29 f30 hP hS hl
      have gx26 := jrg (rfl : x26.toInt = x26.toInt)
      refine lv_iload hx hb dX1_judge_59 (lv_at hl 0 rfl) ?_
      refine lv_iload hx hb dX1_judge_61 (lv_at hl 1 rfl) ?_
      refine lv_icmp_gt (tgt := 94) hx hb dX1_judge_63 (by decide) (fun c31 => ?_) (fun c31 => ?_)
      · have kc31 := jlt c31 rfl rfl
        refine lv_aload_n hx hb dX1_judge_94 rfl (lv_at hl 6 rfl) ?_
        refine va_get (D := D) hx hb hts inlX1 hown hK hP 31 (jc_31 cI cL ad σ27 τ) rfl 4 (by decide) (hts _ kw_5_5) (fun _ h9 => h9) rfl dX1_judge_95 ?_
        refine lv_iload hx hb dX1_judge_98 (lv_at hl 3 rfl) ?_
        refine lv_aload_n hx hb dX1_judge_100 rfl (lv_at hl 6 rfl) ?_
        refine va_get (D := D) hx hb hts inlX1 hown hK hP 31 (jc_31 cI cL ad σ27 τ) rfl 1 (by decide) (hts _ kw_5_11) (fun _ h9 => h9) rfl dX1_judge_101 ?_
        refine va_get (D := D) hx hb hts inlX6 hown hK hP 16 (jc_16 cI cL ad σ27 τ) rfl 0 (by decide) (hts _ kw_27_17) (fun _ h9 => h9) rfl dX1_judge_104 ?_
        have m32 : σ27 16 0 = (σ 16 0) := (congrFun (f30 16 (by decide)) 0)
        refine jtopr m32 ?_
        have g33 := jrg (rfl : (σ 16 0).toInt = (σ 16 0).toInt)
        refine lv_iadd hx hb dX1_judge_107 ?_
        refine lv_topi (fun x34 ex34 => ?_)
        have tx34 : x34.toInt = 9 * A1 + (σ 16 0).toInt := (jadd ex34 tx13 rfl (by omega) (by omega)).trans (by omega)
        refine lv_iconst (v := 0) hx hb dX1_judge_108 (by decide) ?_
        refine jast hx hb hK hP hJ hA hS (jc_34 cI cL ad σ27 τ) (ja_34 cI cL ad σ27 τ _ _) (jin tx34 (by omega) (by omega)) dX1_judge_109 (fun σ35 H locs eσ35 hP hS => ?_)
        refine lv_iconst (v := 0) hx hb dX1_judge_110 (by decide) ?_
        refine lv_istore (lv' := [(10, .int 0), (9, .int x22), (8, .int x14), (7, .int x13), (6, .int x12), (5, .int x9), (0, .ref (ad 31)), (1, .int a1), (2, .ref (ad 17)), (3, .int a3), (4, .int a4)]) hx hb dX1_judge_111 hl (by decide) rfl (fun ls hl => ?_)
        have lp36 : ∀ (n37 : Nat) (x38 : Int32) (σ46 : Nat → Nat → Int32) (H : Heap) (locs : List Loc) (ls : Array Slot), (-x38.toInt + 4 : Int) < n37 → 0 ≤ x38.toInt → x38.toInt ≤ 4 → (∀ i : Nat, (i < 24 ∨ 25 < i) ∧ (i < 29 ∨ 30 < i) ∧ (i < 34 ∨ 35 < i) → σ46 i = σ35 i) → jH D cI cL ad σ46 τ H → va_S (jA ad) s.heap H locs → lv_has ls 18 [(10, .int x38), (9, .int x22), (8, .int x14), (7, .int x13), (6, .int x12), (5, .int x9), (0, .ref (ad 31)), (1, .int a1), (2, .ref (ad 17)), (3, .int a3), (4, .int a4)] → W p l e ({ frames := 3, cells := 0, slots := 0, locals := 76 }) s m args below meth c H locs 0 0 Q (F0 m 113 ls []) := by
          intro n37
          induction n37 with
          | zero => intro x38 σ46 H locs ls h47 h48 h49; exact absurd h47 (by omega)
          | succ n37 ihlp36 =>
            intro x38 σ46 H locs ls h47 h48 h49 f50 hP hS hl
            refine lv_iload hx hb dX1_judge_113 (lv_at hl 0 rfl) ?_
            refine lv_iconst (v := 4) hx hb dX1_judge_115 (by decide) ?_
            refine lv_icmp_ge (tgt := 316) hx hb dX1_judge_116 (by decide) (fun c51 => ?_) (fun c51 => ?_)
            · have kc51 := jle c51 jz_4 rfl
              exact hret σ46 τ _ _ _ _ ⟨rfl, (fun i hi => ((f50 i hi).trans ((jnp i eσ35 (imp_95 i hi)).trans (f30 i (imp_96 i hi))))), trivial⟩ hP hS dX1_judge_316
            · have kc51 := jnle c51 jz_4 rfl
              refine lv_aload_n hx hb dX1_judge_119 rfl (lv_at hl 6 rfl) ?_
              refine va_get (D := D) hx hb hts inlX1 hown hK hP 31 (jc_31 cI cL ad σ46 τ) rfl 3 (by decide) (hts _ kw_5_4) (fun _ h9 => h9) rfl dX1_judge_120 ?_
              refine lv_iload_n hx hb dX1_judge_123 rfl (lv_at hl 7 rfl) ?_
              refine lv_iconst (v := 4) hx hb dX1_judge_124 (by decide) ?_
              refine lv_imul hx hb dX1_judge_125 ?_
              refine lv_topi (fun x52 ex52 => ?_)
              have tx52 : x52.toInt = 4 * A1 := (jmul ex52 t1 jz_4 (by omega) (by omega)).trans (by omega)
              refine lv_iload hx hb dX1_judge_126 (lv_at hl 0 rfl) ?_
              have g53 := jrg (rfl : x38.toInt = x38.toInt)
              refine lv_iadd hx hb dX1_judge_128 ?_
              refine lv_topi (fun x54 ex54 => ?_)
              have tx54 : x54.toInt = 4 * A1 + x38.toInt := (jadd ex54 tx52 rfl (by omega) (by omega)).trans (by omega)
              refine jald hx hb hK hP (jc_33 cI cL ad σ46 τ) (jin tx54 (by omega) (by omega)) dX1_judge_129 ?_
              have w55 : ∀ k : Nat, k < 1400 → (-1) ≤ (σ46 33 k).toInt ∧ (σ46 33 k).toInt ≤ 350 := (jrr_fr (f50 33 (by decide)) (jrr_fr (jnp 33 eσ35 (by decide)) (jrr_fr (f30 33 (by decide)) w6)))
              have g56 := w55 _ (jnat (x := x54) tx54 (n := 1400) (by omega) (by decide))
              refine lv_topi (fun x57 ex57 => ?_)
              rw [← ex57] at g56
              refine lv_bipush (v := 9) hx hb dX1_judge_130 (by decide) ?_
              have g58 := jrg (rfl : x57.toInt = x57.toInt)
              refine lv_imul hx hb dX1_judge_132 ?_
              refine lv_topi (fun x59 ex59 => ?_)
              have tx59 : x59.toInt = 9 * x57.toInt := (jmul ex59 rfl jz_9 (by omega) (by omega)).trans (by omega)
              refine lv_istore (lv' := [(11, .int x59), (10, .int x38), (9, .int x22), (8, .int x14), (7, .int x13), (6, .int x12), (5, .int x9), (0, .ref (ad 31)), (1, .int a1), (2, .ref (ad 17)), (3, .int a3), (4, .int a4)]) hx hb dX1_judge_133 hl (by decide) rfl (fun ls hl => ?_)
              refine lv_iload hx hb dX1_judge_135 (lv_at hl 0 rfl) ?_
              refine lv_if_ge (tgt := 143) hx hb dX1_judge_137 (by decide) (fun c60 => ?_) (fun c60 => ?_)
              · have kc60 := jle c60 jz_0 tx59
                refine lv_iload hx hb dX1_judge_143 (lv_at hl 6 rfl) ?_
                refine lv_iload hx hb dX1_judge_145 (lv_at hl 1 rfl) ?_
                refine jcallS (As := [.int x9, .int x38]) (rest := []) ⟨hx, hb, hml, hown, hts⟩ hK hP hA hS hZ (c_X0_steps l D cI cL ad zz hJ σ46 τ x9 (x9.toInt) rfl x38 (x38.toInt) rfl) cw_RX1_136 ⟨Nat.le_of_ble_eq_true rfl, Nat.le_of_ble_eq_true rfl⟩ rfl rfl rfl hl.1 rfl (Nat.le_of_ble_eq_true rfl) dX1_judge_147 ⟨Nat.zero_le _, Nat.zero_le _⟩ (fun r62 σ61 τ61 H locs h61 hP hS => ?_)
                obtain ⟨⟨rfl, rfl⟩, h61⟩ := h61
                refine lv_istore (lv' := [(12, .int r62), (11, .int x59), (10, .int x38), (9, .int x22), (8, .int x14), (7, .int x13), (6, .int x12), (5, .int x9), (0, .ref (ad 31)), (1, .int a1), (2, .ref (ad 17)), (3, .int a3), (4, .int a4)]) hx hb dX1_judge_150 hl (by decide) rfl (fun ls hl => ?_)
                refine lv_iload hx hb dX1_judge_152 (lv_at hl 7 rfl) ?_
                refine lv_iload hx hb dX1_judge_154 (lv_at hl 2 rfl) ?_
                refine jcallS (As := [.int x9, .int x38]) (rest := []) ⟨hx, hb, hml, hown, hts⟩ hK hP hA hS hZ (c_X0_left l D cI cL ad zz hJ σ46 τ x9 (x9.toInt) rfl x38 (x38.toInt) rfl) cw_RX1_123 ⟨Nat.le_of_ble_eq_true rfl, Nat.le_of_ble_eq_true rfl⟩ rfl rfl rfl hl.1 rfl (Nat.le_of_ble_eq_true rfl) dX1_judge_156 ⟨Nat.zero_le _, Nat.zero_le _⟩ (fun r64 σ63 τ63 H locs h63 hP hS => ?_)
                obtain ⟨⟨rfl, rfl⟩, h63⟩ := h63
                refine lv_istore (lv' := [(13, .int r64), (12, .int r62), (11, .int x59), (10, .int x38), (9, .int x22), (8, .int x14), (7, .int x13), (6, .int x12), (5, .int x9), (0, .ref (ad 31)), (1, .int a1), (2, .ref (ad 17)), (3, .int a3), (4, .int a4)]) hx hb dX1_judge_159 hl (by decide) rfl (fun ls hl => ?_)
                refine lv_iload hx hb dX1_judge_161 (lv_at hl 5 rfl) ?_
                refine lv_istore (lv' := [(14, .int x14), (13, .int r64), (12, .int r62), (11, .int x59), (10, .int x38), (9, .int x22), (8, .int x14), (7, .int x13), (6, .int x12), (5, .int x9), (0, .ref (ad 31)), (1, .int a1), (2, .ref (ad 17)), (3, .int a3), (4, .int a4)]) hx hb dX1_judge_163 hl (by decide) rfl (fun ls hl => ?_)
                have lp65 : ∀ (n66 : Nat) (x67 : Int32) (σ71 : Nat → Nat → Int32) (H : Heap) (locs : List Loc) (ls : Array Slot), (-x67.toInt + 3000000000 : Int) < n66 → 0 ≤ x67.toInt → (∀ i : Nat, (i < 24 ∨ 25 < i) ∧ (i < 29 ∨ 30 < i) ∧ (i < 34 ∨ 35 < i) → σ71 i = σ46 i) → jH D cI cL ad σ71 τ H → va_S (jA ad) s.heap H locs → lv_has ls 18 [(14, .int x67), (13, .int r64), (12, .int r62), (11, .int x59), (10, .int x38), (9, .int x22), (8, .int x14), (7, .int x13), (6, .int x12), (5, .int x9), (0, .ref (ad 31)), (1, .int a1), (2, .ref (ad 17)), (3, .int a3), (4, .int a4)] → W p l e ({ frames := 3, cells := 0, slots := 0, locals := 76 }) s m args below meth c H locs 0 0 Q (F0 m 165 ls []) := by
                  intro n66
                  induction n66 with
                  | zero => intro x67 σ71 H locs ls h72 h73; have gx67 := jrg (rfl : x67.toInt = x67.toInt); exact absurd h72 (by omega)
                  | succ n66 ihlp65 =>
                    intro x67 σ71 H locs ls h72 h73 f74 hP hS hl
                    have gx67 := jrg (rfl : x67.toInt = x67.toInt)
                    refine lv_iload hx hb dX1_judge_165 (lv_at hl 0 rfl) ?_
                    refine lv_iload hx hb dX1_judge_167 (lv_at hl 5 rfl) ?_
                    refine lv_icmp_gt (tgt := 310) hx hb dX1_judge_169 (by decide) (fun c75 => ?_) (fun c75 => ?_)
                    · have kc75 := jlt c75 rfl rfl
                      obtain ⟨x76, ex76⟩ : ∃ y : Int32, y = x38 + 1 := ⟨_, rfl⟩
                      have tx76 : x76.toInt = x38.toInt + 1 := (jadd ex76 rfl jz_1 (by omega) (by omega)).trans (by omega)
                      refine lv_iinc (v := x76) (lv' := [(10, .int x76), (14, .int x67), (13, .int r64), (12, .int r62), (11, .int x59), (9, .int x22), (8, .int x14), (7, .int x13), (6, .int x12), (5, .int x9), (0, .ref (ad 31)), (1, .int a1), (2, .ref (ad 17)), (3, .int a3), (4, .int a4)]) hx hb dX1_judge_310 hl (k := 4) rfl (by rw [ex76]; rfl) (by decide) rfl (fun ls hl => ?_)
                      refine lv_goto (tgt := 113) hx hb dX1_judge_313 (by decide) ?_
                      exact ihlp36 x76 σ71 _ _ ls (by have h90 := tx76; omega) (by have h90 := tx76; omega) (by have h90 := tx76; omega) (fun i hi => ((f74 i hi).trans (f50 i hi)))    hP hS (lv_sub hl [0, 5, 6, 7, 8, 9, 10, 11, 12, 13, 14] rfl)
                    · have kc75 := jnlt c75 rfl rfl
                      refine lv_aload_n hx hb dX1_judge_172 rfl (lv_at hl 10 rfl) ?_
                      refine va_get (D := D) hx hb hts inlX1 hown hK hP 31 (jc_31 cI cL ad σ71 τ) rfl 0 (by decide) (hts _ kw_5_10) (fun _ h9 => h9) rfl dX1_judge_173 ?_
                      refine lv_iload hx hb dX1_judge_176 (lv_at hl 4 rfl) ?_
                      refine lv_aload_n hx hb dX1_judge_178 rfl (lv_at hl 12 rfl) ?_
                      refine lv_iload hx hb dX1_judge_179 (lv_at hl 0 rfl) ?_
                      refine jald hx hb hK hP (jc_17 cI cL ad σ71 τ) (jin rfl (by omega) (by omega)) dX1_judge_181 ?_
                      have w77 : ∀ k : Nat, k < 8 → 0 ≤ (σ71 17 k).toInt ∧ (σ71 17 k).toInt ≤ 3 := (jrr_fr (f74 17 (by decide)) (jrr_fr (f50 17 (by decide)) (jrr_fr (jnp 17 eσ35 (by decide)) (jrr_fr (f30 17 (by decide)) w4))))
                      have g78 := w77 _ (jnat (x := x67) rfl (n := 8) (by omega) (by decide))
                      refine lv_topi (fun x79 ex79 => ?_)
                      rw [← ex79] at g78
                      refine lv_iload hx hb dX1_judge_182 (lv_at hl 2 rfl) ?_
                      refine jcallV (As := [.int x38, .int x79, .int r62]) (rest := []) ⟨hx, hb, hml, hown, hts⟩ hK hP hA hS hZ (c_X5_runsOf_26 l D cI cL ad zz hJ σ71 τ x38 (x38.toInt) rfl x79 (x79.toInt) rfl r62 (r62.toInt) rfl) cw_RX1_139 (jc_26 cI cL ad σ71 τ) rfl ⟨Nat.le_of_ble_eq_true rfl, Nat.le_of_ble_eq_true rfl⟩ rfl rfl rfl hl.1 rfl (Nat.le_of_ble_eq_true rfl) dX1_judge_184 ⟨Nat.zero_le _, Nat.zero_le _⟩ (fun r81 σ80 τ80 H locs h80 hP hS => ?_)
                      obtain ⟨⟨rfl, rfl⟩, h80⟩ := h80
                      refine lv_istore (lv' := [(15, .int r81), (14, .int x67), (13, .int r64), (12, .int r62), (11, .int x59), (10, .int x38), (9, .int x22), (8, .int x14), (7, .int x13), (6, .int x12), (5, .int x9), (0, .ref (ad 31)), (1, .int a1), (2, .ref (ad 17)), (3, .int a3), (4, .int a4)]) hx hb dX1_judge_187 hl (by decide) rfl (fun ls hl => ?_)
                      refine lv_aload_n hx hb dX1_judge_189 rfl (lv_at hl 11 rfl) ?_
                      refine va_get (D := D) hx hb hts inlX1 hown hK hP 31 (jc_31 cI cL ad σ71 τ) rfl 0 (by decide) (hts _ kw_5_10) (fun _ h9 => h9) rfl dX1_judge_190 ?_
                      refine lv_iload hx hb dX1_judge_193 (lv_at hl 5 rfl) ?_
                      refine lv_aload_n hx hb dX1_judge_195 rfl (lv_at hl 13 rfl) ?_
                      refine lv_iload hx hb dX1_judge_196 (lv_at hl 1 rfl) ?_
                      refine jald hx hb hK hP (jc_17 cI cL ad σ71 τ) (jin rfl (by omega) (by omega)) dX1_judge_198 ?_
                      have g82 := w77 _ (jnat (x := x67) rfl (n := 8) (by omega) (by decide))
                      refine lv_topi (fun x83 ex83 => ?_)
                      rw [← ex83] at g82
                      refine lv_iload hx hb dX1_judge_199 (lv_at hl 3 rfl) ?_
                      refine lv_iload hx hb dX1_judge_201 (lv_at hl 2 rfl) ?_
                      refine lv_aload_n hx hb dX1_judge_203 rfl (lv_at hl 11 rfl) ?_
                      refine va_get (D := D) hx hb hts inlX1 hown hK hP 31 (jc_31 cI cL ad σ71 τ) rfl 10 (by decide) (hts _ kw_28_9) (fun _ h9 => h9) rfl dX1_judge_204 ?_
                      have m84 : σ71 31 10 = (σ 31 10) := ((congrFun (f74 31 (by decide)) 10).trans ((congrFun (f50 31 (by decide)) 10).trans ((congrFun (jnp 31 eσ35 (by decide)) 10).trans (congrFun (f30 31 (by decide)) 10))))
                      refine jtopr m84 ?_
                      refine lv_iload hx hb dX1_judge_207 (lv_at hl 9 rfl) ?_
                      have g85 := jrg (rfl : (σ 31 10).toInt = (σ 31 10).toInt)
                      refine lv_iadd hx hb dX1_judge_209 ?_
                      refine lv_topi (fun x86 ex86 => ?_)
                      have gx86 := jrg (rfl : x86.toInt = x86.toInt)
                      refine lv_iload hx hb dX1_judge_210 (lv_at hl 1 rfl) ?_
                      have I87 : jI22 σ71 := jI22_fr ((congrFun (f74 22 (by decide)) 0).trans ((congrFun (f50 22 (by decide)) 0).trans ((congrFun (jnp 22 eσ35 (by decide)) 0).trans (congrFun (f30 22 (by decide)) 0)))) ((f74 23 (by decide)).trans ((f50 23 (by decide)).trans ((jnp 23 eσ35 (by decide)).trans (f30 23 (by decide))))) hI22
                      refine jcallV (As := [.int x38, .int x83, .int r62, .int r64, .int x86, .int x67]) (rest := []) ⟨hx, hb, hml, hown, hts⟩ hK hP hA hS hZ (c_X5_outOf_26 l D cI cL ad zz hJ σ71 τ x38 (x38.toInt) rfl x83 (x83.toInt) rfl r62 (r62.toInt) rfl r64 (r64.toInt) rfl x86 (x86.toInt) rfl x67 (x67.toInt) rfl I87) cw_RX1_142 (jc_26 cI cL ad σ71 τ) rfl ⟨Nat.le_of_ble_eq_true rfl, Nat.le_of_ble_eq_true rfl⟩ rfl rfl rfl hl.1 rfl (Nat.le_of_ble_eq_true rfl) dX1_judge_212 ⟨Nat.zero_le _, Nat.zero_le _⟩ (fun r89 σ88 τ88 H locs h88 hP hS => ?_)
                      obtain ⟨rfl, f90, h88⟩ := h88
                      refine lv_istore (lv' := [(16, .int r89), (15, .int r81), (14, .int x67), (13, .int r64), (12, .int r62), (11, .int x59), (10, .int x38), (9, .int x22), (8, .int x14), (7, .int x13), (6, .int x12), (5, .int x9), (0, .ref (ad 31)), (1, .int a1), (2, .ref (ad 17)), (3, .int a3), (4, .int a4)]) hx hb dX1_judge_215 hl (by decide) rfl (fun ls hl => ?_)
                      refine lv_aload_n hx hb dX1_judge_217 rfl (lv_at hl 12 rfl) ?_
                      refine va_get (D := D) hx hb hts inlX1 hown hK hP 31 (jc_31 cI cL ad σ88 τ) rfl 1 (by decide) (hts _ kw_5_11) (fun _ h9 => h9) rfl dX1_judge_218 ?_
                      refine lv_iload hx hb dX1_judge_221 (lv_at hl 1 rfl) ?_
                      refine lv_iload hx hb dX1_judge_223 (lv_at hl 0 rfl) ?_
                      refine lv_aload_n hx hb dX1_judge_225 rfl (lv_at hl 12 rfl) ?_
                      refine va_get (D := D) hx hb hts inlX1 hown hK hP 31 (jc_31 cI cL ad σ88 τ) rfl 4 (by decide) (hts _ kw_5_5) (fun _ h9 => h9) rfl dX1_judge_226 ?_
                      refine lv_iload hx hb dX1_judge_229 (lv_at hl 5 rfl) ?_
                      refine lv_iload hx hb dX1_judge_231 (lv_at hl 2 rfl) ?_
                      have g91 := jrg (rfl : x67.toInt = x67.toInt)
                      refine lv_iadd hx hb dX1_judge_233 ?_
                      refine lv_topi (fun x92 ex92 => ?_)
                      have tx92 : x92.toInt = 9 * x57.toInt + x67.toInt := (jadd ex92 tx59 rfl (by omega) (by omega)).trans (by omega)
                      refine lv_iconst (v := 1) hx hb dX1_judge_234 (by decide) ?_
                      refine lv_iadd hx hb dX1_judge_235 ?_
                      refine lv_topi (fun x93 ex93 => ?_)
                      have tx93 : x93.toInt = 9 * x57.toInt + x67.toInt + 1 := (jadd ex93 tx92 jz_1 (by omega) (by omega)).trans (by omega)
                      refine jald hx hb hK hP (jc_34 cI cL ad σ88 τ) (jin tx93 (by omega) (by omega)) dX1_judge_236 ?_
                      refine lv_topi (fun x94 ex94 => ?_)
                      refine lv_aload_n hx hb dX1_judge_237 rfl (lv_at hl 12 rfl) ?_
                      refine va_get (D := D) hx hb hts inlX1 hown hK hP 31 (jc_31 cI cL ad σ88 τ) rfl 4 (by decide) (hts _ kw_5_5) (fun _ h9 => h9) rfl dX1_judge_238 ?_
                      refine lv_iload hx hb dX1_judge_241 (lv_at hl 5 rfl) ?_
                      refine lv_iload hx hb dX1_judge_243 (lv_at hl 2 rfl) ?_
                      refine lv_iadd hx hb dX1_judge_245 ?_
                      refine lv_topi (fun x95 ex95 => ?_)
                      have tx95 : x95.toInt = 9 * x57.toInt + x67.toInt := (jadd ex95 tx59 rfl (by omega) (by omega)).trans (by omega)
                      refine jald hx hb hK hP (jc_34 cI cL ad σ88 τ) (jin tx95 (by omega) (by omega)) dX1_judge_246 ?_
                      refine lv_topi (fun x96 ex96 => ?_)
                      refine jcallV (As := [.int r81, .int r89, .int x94, .int x96]) (rest := []) ⟨hx, hb, hml, hown, hts⟩ hK hP hA hS hZ (c_X6_meanOf_16 l D cI cL ad zz hJ σ88 τ r81 (r81.toInt) rfl r89 (r89.toInt) rfl x94 (x94.toInt) rfl x96 (x96.toInt) rfl) cw_RX1_146 (jc_16 cI cL ad σ88 τ) rfl ⟨Nat.le_of_ble_eq_true rfl, Nat.le_of_ble_eq_true rfl⟩ rfl rfl rfl hl.1 rfl (Nat.le_of_ble_eq_true rfl) dX1_judge_247 ⟨Nat.zero_le _, Nat.zero_le _⟩ (fun r98 σ97 τ97 H locs h97 hP hS => ?_)
                      obtain ⟨⟨rfl, rfl⟩, h97⟩ := h97
                      refine lv_istore (lv' := [(17, .int r98), (16, .int r89), (15, .int r81), (14, .int x67), (13, .int r64), (12, .int r62), (11, .int x59), (10, .int x38), (9, .int x22), (8, .int x14), (7, .int x13), (6, .int x12), (5, .int x9), (0, .ref (ad 31)), (1, .int a1), (2, .ref (ad 17)), (3, .int a3), (4, .int a4)]) hx hb dX1_judge_250 hl (by decide) rfl (fun ls hl => ?_)
                      refine lv_aload_n hx hb dX1_judge_252 rfl (lv_at hl 13 rfl) ?_
                      refine va_get (D := D) hx hb hts inlX1 hown hK hP 31 (jc_31 cI cL ad σ88 τ) rfl 5 (by decide) (hts _ kw_5_6) (fun _ h9 => h9) rfl dX1_judge_253 ?_
                      refine lv_iload hx hb dX1_judge_256 (lv_at hl 10 rfl) ?_
                      refine lv_iload hx hb dX1_judge_258 (lv_at hl 3 rfl) ?_
                      refine lv_iadd hx hb dX1_judge_260 ?_
                      refine lv_topi (fun x99 ex99 => ?_)
                      have tx99 : x99.toInt = 9 * A1 + x67.toInt := (jadd ex99 tx13 rfl (by omega) (by omega)).trans (by omega)
                      refine jald hx hb hK hP (jc_35 cI cL ad σ88 τ) (jin tx99 (by omega) (by omega)) dX1_judge_261 ?_
                      refine lv_topi (fun x100 ex100 => ?_)
                      refine lv_if_lt (tgt := 280) hx hb dX1_judge_262 (by decide) (fun c101 => ?_) (fun c101 => ?_)
                      · have kc101 := jlt c101 rfl jz_0
                        refine lv_aload_n hx hb dX1_judge_280 rfl (lv_at hl 13 rfl) ?_
                        refine va_get (D := D) hx hb hts inlX1 hown hK hP 31 (jc_31 cI cL ad σ88 τ) rfl 4 (by decide) (hts _ kw_5_5) (fun _ h9 => h9) rfl dX1_judge_281 ?_
                        refine lv_iload hx hb dX1_judge_284 (lv_at hl 10 rfl) ?_
                        refine lv_iload hx hb dX1_judge_286 (lv_at hl 3 rfl) ?_
                        refine lv_iadd hx hb dX1_judge_288 ?_
                        refine lv_topi (fun x102 ex102 => ?_)
                        have tx102 : x102.toInt = 9 * A1 + x67.toInt := (jadd ex102 tx13 rfl (by omega) (by omega)).trans (by omega)
                        refine lv_iload hx hb dX1_judge_289 (lv_at hl 0 rfl) ?_
                        refine jast hx hb hK hP hJ hA hS (jc_34 cI cL ad σ88 τ) (ja_34 cI cL ad σ88 τ _ _) (jin tx102 (by omega) (by omega)) dX1_judge_291 (fun σ103 H locs eσ103 hP hS => ?_)
                        refine lv_aload_n hx hb dX1_judge_292 rfl (lv_at hl 13 rfl) ?_
                        refine va_get (D := D) hx hb hts inlX1 hown hK hP 31 (jc_31 cI cL ad σ103 τ) rfl 5 (by decide) (hts _ kw_5_6) (fun _ h9 => h9) rfl dX1_judge_293 ?_
                        refine lv_iload hx hb dX1_judge_296 (lv_at hl 10 rfl) ?_
                        refine lv_iload hx hb dX1_judge_298 (lv_at hl 3 rfl) ?_
                        refine lv_iadd hx hb dX1_judge_300 ?_
                        refine lv_topi (fun x104 ex104 => ?_)
                        have tx104 : x104.toInt = 9 * A1 + x67.toInt := (jadd ex104 tx13 rfl (by omega) (by omega)).trans (by omega)
                        refine lv_iload hx hb dX1_judge_301 (lv_at hl 7 rfl) ?_
                        refine jast hx hb hK hP hJ hA hS (jc_35 cI cL ad σ103 τ) (ja_35 cI cL ad σ103 τ _ _) (jin tx104 (by omega) (by omega)) dX1_judge_303 (fun σ105 H locs eσ105 hP hS => ?_)
                        obtain ⟨x106, ex106⟩ : ∃ y : Int32, y = x67 + 1 := ⟨_, rfl⟩
                        have tx106 : x106.toInt = x67.toInt + 1 := (jadd ex106 rfl jz_1 (by omega) (by omega)).trans (by omega)
                        refine lv_iinc (v := x106) (lv' := [(14, .int x106), (17, .int r98), (16, .int r89), (15, .int r81), (13, .int r64), (12, .int r62), (11, .int x59), (10, .int x38), (9, .int x22), (8, .int x14), (7, .int x13), (6, .int x12), (5, .int x9), (0, .ref (ad 31)), (1, .int a1), (2, .ref (ad 17)), (3, .int a3), (4, .int a4)]) hx hb dX1_judge_304 hl (k := 3) rfl (by rw [ex106]; rfl) (by decide) rfl (fun ls hl => ?_)
                        refine lv_goto (tgt := 165) hx hb dX1_judge_307 (by decide) ?_
                        exact ihlp65 x106 σ105 _ _ ls (by have h90 := tx106; omega) (by have h90 := tx106; omega) (fun i hi => ((jnp i eσ105 (imp_97 i hi)).trans ((jnp i eσ103 (imp_95 i hi)).trans ((f90 i (imp_98 i hi)).trans (f74 i hi)))))    hP hS (lv_sub hl [0, 4, 5, 6, 7, 8, 9, 10, 11, 12, 13, 14, 15, 16, 17] rfl)
                      · have kc101 := jnlt c101 rfl jz_0
                        refine lv_iload hx hb dX1_judge_265 (lv_at hl 0 rfl) ?_
                        refine lv_aload_n hx hb dX1_judge_267 rfl (lv_at hl 13 rfl) ?_
                        refine va_get (D := D) hx hb hts inlX1 hown hK hP 31 (jc_31 cI cL ad σ88 τ) rfl 4 (by decide) (hts _ kw_5_5) (fun _ h9 => h9) rfl dX1_judge_268 ?_
                        refine lv_iload hx hb dX1_judge_271 (lv_at hl 10 rfl) ?_
                        refine lv_iload hx hb dX1_judge_273 (lv_at hl 3 rfl) ?_
                        refine lv_iadd hx hb dX1_judge_275 ?_
                        refine lv_topi (fun x107 ex107 => ?_)
                        have tx107 : x107.toInt = 9 * A1 + x67.toInt := (jadd ex107 tx13 rfl (by omega) (by omega)).trans (by omega)
                        refine jald hx hb hK hP (jc_34 cI cL ad σ88 τ) (jin tx107 (by omega) (by omega)) dX1_judge_276 ?_
                        refine lv_topi (fun x108 ex108 => ?_)
                        refine lv_icmp_ge (tgt := 304) hx hb dX1_judge_277 (by decide) (fun c109 => ?_) (fun c109 => ?_)
                        · have kc109 := jle c109 rfl rfl
                          obtain ⟨x110, ex110⟩ : ∃ y : Int32, y = x67 + 1 := ⟨_, rfl⟩
                          have tx110 : x110.toInt = x67.toInt + 1 := (jadd ex110 rfl jz_1 (by omega) (by omega)).trans (by omega)
                          refine lv_iinc (v := x110) (lv' := [(14, .int x110), (17, .int r98), (16, .int r89), (15, .int r81), (13, .int r64), (12, .int r62), (11, .int x59), (10, .int x38), (9, .int x22), (8, .int x14), (7, .int x13), (6, .int x12), (5, .int x9), (0, .ref (ad 31)), (1, .int a1), (2, .ref (ad 17)), (3, .int a3), (4, .int a4)]) hx hb dX1_judge_304 hl (k := 3) rfl (by rw [ex110]; rfl) (by decide) rfl (fun ls hl => ?_)
                          refine lv_goto (tgt := 165) hx hb dX1_judge_307 (by decide) ?_
                          exact ihlp65 x110 σ88 _ _ ls (by have h90 := tx110; omega) (by have h90 := tx110; omega) (fun i hi => ((f90 i (imp_98 i hi)).trans (f74 i hi)))    hP hS (lv_sub hl [0, 4, 5, 6, 7, 8, 9, 10, 11, 12, 13, 14, 15, 16, 17] rfl)
                        · have kc109 := jnle c109 rfl rfl
                          refine lv_aload_n hx hb dX1_judge_280 rfl (lv_at hl 13 rfl) ?_
                          refine va_get (D := D) hx hb hts inlX1 hown hK hP 31 (jc_31 cI cL ad σ88 τ) rfl 4 (by decide) (hts _ kw_5_5) (fun _ h9 => h9) rfl dX1_judge_281 ?_
                          refine lv_iload hx hb dX1_judge_284 (lv_at hl 10 rfl) ?_
                          refine lv_iload hx hb dX1_judge_286 (lv_at hl 3 rfl) ?_
                          refine lv_iadd hx hb dX1_judge_288 ?_
                          refine lv_topi (fun x111 ex111 => ?_)
                          have tx111 : x111.toInt = 9 * A1 + x67.toInt := (jadd ex111 tx13 rfl (by omega) (by omega)).trans (by omega)
                          refine lv_iload hx hb dX1_judge_289 (lv_at hl 0 rfl) ?_
                          refine jast hx hb hK hP hJ hA hS (jc_34 cI cL ad σ88 τ) (ja_34 cI cL ad σ88 τ _ _) (jin tx111 (by omega) (by omega)) dX1_judge_291 (fun σ112 H locs eσ112 hP hS => ?_)
                          refine lv_aload_n hx hb dX1_judge_292 rfl (lv_at hl 13 rfl) ?_
                          refine va_get (D := D) hx hb hts inlX1 hown hK hP 31 (jc_31 cI cL ad σ112 τ) rfl 5 (by decide) (hts _ kw_5_6) (fun _ h9 => h9) rfl dX1_judge_293 ?_
                          refine lv_iload hx hb dX1_judge_296 (lv_at hl 10 rfl) ?_
                          refine lv_iload hx hb dX1_judge_298 (lv_at hl 3 rfl) ?_
                          refine lv_iadd hx hb dX1_judge_300 ?_
                          refine lv_topi (fun x113 ex113 => ?_)
                          have tx113 : x113.toInt = 9 * A1 + x67.toInt := (jadd ex113 tx13 rfl (by omega) (by omega)).trans (by omega)
                          refine lv_iload hx hb dX1_judge_301 (lv_at hl 7 rfl) ?_
                          refine jast hx hb hK hP hJ hA hS (jc_35 cI cL ad σ112 τ) (ja_35 cI cL ad σ112 τ _ _) (jin tx113 (by omega) (by omega)) dX1_judge_303 (fun σ114 H locs eσ114 hP hS => ?_)
                          obtain ⟨x115, ex115⟩ : ∃ y : Int32, y = x67 + 1 := ⟨_, rfl⟩
                          have tx115 : x115.toInt = x67.toInt + 1 := (jadd ex115 rfl jz_1 (by omega) (by omega)).trans (by omega)
                          refine lv_iinc (v := x115) (lv' := [(14, .int x115), (17, .int r98), (16, .int r89), (15, .int r81), (13, .int r64), (12, .int r62), (11, .int x59), (10, .int x38), (9, .int x22), (8, .int x14), (7, .int x13), (6, .int x12), (5, .int x9), (0, .ref (ad 31)), (1, .int a1), (2, .ref (ad 17)), (3, .int a3), (4, .int a4)]) hx hb dX1_judge_304 hl (k := 3) rfl (by rw [ex115]; rfl) (by decide) rfl (fun ls hl => ?_)
                          refine lv_goto (tgt := 165) hx hb dX1_judge_307 (by decide) ?_
                          exact ihlp65 x115 σ114 _ _ ls (by have h90 := tx115; omega) (by have h90 := tx115; omega) (fun i hi => ((jnp i eσ114 (imp_97 i hi)).trans ((jnp i eσ112 (imp_95 i hi)).trans ((f90 i (imp_98 i hi)).trans (f74 i hi)))))    hP hS (lv_sub hl [0, 4, 5, 6, 7, 8, 9, 10, 11, 12, 13, 14, 15, 16, 17] rfl)
                exact lp65 3000000001 x14 σ46 _ _ ls (by omega) (by omega) (fun _ _ => rfl)   hP hS hl
              · have kc60 := jnle c60 jz_0 tx59
                refine lv_goto (tgt := 310) hx hb dX1_judge_140 (by decide) ?_
                obtain ⟨x116, ex116⟩ : ∃ y : Int32, y = x38 + 1 := ⟨_, rfl⟩
                have tx116 : x116.toInt = x38.toInt + 1 := (jadd ex116 rfl jz_1 (by omega) (by omega)).trans (by omega)
                refine lv_iinc (v := x116) (lv' := [(10, .int x116), (11, .int x59), (9, .int x22), (8, .int x14), (7, .int x13), (6, .int x12), (5, .int x9), (0, .ref (ad 31)), (1, .int a1), (2, .ref (ad 17)), (3, .int a3), (4, .int a4)]) hx hb dX1_judge_310 hl (k := 1) rfl (by rw [ex116]; rfl) (by decide) rfl (fun ls hl => ?_)
                refine lv_goto (tgt := 113) hx hb dX1_judge_313 (by decide) ?_
                exact ihlp36 x116 σ46 _ _ ls (by have h90 := tx116; omega) (by have h90 := tx116; omega) (by have h90 := tx116; omega) (fun i hi => (f50 i hi))    hP hS (lv_sub hl [0, 2, 3, 4, 5, 6, 7, 8, 9, 10, 11] rfl)
        exact lp36 1000000 0 σ35 _ _ ls (by have h90 := jz_0; omega) (by have h90 := jz_0; omega) (by have h90 := jz_0; omega) (fun _ _ => rfl)   hP hS hl
      · have kc31 := jnlt c31 rfl rfl
        refine lv_aload_n hx hb dX1_judge_66 rfl (lv_at hl 6 rfl) ?_
        refine va_get (D := D) hx hb hts inlX1 hown hK hP 31 (jc_31 cI cL ad σ27 τ) rfl 4 (by decide) (hts _ kw_5_5) (fun _ h9 => h9) rfl dX1_judge_67 ?_
        refine lv_iload hx hb dX1_judge_70 (lv_at hl 3 rfl) ?_
        refine lv_iload hx hb dX1_judge_72 (lv_at hl 0 rfl) ?_
        have g117 := jrg (rfl : x26.toInt = x26.toInt)
        refine lv_iadd hx hb dX1_judge_74 ?_
        refine lv_topi (fun x118 ex118 => ?_)
        have tx118 : x118.toInt = 9 * A1 + x26.toInt := (jadd ex118 tx13 rfl (by omega) (by omega)).trans (by omega)
        refine lv_iconst (v := 0) hx hb dX1_judge_75 (by decide) ?_
        refine jast hx hb hK hP hJ hA hS (jc_34 cI cL ad σ27 τ) (ja_34 cI cL ad σ27 τ _ _) (jin tx118 (by omega) (by omega)) dX1_judge_76 (fun σ119 H locs eσ119 hP hS => ?_)
        refine lv_aload_n hx hb dX1_judge_77 rfl (lv_at hl 6 rfl) ?_
        refine va_get (D := D) hx hb hts inlX1 hown hK hP 31 (jc_31 cI cL ad σ119 τ) rfl 5 (by decide) (hts _ kw_5_6) (fun _ h9 => h9) rfl dX1_judge_78 ?_
        refine lv_iload hx hb dX1_judge_81 (lv_at hl 3 rfl) ?_
        refine lv_iload hx hb dX1_judge_83 (lv_at hl 0 rfl) ?_
        refine lv_iadd hx hb dX1_judge_85 ?_
        refine lv_topi (fun x120 ex120 => ?_)
        have tx120 : x120.toInt = 9 * A1 + x26.toInt := (jadd ex120 tx13 rfl (by omega) (by omega)).trans (by omega)
        refine lv_iconst (v := (-1)) hx hb dX1_judge_86 (by decide) ?_
        refine jast hx hb hK hP hJ hA hS (jc_35 cI cL ad σ119 τ) (ja_35 cI cL ad σ119 τ _ _) (jin tx120 (by omega) (by omega)) dX1_judge_87 (fun σ121 H locs eσ121 hP hS => ?_)
        obtain ⟨x122, ex122⟩ : ∃ y : Int32, y = x26 + 1 := ⟨_, rfl⟩
        have tx122 : x122.toInt = x26.toInt + 1 := (jadd ex122 rfl jz_1 (by omega) (by omega)).trans (by omega)
        refine lv_iinc (v := x122) (lv' := [(10, .int x122), (9, .int x22), (8, .int x14), (7, .int x13), (6, .int x12), (5, .int x9), (0, .ref (ad 31)), (1, .int a1), (2, .ref (ad 17)), (3, .int a3), (4, .int a4)]) hx hb dX1_judge_88 hl (k := 0) rfl (by rw [ex122]; rfl) (by decide) rfl (fun ls hl => ?_)
        refine lv_goto (tgt := 59) hx hb dX1_judge_91 (by decide) ?_
        exact ihlp24 x122 σ121 _ _ ls (by have h90 := tx122; omega) (by have h90 := tx122; omega) (fun i hi => ((jnp i eσ121 (imp_99 i hi)).trans ((jnp i eσ119 (imp_100 i hi)).trans (f30 i hi))))    hP hS (lv_sub hl [0, 1, 2, 3, 4, 5, 6, 7, 8, 9, 10] rfl)
  exact lp24 3000000001 x14 σ _ _ ls (by omega) (by omega) (fun _ _ => rfl)   hP hS hl
set_option maxHeartbeats 4000000 in
set_option maxRecDepth 100000 in
theorem c_X1_seekFor_31 (l : Launch) (D : va_G) (cI cL : ClassId) (ad zz : Nat → Nat) (hJ : jD ad) (σ : Nat → Nat → Int32) (τ : Nat → Nat → Int64) (a2 : Int32) (A2 : Int) (t2 : a2.toInt = A2) (a3 : Int32) (A3 : Int) (t3 : a3.toInt = A3) (a4 : Int32) (A4 : Int) (t4 : a4.toInt = A4) (a5 : Int32) (A5 : Int) (t5 : a5.toInt = A5) (hI16 : jI16 σ) (hI22 : jI22 σ) (hI31 : jI31 σ) : jMv l yX1_seekFor cX1_seekFor 7 none ({ frames := 4, cells := 0, slots := 0, locals := 113 }) D cI cL ad zz [.ref (ad 31), .ref (ad 17), .int a2, .int a3, .int a4, .int a5] σ τ (fun σ' τ' => τ = τ' ∧ (∀ i : Nat, (i < 24 ∨ 25 < i) ∧ (i < 29 ∨ 37 < i) → σ' i = σ i) ∧ (∀ k : Nat, (k < 8 ∨ 8 < k) ∧ (k < 9 ∨ 9 < k) ∧ (k < 10 ∨ 10 < k) ∧ (k < 11 ∨ 11 < k) ∧ (k < 12 ∨ 12 < k) → σ' 31 k = σ 31 k) ∧ (jI31 σ') ∧ True) := by
  refine jMv.of hJ (by decide +kernel) rfl (Nat.le_of_ble_eq_true rfl) ?_
  intro p e s m args below meth c Q ls hC hret hl hP
  obtain ⟨hx, hb, hr, hml, hown, hts, hK, -, hlocks, hZ⟩ := hC
  have hown : s.vm.findClass RX1 = some m.cls := hown
  have hS : va_S (jA ad) s.heap s.heap [] := va_S.rf
  have hA : ∀ q, jA ad q → jA ad q := fun _ h => h
  have hl : lv_has ls 7 [(0, .ref (ad 31)), (1, .ref (ad 17)), (2, .int a2), (3, .int a3), (4, .int a4), (5, .int a5)] := hl
  have g2 := jrg t2
  have g3 := jrg t3
  have g4 := jrg t4
  have g5 := jrg t5
  obtain ⟨i1, w2, w3⟩ : (0 ≤ (σ 31 8).toInt ∧ (σ 31 8).toInt ≤ 350) ∧ (∀ k : Nat, k < 1400 → (-1) ≤ (σ 33 k).toInt ∧ (σ 33 k).toInt ≤ 350) ∧ (∀ k : Nat, k < 1024 → 0 ≤ (σ 36 k).toInt ∧ (σ 36 k).toInt ≤ 349) := id hI31
  refine lv_aload_n hx hb dX1_seekFor_0 rfl (lv_at hl 0 rfl) ?_
  refine lv_iload_n hx hb dX1_seekFor_1 rfl (lv_at hl 2 rfl) ?_
  refine lv_iload_n hx hb dX1_seekFor_2 rfl (lv_at hl 3 rfl) ?_
  refine jcallVv (As := [.int a2, .int a3]) (rest := []) ⟨hx, hb, hml, hown, hts⟩ hK hP hA hS hZ (c_X1_grow_31 l D cI cL ad zz hJ σ τ a2 (A2) t2 a3 (A3) t3 hI31) cw_RX1_54 (jc_31 cI cL ad σ τ) rfl ⟨Nat.le_of_ble_eq_true rfl, Nat.le_of_ble_eq_true rfl⟩ rfl rfl rfl hl.1 rfl (Nat.le_of_ble_eq_true rfl) dX1_seekFor_3 ⟨Nat.zero_le _, Nat.zero_le _⟩ (fun σ4 τ4 H locs h4 hP hS => ?_)
  obtain ⟨rfl, f6, f7, I8, h4⟩ := h4
  obtain ⟨i9, w10, w11⟩ : (0 ≤ (σ4 31 8).toInt ∧ (σ4 31 8).toInt ≤ 350) ∧ (∀ k : Nat, k < 1400 → (-1) ≤ (σ4 33 k).toInt ∧ (σ4 33 k).toInt ≤ 350) ∧ (∀ k : Nat, k < 1024 → 0 ≤ (σ4 36 k).toInt ∧ (σ4 36 k).toInt ≤ 349) := id I8
  refine lv_aload_n hx hb dX1_seekFor_6 rfl (lv_at hl 0 rfl) ?_
  refine va_get (D := D) hx hb hts inlX1 hown hK hP 31 (jc_31 cI cL ad σ4 τ) rfl 8 (by decide) (hts _ kw_27_22) (fun _ h9 => h9) rfl dX1_seekFor_7 ?_
  refine lv_iconst (v := 1) hx hb dX1_seekFor_10 (by decide) ?_
  have g12 := jrg (rfl : (σ4 31 8).toInt = (σ4 31 8).toInt)
  refine lv_isub hx hb dX1_seekFor_11 ?_
  refine lv_topi (fun x13 ex13 => ?_)
  have tx13 : x13.toInt = (σ4 31 8).toInt - 1 := (jsub ex13 rfl jz_1 (by omega) (by omega)).trans (by omega)
  refine lv_istore (lv' := [(6, .int x13), (0, .ref (ad 31)), (1, .ref (ad 17)), (2, .int a2), (3, .int a3), (4, .int a4), (5, .int a5)]) hx hb dX1_seekFor_12 hl (by decide) rfl (fun ls hl => ?_)
  have lp14 : ∀ (n15 : Nat) (x16 : Int32) (σ17 : Nat → Nat → Int32) (H : Heap) (locs : List Loc) (ls : Array Slot), (x16.toInt + 1 : Int) < n15 → (-1) ≤ x16.toInt → x16.toInt ≤ 349 → (∀ i : Nat, (i < 24 ∨ 25 < i) ∧ (i < 29 ∨ 30 < i) ∧ (i < 34 ∨ 35 < i) → σ17 i = σ4 i) → jH D cI cL ad σ17 τ H → va_S (jA ad) s.heap H locs → lv_has ls 7 [(6, .int x16), (0, .ref (ad 31)), (1, .ref (ad 17)), (2, .int a2), (3, .int a3), (4, .int a4), (5, .int a5)] → W p l e ({ frames := 4, cells := 0, slots := 0, locals := 113 }) s m args below meth c H locs 0 0 Q (F0 m 14 ls []) := by
    intro n15
    induction n15 with
    | zero => intro x16 σ17 H locs ls h18 h19 h20; exact absurd h18 (by omega)
    | succ n15 ihlp14 =>
      intro x16 σ17 H locs ls h18 h19 h20 f21 hP hS hl
      refine lv_iload hx hb dX1_seekFor_14 (lv_at hl 0 rfl) ?_
      refine lv_if_lt (tgt := 36) hx hb dX1_seekFor_16 (by decide) (fun c22 => ?_) (fun c22 => ?_)
      · have kc22 := jlt c22 rfl jz_0
        have I23 : jI31 σ17 := jI31_fr (congrFun (f21 31 (by decide)) 8) (f21 33 (by decide)) (f21 36 (by decide)) I8
        exact hret σ17 τ _ _ _ _ ⟨rfl, (fun i hi => ((f21 i (imp_101 i hi)).trans (f6 i (imp_102 i hi)))), (fun i hi => ((congrFun (f21 31 (by decide)) i).trans (f7 i hi))), I23, trivial⟩ hP hS dX1_seekFor_36
      · have kc22 := jnlt c22 rfl jz_0
        refine lv_aload_n hx hb dX1_seekFor_19 rfl (lv_at hl 1 rfl) ?_
        refine lv_iload hx hb dX1_seekFor_20 (lv_at hl 0 rfl) ?_
        refine lv_aload_n hx hb dX1_seekFor_22 rfl (lv_at hl 2 rfl) ?_
        refine lv_iload hx hb dX1_seekFor_23 (lv_at hl 5 rfl) ?_
        refine lv_iload hx hb dX1_seekFor_25 (lv_at hl 6 rfl) ?_
        have I24 : jI16 σ17 := jI16_fr ((congrFun (f21 16 (by decide)) 0).trans (congrFun (f6 16 (by decide)) 0)) ((congrFun (f21 16 (by decide)) 1).trans (congrFun (f6 16 (by decide)) 1)) ((congrFun (f21 16 (by decide)) 2).trans (congrFun (f6 16 (by decide)) 2)) ((f21 17 (by decide)).trans (f6 17 (by decide))) hI16
        have I25 : jI22 σ17 := jI22_fr ((congrFun (f21 22 (by decide)) 0).trans (congrFun (f6 22 (by decide)) 0)) ((f21 23 (by decide)).trans (f6 23 (by decide))) hI22
        have I26 : jI31 σ17 := jI31_fr (congrFun (f21 31 (by decide)) 8) (f21 33 (by decide)) (f21 36 (by decide)) I8
        refine jcallVv (As := [.int x16, .ref (ad 17), .int a4, .int a5]) (rest := []) ⟨hx, hb, hml, hown, hts⟩ hK hP hA hS hZ (c_X1_judge_31 l D cI cL ad zz hJ σ17 τ x16 (x16.toInt) rfl a4 (A4) t4 a5 (A5) t5 I24 I25 I26 (by omega)) cw_RX1_61 (jc_31 cI cL ad σ17 τ) rfl ⟨Nat.le_of_ble_eq_true rfl, Nat.le_of_ble_eq_true rfl⟩ rfl rfl rfl hl.1 rfl (Nat.le_of_ble_eq_true rfl) dX1_seekFor_27 ⟨Nat.zero_le _, Nat.zero_le _⟩ (fun σ27 τ27 H locs h27 hP hS => ?_)
        obtain ⟨rfl, f29, h27⟩ := h27
        obtain ⟨x30, ex30⟩ : ∃ y : Int32, y = x16 + (-1) := ⟨_, rfl⟩
        have tx30 : x30.toInt = x16.toInt - 1 := (jadd ex30 rfl jz_m1 (by omega) (by omega)).trans (by omega)
        refine lv_iinc (v := x30) (lv' := [(6, .int x30), (0, .ref (ad 31)), (1, .ref (ad 17)), (2, .int a2), (3, .int a3), (4, .int a4), (5, .int a5)]) hx hb dX1_seekFor_30 hl (k := 0) rfl (by rw [ex30]; rfl) (by decide) rfl (fun ls hl => ?_)
        refine lv_goto (tgt := 14) hx hb dX1_seekFor_33 (by decide) ?_
        exact ihlp14 x30 σ27 _ _ ls (by have h90 := tx30; omega) (by have h90 := tx30; omega) (by have h90 := tx30; omega) (fun i hi => ((f29 i hi).trans (f21 i hi)))    hP hS (lv_sub hl [0, 1, 2, 3, 4, 5, 6] rfl)
  exact lp14 1000000 x13 σ4 _ _ ls (by have h90 := tx13; omega) (by have h90 := tx13; omega) (by have h90 := tx13; omega) (fun _ _ => rfl)   hP hS hl
set_option maxHeartbeats 4000000 in
set_option maxRecDepth 100000 in
theorem c_X1_judge_31_v1 (l : Launch) (D : va_G) (cI cL : ClassId) (ad zz : Nat → Nat) (hJ : jD ad) (σ : Nat → Nat → Int32) (τ : Nat → Nat → Int64) (a1 : Int32) (A1 : Int) (t1 : a1.toInt = A1) (a3 : Int32) (A3 : Int) (t3 : a3.toInt = A3) (a4 : Int32) (A4 : Int) (t4 : a4.toInt = A4) (hI16 : jI16 σ) (hI22 : jI22 σ) (hI31 : jI31 σ) (hp0 : 0 ≤ A1 ∧ A1 ≤ 349) : jMv l yX1_judge cX1_judge 18 none ({ frames := 3, cells := 0, slots := 0, locals := 76 }) D cI cL ad zz [.ref (ad 31), .int a1, .ref (ad 1), .int a3, .int a4] σ τ (fun σ' τ' => τ = τ' ∧ (∀ i : Nat, (i < 24 ∨ 25 < i) ∧ (i < 29 ∨ 30 < i) ∧ (i < 34 ∨ 35 < i) → σ' i = σ i) ∧ True) := by
  refine jMv.of hJ (by decide +kernel) rfl (Nat.le_of_ble_eq_true rfl) ?_
  intro p e s m args below meth c Q ls hC hret hl hP
  obtain ⟨hx, hb, hr, hml, hown, hts, hK, -, hlocks, hZ⟩ := hC
  have hown : s.vm.findClass RX1 = some m.cls := hown
  have hS : va_S (jA ad) s.heap s.heap [] := va_S.rf
  have hA : ∀ q, jA ad q → jA ad q := fun _ h => h
  have hl : lv_has ls 18 [(0, .ref (ad 31)), (1, .int a1), (2, .ref (ad 1)), (3, .int a3), (4, .int a4)] := hl
  have g1 := jrg t1
  have g3 := jrg t3
  have g4 := jrg t4
  obtain ⟨i1, i2, i3, w4⟩ : (1 ≤ (σ 16 0).toInt ∧ (σ 16 0).toInt ≤ 8) ∧ (1 ≤ (σ 16 1).toInt ∧ (σ 16 1).toInt ≤ 12) ∧ (0 ≤ (σ 16 2).toInt ∧ (σ 16 2).toInt ≤ 999) ∧ (∀ k : Nat, k < 8 → 0 ≤ (σ 17 k).toInt ∧ (σ 17 k).toInt ≤ 3) := id hI16
  obtain ⟨i5, w6, w7⟩ : (0 ≤ (σ 31 8).toInt ∧ (σ 31 8).toInt ≤ 350) ∧ (∀ k : Nat, k < 1400 → (-1) ≤ (σ 33 k).toInt ∧ (σ 33 k).toInt ≤ 350) ∧ (∀ k : Nat, k < 1024 → 0 ≤ (σ 36 k).toInt ∧ (σ 36 k).toInt ≤ 349) := id hI31
  refine lv_aload_n hx hb dX1_judge_0 rfl (lv_at hl 0 rfl) ?_
  refine va_get (D := D) hx hb hts inlX1 hown hK hP 31 (jc_31 cI cL ad σ τ) rfl 2 (by decide) (hts _ kw_5_3) (fun _ h9 => h9) rfl dX1_judge_1 ?_
  refine lv_iload_n hx hb dX1_judge_4 rfl (lv_at hl 1 rfl) ?_
  refine jald hx hb hK hP (jc_32 cI cL ad σ τ) (jin t1 (by omega) (by omega)) dX1_judge_5 ?_
  refine lv_topi (fun x8 ex8 => ?_)
  refine lv_ldc (v := 134217727) hx hb hown (hts _ kw_28_10) dX1_judge_6 ?_
  refine lv_iand hx hb dX1_judge_8 ?_
  refine lv_topi (fun x9 ex9 => ?_)
  have gx9 := jrg (rfl : x9.toInt = x9.toInt)
  have g10 : 0 ≤ x9.toInt ∧ x9.toInt ≤ 134217727 := jmask ex9 27 (by decide) (by decide)
  refine lv_istore (lv' := [(5, .int x9), (0, .ref (ad 31)), (1, .int a1), (2, .ref (ad 1)), (3, .int a3), (4, .int a4)]) hx hb dX1_judge_9 hl (by decide) rfl (fun ls hl => ?_)
  refine lv_aload_n hx hb dX1_judge_11 rfl (lv_at hl 1 rfl) ?_
  refine va_get (D := D) hx hb hts inlX1 hown hK hP 31 (jc_31 cI cL ad σ τ) rfl 2 (by decide) (hts _ kw_5_3) (fun _ h9 => h9) rfl dX1_judge_12 ?_
  refine lv_iload_n hx hb dX1_judge_15 rfl (lv_at hl 2 rfl) ?_
  refine jald hx hb hK hP (jc_32 cI cL ad σ τ) (jin t1 (by omega) (by omega)) dX1_judge_16 ?_
  refine lv_topi (fun x11 ex11 => ?_)
  refine lv_bipush (v := 27) hx hb dX1_judge_17 (by decide) ?_
  refine lv_ishr hx hb dX1_judge_19 ?_
  refine lv_topi (fun x12 ex12 => ?_)
  have gx12 := jrg (rfl : x12.toInt = x12.toInt)
  refine lv_istore (lv' := [(6, .int x12), (5, .int x9), (0, .ref (ad 31)), (1, .int a1), (2, .ref (ad 1)), (3, .int a3), (4, .int a4)]) hx hb dX1_judge_20 hl (by decide) rfl (fun ls hl => ?_)
  refine lv_iload_n hx hb dX1_judge_22 rfl (lv_at hl 3 rfl) ?_
  refine lv_bipush (v := 9) hx hb dX1_judge_23 (by decide) ?_
  refine lv_imul hx hb dX1_judge_25 ?_
  refine lv_topi (fun x13 ex13 => ?_)
  have tx13 : x13.toInt = 9 * A1 := (jmul ex13 t1 jz_9 (by omega) (by omega)).trans (by omega)
  refine lv_istore (lv' := [(7, .int x13), (6, .int x12), (5, .int x9), (0, .ref (ad 31)), (1, .int a1), (2, .ref (ad 1)), (3, .int a3), (4, .int a4)]) hx hb dX1_judge_26 hl (by decide) rfl (fun ls hl => ?_)
  refine lv_iconst (v := 0) hx hb dX1_judge_28 (by decide) ?_
  refine lv_iload_n hx hb dX1_judge_29 rfl (lv_at hl 6 rfl) ?_
  refine va_mmax hx hb (hml.trans hl.1.symm) hown (hts _ kw_28_5) (hts _ kw_21_0) (hts _ kw_21_1) (hts _ kw_21_2) (Nat.le_of_ble_eq_true rfl) (Nat.le_of_ble_eq_true rfl) (Nat.le_of_ble_eq_true rfl) (Nat.le_of_ble_eq_true rfl) dX1_judge_30 ?_
  refine lv_topi (fun x14 ex14 => ?_)
  have g15 := jmax ex14 jz_0 t3
  refine lv_istore (lv' := [(8, .int x14), (7, .int x13), (6, .int x12), (5, .int x9), (0, .ref (ad 31)), (1, .int a1), (2, .ref (ad 1)), (3, .int a3), (4, .int a4)]) hx hb dX1_judge_33 hl (by decide) rfl (fun ls hl => ?_)
  refine lv_iload hx hb dX1_judge_35 (lv_at hl 8 rfl) ?_
  refine lv_aload_n hx hb dX1_judge_37 rfl (lv_at hl 6 rfl) ?_
  refine jalen (v := 8) hx hb hK hP (jc_1 cI cL ad σ τ) (by decide) dX1_judge_38 ?_
  refine lv_iconst (v := 1) hx hb dX1_judge_39 (by decide) ?_
  refine lv_isub hx hb dX1_judge_40 ?_
  refine jtopr (y := 7) (by decide) ?_
  refine va_mmin hx hb (hml.trans hl.1.symm) hown (hts _ kw_28_4) (hts _ kw_22_11) (hts _ kw_21_1) (hts _ kw_22_12) (Nat.le_of_ble_eq_true rfl) (Nat.le_of_ble_eq_true rfl) (Nat.le_of_ble_eq_true rfl) (Nat.le_of_ble_eq_true rfl) dX1_judge_41 ?_
  refine lv_topi (fun x16 ex16 => ?_)
  have g17 := jmin ex16 t4 jz_7
  refine lv_iload_n hx hb dX1_judge_44 rfl (lv_at hl 7 rfl) ?_
  refine lv_iconst (v := 1) hx hb dX1_judge_45 (by decide) ?_
  refine lv_iadd hx hb dX1_judge_46 ?_
  refine lv_topi (fun x18 ex18 => ?_)
  have gx18 := jrg (rfl : x18.toInt = x18.toInt)
  refine lv_iload hx hb dX1_judge_47 (lv_at hl 2 rfl) ?_
  have g19 := jrg (rfl : x18.toInt = x18.toInt)
  have g20 := jrg (rfl : x12.toInt = x12.toInt)
  refine lv_iadd hx hb dX1_judge_49 ?_
  refine lv_topi (fun x21 ex21 => ?_)
  have gx21 := jrg (rfl : x21.toInt = x21.toInt)
  refine va_mmin hx hb (hml.trans hl.1.symm) hown (hts _ kw_28_4) (hts _ kw_22_11) (hts _ kw_21_1) (hts _ kw_22_12) (Nat.le_of_ble_eq_true rfl) (Nat.le_of_ble_eq_true rfl) (Nat.le_of_ble_eq_true rfl) (Nat.le_of_ble_eq_true rfl) dX1_judge_50 ?_
  refine lv_topi (fun x22 ex22 => ?_)
  have g23 := jmin ex22 rfl rfl
  refine lv_istore (lv' := [(9, .int x22), (8, .int x14), (7, .int x13), (6, .int x12), (5, .int x9), (0, .ref (ad 31)), (1, .int a1), (2, .ref (ad 1)), (3, .int a3), (4, .int a4)]) hx hb dX1_judge_53 hl (by decide) rfl (fun ls hl => ?_)
  refine lv_iload hx hb dX1_judge_55 (lv_at hl 1 rfl) ?_
  refine lv_istore (lv' := [(10, .int x14), (9, .int x22), (8, .int x14), (7, .int x13), (6, .int x12), (5, .int x9), (0, .ref (ad 31)), (1, .int a1), (2, .ref (ad 1)), (3, .int a3), (4, .int a4)]) hx hb dX1_judge_57 hl (by decide) rfl (fun ls hl => ?_)
  have lp24 : ∀ (n25 : Nat) (x26 : Int32) (σ27 : Nat → Nat → Int32) (H : Heap) (locs : List Loc) (ls : Array Slot), (-x26.toInt + 3000000000 : Int) < n25 → 0 ≤ x26.toInt → (∀ i : Nat, (i < 34 ∨ 35 < i) → σ27 i = σ i) → jH D cI cL ad σ27 τ H → va_S (jA ad) s.heap H locs → lv_has ls 18 [(10, .int x26), (9, .int x22), (8, .int x14), (7, .int x13), (6, .int x12), (5, .int x9), (0, .ref (ad 31)), (1, .int a1), (2, .ref (ad 1)), (3, .int a3), (4, .int a4)] → W p l e ({ frames := 3, cells := 0, slots := 0, locals := 76 }) s m args below meth c H locs 0 0 Q (F0 m 59 ls []) := by
    intro n25
    induction n25 with
    | zero => intro x26 σ27 H locs ls h28 h29; have gx26 := jrg (rfl : x26.toInt = x26.toInt); exact absurd h28 (by omega)
    | succ n25 ihlp24 =>
      intro x26 σ27 H locs ls h28 h29 f30 hP hS hl
      have gx26 := jrg (rfl : x26.toInt = x26.toInt)
      refine lv_iload hx hb dX1_judge_59 (lv_at hl 0 rfl) ?_
      refine lv_iload hx hb dX1_judge_61 (lv_at hl 1 rfl) ?_
      refine lv_icmp_gt (tgt := 94) hx hb dX1_judge_63 (by decide) (fun c31 => ?_) (fun c31 => ?_)
      · have kc31 := jlt c31 rfl rfl
        refine lv_aload_n hx hb dX1_judge_94 rfl (lv_at hl 6 rfl) ?_
        refine va_get (D := D) hx hb hts inlX1 hown hK hP 31 (jc_31 cI cL ad σ27 τ) rfl 4 (by decide) (hts _ kw_5_5) (fun _ h9 => h9) rfl dX1_judge_95 ?_
        refine lv_iload hx hb dX1_judge_98 (lv_at hl 3 rfl) ?_
        refine lv_aload_n hx hb dX1_judge_100 rfl (lv_at hl 6 rfl) ?_
        refine va_get (D := D) hx hb hts inlX1 hown hK hP 31 (jc_31 cI cL ad σ27 τ) rfl 1 (by decide) (hts _ kw_5_11) (fun _ h9 => h9) rfl dX1_judge_101 ?_
        refine va_get (D := D) hx hb hts inlX6 hown hK hP 16 (jc_16 cI cL ad σ27 τ) rfl 0 (by decide) (hts _ kw_27_17) (fun _ h9 => h9) rfl dX1_judge_104 ?_
        have m32 : σ27 16 0 = (σ 16 0) := (congrFun (f30 16 (by decide)) 0)
        refine jtopr m32 ?_
        have g33 := jrg (rfl : (σ 16 0).toInt = (σ 16 0).toInt)
        refine lv_iadd hx hb dX1_judge_107 ?_
        refine lv_topi (fun x34 ex34 => ?_)
        have tx34 : x34.toInt = 9 * A1 + (σ 16 0).toInt := (jadd ex34 tx13 rfl (by omega) (by omega)).trans (by omega)
        refine lv_iconst (v := 0) hx hb dX1_judge_108 (by decide) ?_
        refine jast hx hb hK hP hJ hA hS (jc_34 cI cL ad σ27 τ) (ja_34 cI cL ad σ27 τ _ _) (jin tx34 (by omega) (by omega)) dX1_judge_109 (fun σ35 H locs eσ35 hP hS => ?_)
        refine lv_iconst (v := 0) hx hb dX1_judge_110 (by decide) ?_
        refine lv_istore (lv' := [(10, .int 0), (9, .int x22), (8, .int x14), (7, .int x13), (6, .int x12), (5, .int x9), (0, .ref (ad 31)), (1, .int a1), (2, .ref (ad 1)), (3, .int a3), (4, .int a4)]) hx hb dX1_judge_111 hl (by decide) rfl (fun ls hl => ?_)
        have lp36 : ∀ (n37 : Nat) (x38 : Int32) (σ46 : Nat → Nat → Int32) (H : Heap) (locs : List Loc) (ls : Array Slot), (-x38.toInt + 4 : Int) < n37 → 0 ≤ x38.toInt → x38.toInt ≤ 4 → (∀ i : Nat, (i < 24 ∨ 25 < i) ∧ (i < 29 ∨ 30 < i) ∧ (i < 34 ∨ 35 < i) → σ46 i = σ35 i) → jH D cI cL ad σ46 τ H → va_S (jA ad) s.heap H locs → lv_has ls 18 [(10, .int x38), (9, .int x22), (8, .int x14), (7, .int x13), (6, .int x12), (5, .int x9), (0, .ref (ad 31)), (1, .int a1), (2, .ref (ad 1)), (3, .int a3), (4, .int a4)] → W p l e ({ frames := 3, cells := 0, slots := 0, locals := 76 }) s m args below meth c H locs 0 0 Q (F0 m 113 ls []) := by
          intro n37
          induction n37 with
          | zero => intro x38 σ46 H locs ls h47 h48 h49; exact absurd h47 (by omega)
          | succ n37 ihlp36 =>
            intro x38 σ46 H locs ls h47 h48 h49 f50 hP hS hl
            refine lv_iload hx hb dX1_judge_113 (lv_at hl 0 rfl) ?_
            refine lv_iconst (v := 4) hx hb dX1_judge_115 (by decide) ?_
            refine lv_icmp_ge (tgt := 316) hx hb dX1_judge_116 (by decide) (fun c51 => ?_) (fun c51 => ?_)
            · have kc51 := jle c51 jz_4 rfl
              exact hret σ46 τ _ _ _ _ ⟨rfl, (fun i hi => ((f50 i hi).trans ((jnp i eσ35 (imp_95 i hi)).trans (f30 i (imp_96 i hi))))), trivial⟩ hP hS dX1_judge_316
            · have kc51 := jnle c51 jz_4 rfl
              refine lv_aload_n hx hb dX1_judge_119 rfl (lv_at hl 6 rfl) ?_
              refine va_get (D := D) hx hb hts inlX1 hown hK hP 31 (jc_31 cI cL ad σ46 τ) rfl 3 (by decide) (hts _ kw_5_4) (fun _ h9 => h9) rfl dX1_judge_120 ?_
              refine lv_iload_n hx hb dX1_judge_123 rfl (lv_at hl 7 rfl) ?_
              refine lv_iconst (v := 4) hx hb dX1_judge_124 (by decide) ?_
              refine lv_imul hx hb dX1_judge_125 ?_
              refine lv_topi (fun x52 ex52 => ?_)
              have tx52 : x52.toInt = 4 * A1 := (jmul ex52 t1 jz_4 (by omega) (by omega)).trans (by omega)
              refine lv_iload hx hb dX1_judge_126 (lv_at hl 0 rfl) ?_
              have g53 := jrg (rfl : x38.toInt = x38.toInt)
              refine lv_iadd hx hb dX1_judge_128 ?_
              refine lv_topi (fun x54 ex54 => ?_)
              have tx54 : x54.toInt = 4 * A1 + x38.toInt := (jadd ex54 tx52 rfl (by omega) (by omega)).trans (by omega)
              refine jald hx hb hK hP (jc_33 cI cL ad σ46 τ) (jin tx54 (by omega) (by omega)) dX1_judge_129 ?_
              have w55 : ∀ k : Nat, k < 1400 → (-1) ≤ (σ46 33 k).toInt ∧ (σ46 33 k).toInt ≤ 350 := (jrr_fr (f50 33 (by decide)) (jrr_fr (jnp 33 eσ35 (by decide)) (jrr_fr (f30 33 (by decide)) w6)))
              have g56 := w55 _ (jnat (x := x54) tx54 (n := 1400) (by omega) (by decide))
              refine lv_topi (fun x57 ex57 => ?_)
              rw [← ex57] at g56
              refine lv_bipush (v := 9) hx hb dX1_judge_130 (by decide) ?_
              have g58 := jrg (rfl : x57.toInt = x57.toInt)
              refine lv_imul hx hb dX1_judge_132 ?_
              refine lv_topi (fun x59 ex59 => ?_)
              have tx59 : x59.toInt = 9 * x57.toInt := (jmul ex59 rfl jz_9 (by omega) (by omega)).trans (by omega)
              refine lv_istore (lv' := [(11, .int x59), (10, .int x38), (9, .int x22), (8, .int x14), (7, .int x13), (6, .int x12), (5, .int x9), (0, .ref (ad 31)), (1, .int a1), (2, .ref (ad 1)), (3, .int a3), (4, .int a4)]) hx hb dX1_judge_133 hl (by decide) rfl (fun ls hl => ?_)
              refine lv_iload hx hb dX1_judge_135 (lv_at hl 0 rfl) ?_
              refine lv_if_ge (tgt := 143) hx hb dX1_judge_137 (by decide) (fun c60 => ?_) (fun c60 => ?_)
              · have kc60 := jle c60 jz_0 tx59
                refine lv_iload hx hb dX1_judge_143 (lv_at hl 6 rfl) ?_
                refine lv_iload hx hb dX1_judge_145 (lv_at hl 1 rfl) ?_
                refine jcallS (As := [.int x9, .int x38]) (rest := []) ⟨hx, hb, hml, hown, hts⟩ hK hP hA hS hZ (c_X0_steps l D cI cL ad zz hJ σ46 τ x9 (x9.toInt) rfl x38 (x38.toInt) rfl) cw_RX1_136 ⟨Nat.le_of_ble_eq_true rfl, Nat.le_of_ble_eq_true rfl⟩ rfl rfl rfl hl.1 rfl (Nat.le_of_ble_eq_true rfl) dX1_judge_147 ⟨Nat.zero_le _, Nat.zero_le _⟩ (fun r62 σ61 τ61 H locs h61 hP hS => ?_)
                obtain ⟨⟨rfl, rfl⟩, h61⟩ := h61
                refine lv_istore (lv' := [(12, .int r62), (11, .int x59), (10, .int x38), (9, .int x22), (8, .int x14), (7, .int x13), (6, .int x12), (5, .int x9), (0, .ref (ad 31)), (1, .int a1), (2, .ref (ad 1)), (3, .int a3), (4, .int a4)]) hx hb dX1_judge_150 hl (by decide) rfl (fun ls hl => ?_)
                refine lv_iload hx hb dX1_judge_152 (lv_at hl 7 rfl) ?_
                refine lv_iload hx hb dX1_judge_154 (lv_at hl 2 rfl) ?_
                refine jcallS (As := [.int x9, .int x38]) (rest := []) ⟨hx, hb, hml, hown, hts⟩ hK hP hA hS hZ (c_X0_left l D cI cL ad zz hJ σ46 τ x9 (x9.toInt) rfl x38 (x38.toInt) rfl) cw_RX1_123 ⟨Nat.le_of_ble_eq_true rfl, Nat.le_of_ble_eq_true rfl⟩ rfl rfl rfl hl.1 rfl (Nat.le_of_ble_eq_true rfl) dX1_judge_156 ⟨Nat.zero_le _, Nat.zero_le _⟩ (fun r64 σ63 τ63 H locs h63 hP hS => ?_)
                obtain ⟨⟨rfl, rfl⟩, h63⟩ := h63
                refine lv_istore (lv' := [(13, .int r64), (12, .int r62), (11, .int x59), (10, .int x38), (9, .int x22), (8, .int x14), (7, .int x13), (6, .int x12), (5, .int x9), (0, .ref (ad 31)), (1, .int a1), (2, .ref (ad 1)), (3, .int a3), (4, .int a4)]) hx hb dX1_judge_159 hl (by decide) rfl (fun ls hl => ?_)
                refine lv_iload hx hb dX1_judge_161 (lv_at hl 5 rfl) ?_
                refine lv_istore (lv' := [(14, .int x14), (13, .int r64), (12, .int r62), (11, .int x59), (10, .int x38), (9, .int x22), (8, .int x14), (7, .int x13), (6, .int x12), (5, .int x9), (0, .ref (ad 31)), (1, .int a1), (2, .ref (ad 1)), (3, .int a3), (4, .int a4)]) hx hb dX1_judge_163 hl (by decide) rfl (fun ls hl => ?_)
                have lp65 : ∀ (n66 : Nat) (x67 : Int32) (σ71 : Nat → Nat → Int32) (H : Heap) (locs : List Loc) (ls : Array Slot), (-x67.toInt + 3000000000 : Int) < n66 → 0 ≤ x67.toInt → (∀ i : Nat, (i < 24 ∨ 25 < i) ∧ (i < 29 ∨ 30 < i) ∧ (i < 34 ∨ 35 < i) → σ71 i = σ46 i) → jH D cI cL ad σ71 τ H → va_S (jA ad) s.heap H locs → lv_has ls 18 [(14, .int x67), (13, .int r64), (12, .int r62), (11, .int x59), (10, .int x38), (9, .int x22), (8, .int x14), (7, .int x13), (6, .int x12), (5, .int x9), (0, .ref (ad 31)), (1, .int a1), (2, .ref (ad 1)), (3, .int a3), (4, .int a4)] → W p l e ({ frames := 3, cells := 0, slots := 0, locals := 76 }) s m args below meth c H locs 0 0 Q (F0 m 165 ls []) := by
                  intro n66
                  induction n66 with
                  | zero => intro x67 σ71 H locs ls h72 h73; have gx67 := jrg (rfl : x67.toInt = x67.toInt); exact absurd h72 (by omega)
                  | succ n66 ihlp65 =>
                    intro x67 σ71 H locs ls h72 h73 f74 hP hS hl
                    have gx67 := jrg (rfl : x67.toInt = x67.toInt)
                    refine lv_iload hx hb dX1_judge_165 (lv_at hl 0 rfl) ?_
                    refine lv_iload hx hb dX1_judge_167 (lv_at hl 5 rfl) ?_
                    refine lv_icmp_gt (tgt := 310) hx hb dX1_judge_169 (by decide) (fun c75 => ?_) (fun c75 => ?_)
                    · have kc75 := jlt c75 rfl rfl
                      obtain ⟨x76, ex76⟩ : ∃ y : Int32, y = x38 + 1 := ⟨_, rfl⟩
                      have tx76 : x76.toInt = x38.toInt + 1 := (jadd ex76 rfl jz_1 (by omega) (by omega)).trans (by omega)
                      refine lv_iinc (v := x76) (lv' := [(10, .int x76), (14, .int x67), (13, .int r64), (12, .int r62), (11, .int x59), (9, .int x22), (8, .int x14), (7, .int x13), (6, .int x12), (5, .int x9), (0, .ref (ad 31)), (1, .int a1), (2, .ref (ad 1)), (3, .int a3), (4, .int a4)]) hx hb dX1_judge_310 hl (k := 4) rfl (by rw [ex76]; rfl) (by decide) rfl (fun ls hl => ?_)
                      refine lv_goto (tgt := 113) hx hb dX1_judge_313 (by decide) ?_
                      exact ihlp36 x76 σ71 _ _ ls (by have h90 := tx76; omega) (by have h90 := tx76; omega) (by have h90 := tx76; omega) (fun i hi => ((f74 i hi).trans (f50 i hi)))    hP hS (lv_sub hl [0, 5, 6, 7, 8, 9, 10, 11, 12, 13, 14] rfl)
                    · have kc75 := jnlt c75 rfl rfl
                      refine lv_aload_n hx hb dX1_judge_172 rfl (lv_at hl 10 rfl) ?_
                      refine va_get (D := D) hx hb hts inlX1 hown hK hP 31 (jc_31 cI cL ad σ71 τ) rfl 0 (by decide) (hts _ kw_5_10) (fun _ h9 => h9) rfl dX1_judge_173 ?_
                      refine lv_iload hx hb dX1_judge_176 (lv_at hl 4 rfl) ?_
                      refine lv_aload_n hx hb dX1_judge_178 rfl (lv_at hl 12 rfl) ?_
                      refine lv_iload hx hb dX1_judge_179 (lv_at hl 0 rfl) ?_
                      refine jald hx hb hK hP (jc_1 cI cL ad σ71 τ) (jin rfl (by omega) (by omega)) dX1_judge_181 ?_
                      refine lv_topi (fun x77 ex77 => ?_)
                      refine lv_iload hx hb dX1_judge_182 (lv_at hl 2 rfl) ?_
                      refine jcallV (As := [.int x38, .int x77, .int r62]) (rest := []) ⟨hx, hb, hml, hown, hts⟩ hK hP hA hS hZ (c_X5_runsOf_26 l D cI cL ad zz hJ σ71 τ x38 (x38.toInt) rfl x77 (x77.toInt) rfl r62 (r62.toInt) rfl) cw_RX1_139 (jc_26 cI cL ad σ71 τ) rfl ⟨Nat.le_of_ble_eq_true rfl, Nat.le_of_ble_eq_true rfl⟩ rfl rfl rfl hl.1 rfl (Nat.le_of_ble_eq_true rfl) dX1_judge_184 ⟨Nat.zero_le _, Nat.zero_le _⟩ (fun r79 σ78 τ78 H locs h78 hP hS => ?_)
                      obtain ⟨⟨rfl, rfl⟩, h78⟩ := h78
                      refine lv_istore (lv' := [(15, .int r79), (14, .int x67), (13, .int r64), (12, .int r62), (11, .int x59), (10, .int x38), (9, .int x22), (8, .int x14), (7, .int x13), (6, .int x12), (5, .int x9), (0, .ref (ad 31)), (1, .int a1), (2, .ref (ad 1)), (3, .int a3), (4, .int a4)]) hx hb dX1_judge_187 hl (by decide) rfl (fun ls hl => ?_)
                      refine lv_aload_n hx hb dX1_judge_189 rfl (lv_at hl 11 rfl) ?_
                      refine va_get (D := D) hx hb hts inlX1 hown hK hP 31 (jc_31 cI cL ad σ71 τ) rfl 0 (by decide) (hts _ kw_5_10) (fun _ h9 => h9) rfl dX1_judge_190 ?_
                      refine lv_iload hx hb dX1_judge_193 (lv_at hl 5 rfl) ?_
                      refine lv_aload_n hx hb dX1_judge_195 rfl (lv_at hl 13 rfl) ?_
                      refine lv_iload hx hb dX1_judge_196 (lv_at hl 1 rfl) ?_
                      refine jald hx hb hK hP (jc_1 cI cL ad σ71 τ) (jin rfl (by omega) (by omega)) dX1_judge_198 ?_
                      refine lv_topi (fun x80 ex80 => ?_)
                      refine lv_iload hx hb dX1_judge_199 (lv_at hl 3 rfl) ?_
                      refine lv_iload hx hb dX1_judge_201 (lv_at hl 2 rfl) ?_
                      refine lv_aload_n hx hb dX1_judge_203 rfl (lv_at hl 11 rfl) ?_
                      refine va_get (D := D) hx hb hts inlX1 hown hK hP 31 (jc_31 cI cL ad σ71 τ) rfl 10 (by decide) (hts _ kw_28_9) (fun _ h9 => h9) rfl dX1_judge_204 ?_
                      have m81 : σ71 31 10 = (σ 31 10) := ((congrFun (f74 31 (by decide)) 10).trans ((congrFun (f50 31 (by decide)) 10).trans ((congrFun (jnp 31 eσ35 (by decide)) 10).trans (congrFun (f30 31 (by decide)) 10))))
                      refine jtopr m81 ?_
                      refine lv_iload hx hb dX1_judge_207 (lv_at hl 9 rfl) ?_
                      have g82 := jrg (rfl : (σ 31 10).toInt = (σ 31 10).toInt)
                      refine lv_iadd hx hb dX1_judge_209 ?_
                      refine lv_topi (fun x83 ex83 => ?_)
                      have gx83 := jrg (rfl : x83.toInt = x83.toInt)
                      refine lv_iload hx hb dX1_judge_210 (lv_at hl 1 rfl) ?_
                      have I84 : jI22 σ71 := jI22_fr ((congrFun (f74 22 (by decide)) 0).trans ((congrFun (f50 22 (by decide)) 0).trans ((congrFun (jnp 22 eσ35 (by decide)) 0).trans (congrFun (f30 22 (by decide)) 0)))) ((f74 23 (by decide)).trans ((f50 23 (by decide)).trans ((jnp 23 eσ35 (by decide)).trans (f30 23 (by decide))))) hI22
                      refine jcallV (As := [.int x38, .int x80, .int r62, .int r64, .int x83, .int x67]) (rest := []) ⟨hx, hb, hml, hown, hts⟩ hK hP hA hS hZ (c_X5_outOf_26 l D cI cL ad zz hJ σ71 τ x38 (x38.toInt) rfl x80 (x80.toInt) rfl r62 (r62.toInt) rfl r64 (r64.toInt) rfl x83 (x83.toInt) rfl x67 (x67.toInt) rfl I84) cw_RX1_142 (jc_26 cI cL ad σ71 τ) rfl ⟨Nat.le_of_ble_eq_true rfl, Nat.le_of_ble_eq_true rfl⟩ rfl rfl rfl hl.1 rfl (Nat.le_of_ble_eq_true rfl) dX1_judge_212 ⟨Nat.zero_le _, Nat.zero_le _⟩ (fun r86 σ85 τ85 H locs h85 hP hS => ?_)
                      obtain ⟨rfl, f87, h85⟩ := h85
                      refine lv_istore (lv' := [(16, .int r86), (15, .int r79), (14, .int x67), (13, .int r64), (12, .int r62), (11, .int x59), (10, .int x38), (9, .int x22), (8, .int x14), (7, .int x13), (6, .int x12), (5, .int x9), (0, .ref (ad 31)), (1, .int a1), (2, .ref (ad 1)), (3, .int a3), (4, .int a4)]) hx hb dX1_judge_215 hl (by decide) rfl (fun ls hl => ?_)
                      refine lv_aload_n hx hb dX1_judge_217 rfl (lv_at hl 12 rfl) ?_
                      refine va_get (D := D) hx hb hts inlX1 hown hK hP 31 (jc_31 cI cL ad σ85 τ) rfl 1 (by decide) (hts _ kw_5_11) (fun _ h9 => h9) rfl dX1_judge_218 ?_
                      refine lv_iload hx hb dX1_judge_221 (lv_at hl 1 rfl) ?_
                      refine lv_iload hx hb dX1_judge_223 (lv_at hl 0 rfl) ?_
                      refine lv_aload_n hx hb dX1_judge_225 rfl (lv_at hl 12 rfl) ?_
                      refine va_get (D := D) hx hb hts inlX1 hown hK hP 31 (jc_31 cI cL ad σ85 τ) rfl 4 (by decide) (hts _ kw_5_5) (fun _ h9 => h9) rfl dX1_judge_226 ?_
                      refine lv_iload hx hb dX1_judge_229 (lv_at hl 5 rfl) ?_
                      refine lv_iload hx hb dX1_judge_231 (lv_at hl 2 rfl) ?_
                      have g88 := jrg (rfl : x67.toInt = x67.toInt)
                      refine lv_iadd hx hb dX1_judge_233 ?_
                      refine lv_topi (fun x89 ex89 => ?_)
                      have tx89 : x89.toInt = 9 * x57.toInt + x67.toInt := (jadd ex89 tx59 rfl (by omega) (by omega)).trans (by omega)
                      refine lv_iconst (v := 1) hx hb dX1_judge_234 (by decide) ?_
                      refine lv_iadd hx hb dX1_judge_235 ?_
                      refine lv_topi (fun x90 ex90 => ?_)
                      have tx90 : x90.toInt = 9 * x57.toInt + x67.toInt + 1 := (jadd ex90 tx89 jz_1 (by omega) (by omega)).trans (by omega)
                      refine jald hx hb hK hP (jc_34 cI cL ad σ85 τ) (jin tx90 (by omega) (by omega)) dX1_judge_236 ?_
                      refine lv_topi (fun x91 ex91 => ?_)
                      refine lv_aload_n hx hb dX1_judge_237 rfl (lv_at hl 12 rfl) ?_
                      refine va_get (D := D) hx hb hts inlX1 hown hK hP 31 (jc_31 cI cL ad σ85 τ) rfl 4 (by decide) (hts _ kw_5_5) (fun _ h9 => h9) rfl dX1_judge_238 ?_
                      refine lv_iload hx hb dX1_judge_241 (lv_at hl 5 rfl) ?_
                      refine lv_iload hx hb dX1_judge_243 (lv_at hl 2 rfl) ?_
                      refine lv_iadd hx hb dX1_judge_245 ?_
                      refine lv_topi (fun x92 ex92 => ?_)
                      have tx92 : x92.toInt = 9 * x57.toInt + x67.toInt := (jadd ex92 tx59 rfl (by omega) (by omega)).trans (by omega)
                      refine jald hx hb hK hP (jc_34 cI cL ad σ85 τ) (jin tx92 (by omega) (by omega)) dX1_judge_246 ?_
                      refine lv_topi (fun x93 ex93 => ?_)
                      refine jcallV (As := [.int r79, .int r86, .int x91, .int x93]) (rest := []) ⟨hx, hb, hml, hown, hts⟩ hK hP hA hS hZ (c_X6_meanOf_16 l D cI cL ad zz hJ σ85 τ r79 (r79.toInt) rfl r86 (r86.toInt) rfl x91 (x91.toInt) rfl x93 (x93.toInt) rfl) cw_RX1_146 (jc_16 cI cL ad σ85 τ) rfl ⟨Nat.le_of_ble_eq_true rfl, Nat.le_of_ble_eq_true rfl⟩ rfl rfl rfl hl.1 rfl (Nat.le_of_ble_eq_true rfl) dX1_judge_247 ⟨Nat.zero_le _, Nat.zero_le _⟩ (fun r95 σ94 τ94 H locs h94 hP hS => ?_)
                      obtain ⟨⟨rfl, rfl⟩, h94⟩ := h94
                      refine lv_istore (lv' := [(17, .int r95), (16, .int r86), (15, .int r79), (14, .int x67), (13, .int r64), (12, .int r62), (11, .int x59), (10, .int x38), (9, .int x22), (8, .int x14), (7, .int x13), (6, .int x12), (5, .int x9), (0, .ref (ad 31)), (1, .int a1), (2, .ref (ad 1)), (3, .int a3), (4, .int a4)]) hx hb dX1_judge_250 hl (by decide) rfl (fun ls hl => ?_)
                      refine lv_aload_n hx hb dX1_judge_252 rfl (lv_at hl 13 rfl) ?_
                      refine va_get (D := D) hx hb hts inlX1 hown hK hP 31 (jc_31 cI cL ad σ85 τ) rfl 5 (by decide) (hts _ kw_5_6) (fun _ h9 => h9) rfl dX1_judge_253 ?_
                      refine lv_iload hx hb dX1_judge_256 (lv_at hl 10 rfl) ?_
                      refine lv_iload hx hb dX1_judge_258 (lv_at hl 3 rfl) ?_
                      refine lv_iadd hx hb dX1_judge_260 ?_
                      refine lv_topi (fun x96 ex96 => ?_)
                      have tx96 : x96.toInt = 9 * A1 + x67.toInt := (jadd ex96 tx13 rfl (by omega) (by omega)).trans (by omega)
                      refine jald hx hb hK hP (jc_35 cI cL ad σ85 τ) (jin tx96 (by omega) (by omega)) dX1_judge_261 ?_
                      refine lv_topi (fun x97 ex97 => ?_)
                      refine lv_if_lt (tgt := 280) hx hb dX1_judge_262 (by decide) (fun c98 => ?_) (fun c98 => ?_)
                      · have kc98 := jlt c98 rfl jz_0
                        refine lv_aload_n hx hb dX1_judge_280 rfl (lv_at hl 13 rfl) ?_
                        refine va_get (D := D) hx hb hts inlX1 hown hK hP 31 (jc_31 cI cL ad σ85 τ) rfl 4 (by decide) (hts _ kw_5_5) (fun _ h9 => h9) rfl dX1_judge_281 ?_
                        refine lv_iload hx hb dX1_judge_284 (lv_at hl 10 rfl) ?_
                        refine lv_iload hx hb dX1_judge_286 (lv_at hl 3 rfl) ?_
                        refine lv_iadd hx hb dX1_judge_288 ?_
                        refine lv_topi (fun x99 ex99 => ?_)
                        have tx99 : x99.toInt = 9 * A1 + x67.toInt := (jadd ex99 tx13 rfl (by omega) (by omega)).trans (by omega)
                        refine lv_iload hx hb dX1_judge_289 (lv_at hl 0 rfl) ?_
                        refine jast hx hb hK hP hJ hA hS (jc_34 cI cL ad σ85 τ) (ja_34 cI cL ad σ85 τ _ _) (jin tx99 (by omega) (by omega)) dX1_judge_291 (fun σ100 H locs eσ100 hP hS => ?_)
                        refine lv_aload_n hx hb dX1_judge_292 rfl (lv_at hl 13 rfl) ?_
                        refine va_get (D := D) hx hb hts inlX1 hown hK hP 31 (jc_31 cI cL ad σ100 τ) rfl 5 (by decide) (hts _ kw_5_6) (fun _ h9 => h9) rfl dX1_judge_293 ?_
                        refine lv_iload hx hb dX1_judge_296 (lv_at hl 10 rfl) ?_
                        refine lv_iload hx hb dX1_judge_298 (lv_at hl 3 rfl) ?_
                        refine lv_iadd hx hb dX1_judge_300 ?_
                        refine lv_topi (fun x101 ex101 => ?_)
                        have tx101 : x101.toInt = 9 * A1 + x67.toInt := (jadd ex101 tx13 rfl (by omega) (by omega)).trans (by omega)
                        refine lv_iload hx hb dX1_judge_301 (lv_at hl 7 rfl) ?_
                        refine jast hx hb hK hP hJ hA hS (jc_35 cI cL ad σ100 τ) (ja_35 cI cL ad σ100 τ _ _) (jin tx101 (by omega) (by omega)) dX1_judge_303 (fun σ102 H locs eσ102 hP hS => ?_)
                        obtain ⟨x103, ex103⟩ : ∃ y : Int32, y = x67 + 1 := ⟨_, rfl⟩
                        have tx103 : x103.toInt = x67.toInt + 1 := (jadd ex103 rfl jz_1 (by omega) (by omega)).trans (by omega)
                        refine lv_iinc (v := x103) (lv' := [(14, .int x103), (17, .int r95), (16, .int r86), (15, .int r79), (13, .int r64), (12, .int r62), (11, .int x59), (10, .int x38), (9, .int x22), (8, .int x14), (7, .int x13), (6, .int x12), (5, .int x9), (0, .ref (ad 31)), (1, .int a1), (2, .ref (ad 1)), (3, .int a3), (4, .int a4)]) hx hb dX1_judge_304 hl (k := 3) rfl (by rw [ex103]; rfl) (by decide) rfl (fun ls hl => ?_)
                        refine lv_goto (tgt := 165) hx hb dX1_judge_307 (by decide) ?_
                        exact ihlp65 x103 σ102 _ _ ls (by have h90 := tx103; omega) (by have h90 := tx103; omega) (fun i hi => ((jnp i eσ102 (imp_97 i hi)).trans ((jnp i eσ100 (imp_95 i hi)).trans ((f87 i (imp_98 i hi)).trans (f74 i hi)))))    hP hS (lv_sub hl [0, 4, 5, 6, 7, 8, 9, 10, 11, 12, 13, 14, 15, 16, 17] rfl)
                      · have kc98 := jnlt c98 rfl jz_0
                        refine lv_iload hx hb dX1_judge_265 (lv_at hl 0 rfl) ?_
                        refine lv_aload_n hx hb dX1_judge_267 rfl (lv_at hl 13 rfl) ?_
                        refine va_get (D := D) hx hb hts inlX1 hown hK hP 31 (jc_31 cI cL ad σ85 τ) rfl 4 (by decide) (hts _ kw_5_5) (fun _ h9 => h9) rfl dX1_judge_268 ?_
                        refine lv_iload hx hb dX1_judge_271 (lv_at hl 10 rfl) ?_
                        refine lv_iload hx hb dX1_judge_273 (lv_at hl 3 rfl) ?_
                        refine lv_iadd hx hb dX1_judge_275 ?_
                        refine lv_topi (fun x104 ex104 => ?_)
                        have tx104 : x104.toInt = 9 * A1 + x67.toInt := (jadd ex104 tx13 rfl (by omega) (by omega)).trans (by omega)
                        refine jald hx hb hK hP (jc_34 cI cL ad σ85 τ) (jin tx104 (by omega) (by omega)) dX1_judge_276 ?_
                        refine lv_topi (fun x105 ex105 => ?_)
                        refine lv_icmp_ge (tgt := 304) hx hb dX1_judge_277 (by decide) (fun c106 => ?_) (fun c106 => ?_)
                        · have kc106 := jle c106 rfl rfl
                          obtain ⟨x107, ex107⟩ : ∃ y : Int32, y = x67 + 1 := ⟨_, rfl⟩
                          have tx107 : x107.toInt = x67.toInt + 1 := (jadd ex107 rfl jz_1 (by omega) (by omega)).trans (by omega)
                          refine lv_iinc (v := x107) (lv' := [(14, .int x107), (17, .int r95), (16, .int r86), (15, .int r79), (13, .int r64), (12, .int r62), (11, .int x59), (10, .int x38), (9, .int x22), (8, .int x14), (7, .int x13), (6, .int x12), (5, .int x9), (0, .ref (ad 31)), (1, .int a1), (2, .ref (ad 1)), (3, .int a3), (4, .int a4)]) hx hb dX1_judge_304 hl (k := 3) rfl (by rw [ex107]; rfl) (by decide) rfl (fun ls hl => ?_)
                          refine lv_goto (tgt := 165) hx hb dX1_judge_307 (by decide) ?_
                          exact ihlp65 x107 σ85 _ _ ls (by have h90 := tx107; omega) (by have h90 := tx107; omega) (fun i hi => ((f87 i (imp_98 i hi)).trans (f74 i hi)))    hP hS (lv_sub hl [0, 4, 5, 6, 7, 8, 9, 10, 11, 12, 13, 14, 15, 16, 17] rfl)
                        · have kc106 := jnle c106 rfl rfl
                          refine lv_aload_n hx hb dX1_judge_280 rfl (lv_at hl 13 rfl) ?_
                          refine va_get (D := D) hx hb hts inlX1 hown hK hP 31 (jc_31 cI cL ad σ85 τ) rfl 4 (by decide) (hts _ kw_5_5) (fun _ h9 => h9) rfl dX1_judge_281 ?_
                          refine lv_iload hx hb dX1_judge_284 (lv_at hl 10 rfl) ?_
                          refine lv_iload hx hb dX1_judge_286 (lv_at hl 3 rfl) ?_
                          refine lv_iadd hx hb dX1_judge_288 ?_
                          refine lv_topi (fun x108 ex108 => ?_)
                          have tx108 : x108.toInt = 9 * A1 + x67.toInt := (jadd ex108 tx13 rfl (by omega) (by omega)).trans (by omega)
                          refine lv_iload hx hb dX1_judge_289 (lv_at hl 0 rfl) ?_
                          refine jast hx hb hK hP hJ hA hS (jc_34 cI cL ad σ85 τ) (ja_34 cI cL ad σ85 τ _ _) (jin tx108 (by omega) (by omega)) dX1_judge_291 (fun σ109 H locs eσ109 hP hS => ?_)
                          refine lv_aload_n hx hb dX1_judge_292 rfl (lv_at hl 13 rfl) ?_
                          refine va_get (D := D) hx hb hts inlX1 hown hK hP 31 (jc_31 cI cL ad σ109 τ) rfl 5 (by decide) (hts _ kw_5_6) (fun _ h9 => h9) rfl dX1_judge_293 ?_
                          refine lv_iload hx hb dX1_judge_296 (lv_at hl 10 rfl) ?_
                          refine lv_iload hx hb dX1_judge_298 (lv_at hl 3 rfl) ?_
                          refine lv_iadd hx hb dX1_judge_300 ?_
                          refine lv_topi (fun x110 ex110 => ?_)
                          have tx110 : x110.toInt = 9 * A1 + x67.toInt := (jadd ex110 tx13 rfl (by omega) (by omega)).trans (by omega)
                          refine lv_iload hx hb dX1_judge_301 (lv_at hl 7 rfl) ?_
                          refine jast hx hb hK hP hJ hA hS (jc_35 cI cL ad σ109 τ) (ja_35 cI cL ad σ109 τ _ _) (jin tx110 (by omega) (by omega)) dX1_judge_303 (fun σ111 H locs eσ111 hP hS => ?_)
                          obtain ⟨x112, ex112⟩ : ∃ y : Int32, y = x67 + 1 := ⟨_, rfl⟩
                          have tx112 : x112.toInt = x67.toInt + 1 := (jadd ex112 rfl jz_1 (by omega) (by omega)).trans (by omega)
                          refine lv_iinc (v := x112) (lv' := [(14, .int x112), (17, .int r95), (16, .int r86), (15, .int r79), (13, .int r64), (12, .int r62), (11, .int x59), (10, .int x38), (9, .int x22), (8, .int x14), (7, .int x13), (6, .int x12), (5, .int x9), (0, .ref (ad 31)), (1, .int a1), (2, .ref (ad 1)), (3, .int a3), (4, .int a4)]) hx hb dX1_judge_304 hl (k := 3) rfl (by rw [ex112]; rfl) (by decide) rfl (fun ls hl => ?_)
                          refine lv_goto (tgt := 165) hx hb dX1_judge_307 (by decide) ?_
                          exact ihlp65 x112 σ111 _ _ ls (by have h90 := tx112; omega) (by have h90 := tx112; omega) (fun i hi => ((jnp i eσ111 (imp_97 i hi)).trans ((jnp i eσ109 (imp_95 i hi)).trans ((f87 i (imp_98 i hi)).trans (f74 i hi)))))    hP hS (lv_sub hl [0, 4, 5, 6, 7, 8, 9, 10, 11, 12, 13, 14, 15, 16, 17] rfl)
                exact lp65 3000000001 x14 σ46 _ _ ls (by omega) (by omega) (fun _ _ => rfl)   hP hS hl
              · have kc60 := jnle c60 jz_0 tx59
                refine lv_goto (tgt := 310) hx hb dX1_judge_140 (by decide) ?_
                obtain ⟨x113, ex113⟩ : ∃ y : Int32, y = x38 + 1 := ⟨_, rfl⟩
                have tx113 : x113.toInt = x38.toInt + 1 := (jadd ex113 rfl jz_1 (by omega) (by omega)).trans (by omega)
                refine lv_iinc (v := x113) (lv' := [(10, .int x113), (11, .int x59), (9, .int x22), (8, .int x14), (7, .int x13), (6, .int x12), (5, .int x9), (0, .ref (ad 31)), (1, .int a1), (2, .ref (ad 1)), (3, .int a3), (4, .int a4)]) hx hb dX1_judge_310 hl (k := 1) rfl (by rw [ex113]; rfl) (by decide) rfl (fun ls hl => ?_)
                refine lv_goto (tgt := 113) hx hb dX1_judge_313 (by decide) ?_
                exact ihlp36 x113 σ46 _ _ ls (by have h90 := tx113; omega) (by have h90 := tx113; omega) (by have h90 := tx113; omega) (fun i hi => (f50 i hi))    hP hS (lv_sub hl [0, 2, 3, 4, 5, 6, 7, 8, 9, 10, 11] rfl)
        exact lp36 1000000 0 σ35 _ _ ls (by have h90 := jz_0; omega) (by have h90 := jz_0; omega) (by have h90 := jz_0; omega) (fun _ _ => rfl)   hP hS hl
      · have kc31 := jnlt c31 rfl rfl
        refine lv_aload_n hx hb dX1_judge_66 rfl (lv_at hl 6 rfl) ?_
        refine va_get (D := D) hx hb hts inlX1 hown hK hP 31 (jc_31 cI cL ad σ27 τ) rfl 4 (by decide) (hts _ kw_5_5) (fun _ h9 => h9) rfl dX1_judge_67 ?_
        refine lv_iload hx hb dX1_judge_70 (lv_at hl 3 rfl) ?_
        refine lv_iload hx hb dX1_judge_72 (lv_at hl 0 rfl) ?_
        have g114 := jrg (rfl : x26.toInt = x26.toInt)
        refine lv_iadd hx hb dX1_judge_74 ?_
        refine lv_topi (fun x115 ex115 => ?_)
        have tx115 : x115.toInt = 9 * A1 + x26.toInt := (jadd ex115 tx13 rfl (by omega) (by omega)).trans (by omega)
        refine lv_iconst (v := 0) hx hb dX1_judge_75 (by decide) ?_
        refine jast hx hb hK hP hJ hA hS (jc_34 cI cL ad σ27 τ) (ja_34 cI cL ad σ27 τ _ _) (jin tx115 (by omega) (by omega)) dX1_judge_76 (fun σ116 H locs eσ116 hP hS => ?_)
        refine lv_aload_n hx hb dX1_judge_77 rfl (lv_at hl 6 rfl) ?_
        refine va_get (D := D) hx hb hts inlX1 hown hK hP 31 (jc_31 cI cL ad σ116 τ) rfl 5 (by decide) (hts _ kw_5_6) (fun _ h9 => h9) rfl dX1_judge_78 ?_
        refine lv_iload hx hb dX1_judge_81 (lv_at hl 3 rfl) ?_
        refine lv_iload hx hb dX1_judge_83 (lv_at hl 0 rfl) ?_
        refine lv_iadd hx hb dX1_judge_85 ?_
        refine lv_topi (fun x117 ex117 => ?_)
        have tx117 : x117.toInt = 9 * A1 + x26.toInt := (jadd ex117 tx13 rfl (by omega) (by omega)).trans (by omega)
        refine lv_iconst (v := (-1)) hx hb dX1_judge_86 (by decide) ?_
        refine jast hx hb hK hP hJ hA hS (jc_35 cI cL ad σ116 τ) (ja_35 cI cL ad σ116 τ _ _) (jin tx117 (by omega) (by omega)) dX1_judge_87 (fun σ118 H locs eσ118 hP hS => ?_)
        obtain ⟨x119, ex119⟩ : ∃ y : Int32, y = x26 + 1 := ⟨_, rfl⟩
        have tx119 : x119.toInt = x26.toInt + 1 := (jadd ex119 rfl jz_1 (by omega) (by omega)).trans (by omega)
        refine lv_iinc (v := x119) (lv' := [(10, .int x119), (9, .int x22), (8, .int x14), (7, .int x13), (6, .int x12), (5, .int x9), (0, .ref (ad 31)), (1, .int a1), (2, .ref (ad 1)), (3, .int a3), (4, .int a4)]) hx hb dX1_judge_88 hl (k := 0) rfl (by rw [ex119]; rfl) (by decide) rfl (fun ls hl => ?_)
        refine lv_goto (tgt := 59) hx hb dX1_judge_91 (by decide) ?_
        exact ihlp24 x119 σ118 _ _ ls (by have h90 := tx119; omega) (by have h90 := tx119; omega) (fun i hi => ((jnp i eσ118 (imp_99 i hi)).trans ((jnp i eσ116 (imp_100 i hi)).trans (f30 i hi))))    hP hS (lv_sub hl [0, 1, 2, 3, 4, 5, 6, 7, 8, 9, 10] rfl)
  exact lp24 3000000001 x14 σ _ _ ls (by omega) (by omega) (fun _ _ => rfl)   hP hS hl
set_option maxHeartbeats 4000000 in
set_option maxRecDepth 100000 in
theorem c_X1_seekFor_31_v1 (l : Launch) (D : va_G) (cI cL : ClassId) (ad zz : Nat → Nat) (hJ : jD ad) (σ : Nat → Nat → Int32) (τ : Nat → Nat → Int64) (a2 : Int32) (A2 : Int) (t2 : a2.toInt = A2) (a3 : Int32) (A3 : Int) (t3 : a3.toInt = A3) (a4 : Int32) (A4 : Int) (t4 : a4.toInt = A4) (a5 : Int32) (A5 : Int) (t5 : a5.toInt = A5) (hI16 : jI16 σ) (hI22 : jI22 σ) (hI31 : jI31 σ) : jMv l yX1_seekFor cX1_seekFor 7 none ({ frames := 4, cells := 0, slots := 0, locals := 113 }) D cI cL ad zz [.ref (ad 31), .ref (ad 1), .int a2, .int a3, .int a4, .int a5] σ τ (fun σ' τ' => τ = τ' ∧ (∀ i : Nat, (i < 24 ∨ 25 < i) ∧ (i < 29 ∨ 37 < i) → σ' i = σ i) ∧ (∀ k : Nat, (k < 8 ∨ 8 < k) ∧ (k < 9 ∨ 9 < k) ∧ (k < 10 ∨ 10 < k) ∧ (k < 11 ∨ 11 < k) ∧ (k < 12 ∨ 12 < k) → σ' 31 k = σ 31 k) ∧ (jI31 σ') ∧ True) := by
  refine jMv.of hJ (by decide +kernel) rfl (Nat.le_of_ble_eq_true rfl) ?_
  intro p e s m args below meth c Q ls hC hret hl hP
  obtain ⟨hx, hb, hr, hml, hown, hts, hK, -, hlocks, hZ⟩ := hC
  have hown : s.vm.findClass RX1 = some m.cls := hown
  have hS : va_S (jA ad) s.heap s.heap [] := va_S.rf
  have hA : ∀ q, jA ad q → jA ad q := fun _ h => h
  have hl : lv_has ls 7 [(0, .ref (ad 31)), (1, .ref (ad 1)), (2, .int a2), (3, .int a3), (4, .int a4), (5, .int a5)] := hl
  have g2 := jrg t2
  have g3 := jrg t3
  have g4 := jrg t4
  have g5 := jrg t5
  obtain ⟨i1, w2, w3⟩ : (0 ≤ (σ 31 8).toInt ∧ (σ 31 8).toInt ≤ 350) ∧ (∀ k : Nat, k < 1400 → (-1) ≤ (σ 33 k).toInt ∧ (σ 33 k).toInt ≤ 350) ∧ (∀ k : Nat, k < 1024 → 0 ≤ (σ 36 k).toInt ∧ (σ 36 k).toInt ≤ 349) := id hI31
  refine lv_aload_n hx hb dX1_seekFor_0 rfl (lv_at hl 0 rfl) ?_
  refine lv_iload_n hx hb dX1_seekFor_1 rfl (lv_at hl 2 rfl) ?_
  refine lv_iload_n hx hb dX1_seekFor_2 rfl (lv_at hl 3 rfl) ?_
  refine jcallVv (As := [.int a2, .int a3]) (rest := []) ⟨hx, hb, hml, hown, hts⟩ hK hP hA hS hZ (c_X1_grow_31 l D cI cL ad zz hJ σ τ a2 (A2) t2 a3 (A3) t3 hI31) cw_RX1_54 (jc_31 cI cL ad σ τ) rfl ⟨Nat.le_of_ble_eq_true rfl, Nat.le_of_ble_eq_true rfl⟩ rfl rfl rfl hl.1 rfl (Nat.le_of_ble_eq_true rfl) dX1_seekFor_3 ⟨Nat.zero_le _, Nat.zero_le _⟩ (fun σ4 τ4 H locs h4 hP hS => ?_)
  obtain ⟨rfl, f6, f7, I8, h4⟩ := h4
  obtain ⟨i9, w10, w11⟩ : (0 ≤ (σ4 31 8).toInt ∧ (σ4 31 8).toInt ≤ 350) ∧ (∀ k : Nat, k < 1400 → (-1) ≤ (σ4 33 k).toInt ∧ (σ4 33 k).toInt ≤ 350) ∧ (∀ k : Nat, k < 1024 → 0 ≤ (σ4 36 k).toInt ∧ (σ4 36 k).toInt ≤ 349) := id I8
  refine lv_aload_n hx hb dX1_seekFor_6 rfl (lv_at hl 0 rfl) ?_
  refine va_get (D := D) hx hb hts inlX1 hown hK hP 31 (jc_31 cI cL ad σ4 τ) rfl 8 (by decide) (hts _ kw_27_22) (fun _ h9 => h9) rfl dX1_seekFor_7 ?_
  refine lv_iconst (v := 1) hx hb dX1_seekFor_10 (by decide) ?_
  have g12 := jrg (rfl : (σ4 31 8).toInt = (σ4 31 8).toInt)
  refine lv_isub hx hb dX1_seekFor_11 ?_
  refine lv_topi (fun x13 ex13 => ?_)
  have tx13 : x13.toInt = (σ4 31 8).toInt - 1 := (jsub ex13 rfl jz_1 (by omega) (by omega)).trans (by omega)
  refine lv_istore (lv' := [(6, .int x13), (0, .ref (ad 31)), (1, .ref (ad 1)), (2, .int a2), (3, .int a3), (4, .int a4), (5, .int a5)]) hx hb dX1_seekFor_12 hl (by decide) rfl (fun ls hl => ?_)
  have lp14 : ∀ (n15 : Nat) (x16 : Int32) (σ17 : Nat → Nat → Int32) (H : Heap) (locs : List Loc) (ls : Array Slot), (x16.toInt + 1 : Int) < n15 → (-1) ≤ x16.toInt → x16.toInt ≤ 349 → (∀ i : Nat, (i < 24 ∨ 25 < i) ∧ (i < 29 ∨ 30 < i) ∧ (i < 34 ∨ 35 < i) → σ17 i = σ4 i) → jH D cI cL ad σ17 τ H → va_S (jA ad) s.heap H locs → lv_has ls 7 [(6, .int x16), (0, .ref (ad 31)), (1, .ref (ad 1)), (2, .int a2), (3, .int a3), (4, .int a4), (5, .int a5)] → W p l e ({ frames := 4, cells := 0, slots := 0, locals := 113 }) s m args below meth c H locs 0 0 Q (F0 m 14 ls []) := by
    intro n15
    induction n15 with
    | zero => intro x16 σ17 H locs ls h18 h19 h20; exact absurd h18 (by omega)
    | succ n15 ihlp14 =>
      intro x16 σ17 H locs ls h18 h19 h20 f21 hP hS hl
      refine lv_iload hx hb dX1_seekFor_14 (lv_at hl 0 rfl) ?_
      refine lv_if_lt (tgt := 36) hx hb dX1_seekFor_16 (by decide) (fun c22 => ?_) (fun c22 => ?_)
      · have kc22 := jlt c22 rfl jz_0
        have I23 : jI31 σ17 := jI31_fr (congrFun (f21 31 (by decide)) 8) (f21 33 (by decide)) (f21 36 (by decide)) I8
        exact hret σ17 τ _ _ _ _ ⟨rfl, (fun i hi => ((f21 i (imp_101 i hi)).trans (f6 i (imp_102 i hi)))), (fun i hi => ((congrFun (f21 31 (by decide)) i).trans (f7 i hi))), I23, trivial⟩ hP hS dX1_seekFor_36
      · have kc22 := jnlt c22 rfl jz_0
        refine lv_aload_n hx hb dX1_seekFor_19 rfl (lv_at hl 1 rfl) ?_
        refine lv_iload hx hb dX1_seekFor_20 (lv_at hl 0 rfl) ?_
        refine lv_aload_n hx hb dX1_seekFor_22 rfl (lv_at hl 2 rfl) ?_
        refine lv_iload hx hb dX1_seekFor_23 (lv_at hl 5 rfl) ?_
        refine lv_iload hx hb dX1_seekFor_25 (lv_at hl 6 rfl) ?_
        have I24 : jI16 σ17 := jI16_fr ((congrFun (f21 16 (by decide)) 0).trans (congrFun (f6 16 (by decide)) 0)) ((congrFun (f21 16 (by decide)) 1).trans (congrFun (f6 16 (by decide)) 1)) ((congrFun (f21 16 (by decide)) 2).trans (congrFun (f6 16 (by decide)) 2)) ((f21 17 (by decide)).trans (f6 17 (by decide))) hI16
        have I25 : jI22 σ17 := jI22_fr ((congrFun (f21 22 (by decide)) 0).trans (congrFun (f6 22 (by decide)) 0)) ((f21 23 (by decide)).trans (f6 23 (by decide))) hI22
        have I26 : jI31 σ17 := jI31_fr (congrFun (f21 31 (by decide)) 8) (f21 33 (by decide)) (f21 36 (by decide)) I8
        refine jcallVv (As := [.int x16, .ref (ad 1), .int a4, .int a5]) (rest := []) ⟨hx, hb, hml, hown, hts⟩ hK hP hA hS hZ (c_X1_judge_31_v1 l D cI cL ad zz hJ σ17 τ x16 (x16.toInt) rfl a4 (A4) t4 a5 (A5) t5 I24 I25 I26 (by omega)) cw_RX1_61 (jc_31 cI cL ad σ17 τ) rfl ⟨Nat.le_of_ble_eq_true rfl, Nat.le_of_ble_eq_true rfl⟩ rfl rfl rfl hl.1 rfl (Nat.le_of_ble_eq_true rfl) dX1_seekFor_27 ⟨Nat.zero_le _, Nat.zero_le _⟩ (fun σ27 τ27 H locs h27 hP hS => ?_)
        obtain ⟨rfl, f29, h27⟩ := h27
        obtain ⟨x30, ex30⟩ : ∃ y : Int32, y = x16 + (-1) := ⟨_, rfl⟩
        have tx30 : x30.toInt = x16.toInt - 1 := (jadd ex30 rfl jz_m1 (by omega) (by omega)).trans (by omega)
        refine lv_iinc (v := x30) (lv' := [(6, .int x30), (0, .ref (ad 31)), (1, .ref (ad 1)), (2, .int a2), (3, .int a3), (4, .int a4), (5, .int a5)]) hx hb dX1_seekFor_30 hl (k := 0) rfl (by rw [ex30]; rfl) (by decide) rfl (fun ls hl => ?_)
        refine lv_goto (tgt := 14) hx hb dX1_seekFor_33 (by decide) ?_
        exact ihlp14 x30 σ27 _ _ ls (by have h90 := tx30; omega) (by have h90 := tx30; omega) (by have h90 := tx30; omega) (fun i hi => ((f29 i hi).trans (f21 i hi)))    hP hS (lv_sub hl [0, 1, 2, 3, 4, 5, 6] rfl)
  exact lp14 1000000 x13 σ4 _ _ ls (by have h90 := tx13; omega) (by have h90 := tx13; omega) (by have h90 := tx13; omega) (fun _ _ => rfl)   hP hS hl
set_option maxHeartbeats 4000000 in
set_option maxRecDepth 100000 in
theorem c_X1_seek_31 (l : Launch) (D : va_G) (cI cL : ClassId) (ad zz : Nat → Nat) (hJ : jD ad) (σ : Nat → Nat → Int32) (τ : Nat → Nat → Int64) (a1 : Int32) (A1 : Int) (t1 : a1.toInt = A1) (a2 : Int32) (A2 : Int) (t2 : a2.toInt = A2) (a3 : Int32) (A3 : Int) (t3 : a3.toInt = A3) (hI16 : jI16 σ) (hI22 : jI22 σ) (hI31 : jI31 σ) : jMv l yX1_seek cX1_seek 4 none ({ frames := 5, cells := 0, slots := 0, locals := 139 }) D cI cL ad zz [.ref (ad 31), .int a1, .int a2, .int a3] σ τ (fun σ' τ' => τ = τ' ∧ (∀ i : Nat, (i < 24 ∨ 25 < i) ∧ (i < 29 ∨ 37 < i) → σ' i = σ i) ∧ (∀ k : Nat, (k < 8 ∨ 8 < k) ∧ (k < 9 ∨ 9 < k) ∧ (k < 10 ∨ 10 < k) ∧ (k < 11 ∨ 11 < k) ∧ (k < 12 ∨ 12 < k) → σ' 31 k = σ 31 k) ∧ (jI31 σ') ∧ True) := by
  refine jMv.of hJ (by decide +kernel) rfl (Nat.le_of_ble_eq_true rfl) ?_
  intro p e s m args below meth c Q ls hC hret hl hP
  obtain ⟨hx, hb, hr, hml, hown, hts, hK, -, hlocks, hZ⟩ := hC
  have hown : s.vm.findClass RX1 = some m.cls := hown
  have hS : va_S (jA ad) s.heap s.heap [] := va_S.rf
  have hA : ∀ q, jA ad q → jA ad q := fun _ h => h
  have hl : lv_has ls 4 [(0, .ref (ad 31)), (1, .int a1), (2, .int a2), (3, .int a3)] := hl
  have g1 := jrg t1
  have g2 := jrg t2
  have g3 := jrg t3
  obtain ⟨i1, i2, i3, w4⟩ : (1 ≤ (σ 16 0).toInt ∧ (σ 16 0).toInt ≤ 8) ∧ (1 ≤ (σ 16 1).toInt ∧ (σ 16 1).toInt ≤ 12) ∧ (0 ≤ (σ 16 2).toInt ∧ (σ 16 2).toInt ≤ 999) ∧ (∀ k : Nat, k < 8 → 0 ≤ (σ 17 k).toInt ∧ (σ 17 k).toInt ≤ 3) := id hI16
  refine lv_aload_n hx hb dX1_seek_0 rfl (lv_at hl 0 rfl) ?_
  refine lv_aload_n hx hb dX1_seek_1 rfl (lv_at hl 0 rfl) ?_
  refine va_get (D := D) hx hb hts inlX1 hown hK hP 31 (jc_31 cI cL ad σ τ) rfl 1 (by decide) (hts _ kw_5_11) (fun _ h9 => h9) rfl dX1_seek_2 ?_
  refine va_get (D := D) hx hb hts inlX6 hown hK hP 16 (jc_16 cI cL ad σ τ) rfl 3 (by decide) (hts _ kw_27_16) (fun _ h9 => h9) rfl dX1_seek_5 ?_
  refine lv_iload_n hx hb dX1_seek_8 rfl (lv_at hl 1 rfl) ?_
  refine lv_iload_n hx hb dX1_seek_9 rfl (lv_at hl 2 rfl) ?_
  refine lv_iload_n hx hb dX1_seek_10 rfl (lv_at hl 3 rfl) ?_
  refine lv_aload_n hx hb dX1_seek_11 rfl (lv_at hl 0 rfl) ?_
  refine va_get (D := D) hx hb hts inlX1 hown hK hP 31 (jc_31 cI cL ad σ τ) rfl 1 (by decide) (hts _ kw_5_11) (fun _ h9 => h9) rfl dX1_seek_12 ?_
  refine va_get (D := D) hx hb hts inlX6 hown hK hP 16 (jc_16 cI cL ad σ τ) rfl 0 (by decide) (hts _ kw_27_17) (fun _ h9 => h9) rfl dX1_seek_15 ?_
  refine lv_iconst (v := 1) hx hb dX1_seek_18 (by decide) ?_
  have g5 := jrg (rfl : (σ 16 0).toInt = (σ 16 0).toInt)
  refine lv_isub hx hb dX1_seek_19 ?_
  refine lv_topi (fun x6 ex6 => ?_)
  have tx6 : x6.toInt = (σ 16 0).toInt - 1 := (jsub ex6 rfl jz_1 (by omega) (by omega)).trans (by omega)
  refine jcallVv (As := [.ref (ad 17), .int a1, .int a2, .int a3, .int x6]) (rest := []) ⟨hx, hb, hml, hown, hts⟩ hK hP hA hS hZ (c_X1_seekFor_31 l D cI cL ad zz hJ σ τ a1 (A1) t1 a2 (A2) t2 a3 (A3) t3 x6 ((σ 16 0).toInt - 1) tx6 hI16 hI22 hI31) cw_RX1_50 (jc_31 cI cL ad σ τ) rfl ⟨Nat.le_of_ble_eq_true rfl, Nat.le_of_ble_eq_true rfl⟩ rfl rfl rfl hl.1 rfl (Nat.le_of_ble_eq_true rfl) dX1_seek_20 ⟨Nat.zero_le _, Nat.zero_le _⟩ (fun σ7 τ7 H locs h7 hP hS => ?_)
  obtain ⟨rfl, f9, f10, I11, h7⟩ := h7
  exact hret σ7 τ _ _ _ _ ⟨rfl, (fun i hi => (f9 i hi)), (fun i hi => (f10 i hi)), I11, trivial⟩ hP hS dX1_seek_23
