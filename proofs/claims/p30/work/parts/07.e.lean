set_option maxHeartbeats 4000000 in
set_option maxRecDepth 100000 in
theorem c_X1_valueAt_31 (l : Launch) (D : va_G) (cI cL : ClassId) (ad zz : Nat → Nat) (hJ : jD ad) (σ : Nat → Nat → Int32) (τ : Nat → Nat → Int64) (a1 : Int32) (A1 : Int) (t1 : a1.toInt = A1) (a2 : Int32) (A2 : Int) (t2 : a2.toInt = A2) (hI16 : jI16 σ) (hI31 : jI31 σ) : jM l yX1_valueAt cX1_valueAt 3 (some .int) ({ frames := 0, cells := 0, slots := 0, locals := 0 }) D cI cL ad zz [.ref (ad 31), .int a1, .int a2] σ τ (fun r σ' τ' => (σ = σ' ∧ τ = τ') ∧ True) := by
  refine jM.of hJ (by decide +kernel) (nt := .int) rfl (Nat.le_of_ble_eq_true rfl) ?_
  intro p e s m args below meth c Q ls hC hret hl hP
  obtain ⟨hx, hb, hr, hml, hown, hts, hK, -, hlocks, hZ⟩ := hC
  have hown : s.vm.findClass RX1 = some m.cls := hown
  have hS : va_S (jA ad) s.heap s.heap [] := va_S.rf
  have hA : ∀ q, jA ad q → jA ad q := fun _ h => h
  have hl : lv_has ls 3 [(0, .ref (ad 31)), (1, .int a1), (2, .int a2)] := hl
  have g1 := jrg t1
  have g2 := jrg t2
  obtain ⟨i1, i2, i3, w4⟩ : (1 ≤ (σ 16 0).toInt ∧ (σ 16 0).toInt ≤ 8) ∧ (1 ≤ (σ 16 1).toInt ∧ (σ 16 1).toInt ≤ 12) ∧ (0 ≤ (σ 16 2).toInt ∧ (σ 16 2).toInt ≤ 999) ∧ (∀ k : Nat, k < 8 → 0 ≤ (σ 17 k).toInt ∧ (σ 17 k).toInt ≤ 3) := id hI16
  obtain ⟨i5, w6, w7⟩ : (0 ≤ (σ 31 8).toInt ∧ (σ 31 8).toInt ≤ 350) ∧ (∀ k : Nat, k < 1400 → (-1) ≤ (σ 33 k).toInt ∧ (σ 33 k).toInt ≤ 350) ∧ (∀ k : Nat, k < 1024 → 0 ≤ (σ 36 k).toInt ∧ (σ 36 k).toInt ≤ 349) := id hI31
  refine lv_iload_n hx hb dX1_valueAt_0 rfl (lv_at hl 1 rfl) ?_
  refine lv_if_lt (tgt := 27) hx hb dX1_valueAt_1 (by decide) (fun c8 => ?_) (fun c8 => ?_)
  · have kc8 := jlt c8 t1 jz_0
    refine lv_iconst (v := 0) hx hb dX1_valueAt_27 (by decide) ?_
    refine lv_goto (tgt := 42) hx hb dX1_valueAt_28 (by decide) ?_
    exact hret 0 σ τ _ _ _ _ rfl ⟨⟨rfl, rfl⟩, trivial⟩ hP hS dX1_valueAt_42
  · have kc8 := jnlt c8 t1 jz_0
    refine lv_iload_n hx hb dX1_valueAt_4 rfl (lv_at hl 1 rfl) ?_
    refine lv_aload_n hx hb dX1_valueAt_5 rfl (lv_at hl 0 rfl) ?_
    refine va_get (D := D) hx hb hts inlX1 hown hK hP 31 (jc_31 cI cL ad σ τ) rfl 8 (by decide) (hts _ kw_27_22) (fun _ h9 => h9) rfl dX1_valueAt_6 ?_
    refine lv_icmp_ge (tgt := 27) hx hb dX1_valueAt_9 (by decide) (fun c9 => ?_) (fun c9 => ?_)
    · have kc9 := jle c9 rfl t1
      refine lv_iconst (v := 0) hx hb dX1_valueAt_27 (by decide) ?_
      refine lv_goto (tgt := 42) hx hb dX1_valueAt_28 (by decide) ?_
      exact hret 0 σ τ _ _ _ _ rfl ⟨⟨rfl, rfl⟩, trivial⟩ hP hS dX1_valueAt_42
    · have kc9 := jnle c9 rfl t1
      refine lv_iload_n hx hb dX1_valueAt_12 rfl (lv_at hl 2 rfl) ?_
      refine lv_if_lt (tgt := 27) hx hb dX1_valueAt_13 (by decide) (fun c10 => ?_) (fun c10 => ?_)
      · have kc10 := jlt c10 t2 jz_0
        refine lv_iconst (v := 0) hx hb dX1_valueAt_27 (by decide) ?_
        refine lv_goto (tgt := 42) hx hb dX1_valueAt_28 (by decide) ?_
        exact hret 0 σ τ _ _ _ _ rfl ⟨⟨rfl, rfl⟩, trivial⟩ hP hS dX1_valueAt_42
      · have kc10 := jnlt c10 t2 jz_0
        refine lv_iload_n hx hb dX1_valueAt_16 rfl (lv_at hl 2 rfl) ?_
        refine lv_aload_n hx hb dX1_valueAt_17 rfl (lv_at hl 0 rfl) ?_
        refine va_get (D := D) hx hb hts inlX1 hown hK hP 31 (jc_31 cI cL ad σ τ) rfl 1 (by decide) (hts _ kw_5_11) (fun _ h9 => h9) rfl dX1_valueAt_18 ?_
        refine va_get (D := D) hx hb hts inlX6 hown hK hP 16 (jc_16 cI cL ad σ τ) rfl 0 (by decide) (hts _ kw_27_17) (fun _ h9 => h9) rfl dX1_valueAt_21 ?_
        refine lv_icmp_lt (tgt := 31) hx hb dX1_valueAt_24 (by decide) (fun c11 => ?_) (fun c11 => ?_)
        · have kc11 := jlt c11 t2 rfl
          refine lv_aload_n hx hb dX1_valueAt_31 rfl (lv_at hl 0 rfl) ?_
          refine va_get (D := D) hx hb hts inlX1 hown hK hP 31 (jc_31 cI cL ad σ τ) rfl 4 (by decide) (hts _ kw_5_5) (fun _ h9 => h9) rfl dX1_valueAt_32 ?_
          refine lv_iload_n hx hb dX1_valueAt_35 rfl (lv_at hl 1 rfl) ?_
          refine lv_bipush (v := 9) hx hb dX1_valueAt_36 (by decide) ?_
          refine lv_imul hx hb dX1_valueAt_38 ?_
          refine lv_topi (fun x12 ex12 => ?_)
          have tx12 : x12.toInt = 9 * A1 := (jmul ex12 t1 jz_9 (by omega) (by omega)).trans (by omega)
          refine lv_iload_n hx hb dX1_valueAt_39 rfl (lv_at hl 2 rfl) ?_
          refine lv_iadd hx hb dX1_valueAt_40 ?_
          refine lv_topi (fun x13 ex13 => ?_)
          have tx13 : x13.toInt = 9 * A1 + A2 := (jadd ex13 tx12 t2 (by omega) (by omega)).trans (by omega)
          refine jald hx hb hK hP (jc_34 cI cL ad σ τ) (jin tx13 (by omega) (by omega)) dX1_valueAt_41 ?_
          refine lv_topi (fun x14 ex14 => ?_)
          exact hret x14 σ τ _ _ _ _ rfl ⟨⟨rfl, rfl⟩, trivial⟩ hP hS dX1_valueAt_42
        · have kc11 := jnlt c11 t2 rfl
          refine lv_iconst (v := 0) hx hb dX1_valueAt_27 (by decide) ?_
          refine lv_goto (tgt := 42) hx hb dX1_valueAt_28 (by decide) ?_
          exact hret 0 σ τ _ _ _ _ rfl ⟨⟨rfl, rfl⟩, trivial⟩ hP hS dX1_valueAt_42
set_option maxHeartbeats 4000000 in
set_option maxRecDepth 100000 in
theorem c_X1_whomAt_31 (l : Launch) (D : va_G) (cI cL : ClassId) (ad zz : Nat → Nat) (hJ : jD ad) (σ : Nat → Nat → Int32) (τ : Nat → Nat → Int64) (a1 : Int32) (A1 : Int) (t1 : a1.toInt = A1) (a2 : Int32) (A2 : Int) (t2 : a2.toInt = A2) (hI16 : jI16 σ) (hI31 : jI31 σ) : jM l yX1_whomAt cX1_whomAt 3 (some .int) ({ frames := 0, cells := 0, slots := 0, locals := 0 }) D cI cL ad zz [.ref (ad 31), .int a1, .int a2] σ τ (fun r σ' τ' => (σ = σ' ∧ τ = τ') ∧ True) := by
  refine jM.of hJ (by decide +kernel) (nt := .int) rfl (Nat.le_of_ble_eq_true rfl) ?_
  intro p e s m args below meth c Q ls hC hret hl hP
  obtain ⟨hx, hb, hr, hml, hown, hts, hK, -, hlocks, hZ⟩ := hC
  have hown : s.vm.findClass RX1 = some m.cls := hown
  have hS : va_S (jA ad) s.heap s.heap [] := va_S.rf
  have hA : ∀ q, jA ad q → jA ad q := fun _ h => h
  have hl : lv_has ls 3 [(0, .ref (ad 31)), (1, .int a1), (2, .int a2)] := hl
  have g1 := jrg t1
  have g2 := jrg t2
  obtain ⟨i1, i2, i3, w4⟩ : (1 ≤ (σ 16 0).toInt ∧ (σ 16 0).toInt ≤ 8) ∧ (1 ≤ (σ 16 1).toInt ∧ (σ 16 1).toInt ≤ 12) ∧ (0 ≤ (σ 16 2).toInt ∧ (σ 16 2).toInt ≤ 999) ∧ (∀ k : Nat, k < 8 → 0 ≤ (σ 17 k).toInt ∧ (σ 17 k).toInt ≤ 3) := id hI16
  obtain ⟨i5, w6, w7⟩ : (0 ≤ (σ 31 8).toInt ∧ (σ 31 8).toInt ≤ 350) ∧ (∀ k : Nat, k < 1400 → (-1) ≤ (σ 33 k).toInt ∧ (σ 33 k).toInt ≤ 350) ∧ (∀ k : Nat, k < 1024 → 0 ≤ (σ 36 k).toInt ∧ (σ 36 k).toInt ≤ 349) := id hI31
  refine lv_iload_n hx hb dX1_whomAt_0 rfl (lv_at hl 1 rfl) ?_
  refine lv_if_lt (tgt := 27) hx hb dX1_whomAt_1 (by decide) (fun c8 => ?_) (fun c8 => ?_)
  · have kc8 := jlt c8 t1 jz_0
    refine lv_iconst (v := (-1)) hx hb dX1_whomAt_27 (by decide) ?_
    refine lv_goto (tgt := 42) hx hb dX1_whomAt_28 (by decide) ?_
    exact hret (-1) σ τ _ _ _ _ rfl ⟨⟨rfl, rfl⟩, trivial⟩ hP hS dX1_whomAt_42
  · have kc8 := jnlt c8 t1 jz_0
    refine lv_iload_n hx hb dX1_whomAt_4 rfl (lv_at hl 1 rfl) ?_
    refine lv_aload_n hx hb dX1_whomAt_5 rfl (lv_at hl 0 rfl) ?_
    refine va_get (D := D) hx hb hts inlX1 hown hK hP 31 (jc_31 cI cL ad σ τ) rfl 8 (by decide) (hts _ kw_27_22) (fun _ h9 => h9) rfl dX1_whomAt_6 ?_
    refine lv_icmp_ge (tgt := 27) hx hb dX1_whomAt_9 (by decide) (fun c9 => ?_) (fun c9 => ?_)
    · have kc9 := jle c9 rfl t1
      refine lv_iconst (v := (-1)) hx hb dX1_whomAt_27 (by decide) ?_
      refine lv_goto (tgt := 42) hx hb dX1_whomAt_28 (by decide) ?_
      exact hret (-1) σ τ _ _ _ _ rfl ⟨⟨rfl, rfl⟩, trivial⟩ hP hS dX1_whomAt_42
    · have kc9 := jnle c9 rfl t1
      refine lv_iload_n hx hb dX1_whomAt_12 rfl (lv_at hl 2 rfl) ?_
      refine lv_if_lt (tgt := 27) hx hb dX1_whomAt_13 (by decide) (fun c10 => ?_) (fun c10 => ?_)
      · have kc10 := jlt c10 t2 jz_0
        refine lv_iconst (v := (-1)) hx hb dX1_whomAt_27 (by decide) ?_
        refine lv_goto (tgt := 42) hx hb dX1_whomAt_28 (by decide) ?_
        exact hret (-1) σ τ _ _ _ _ rfl ⟨⟨rfl, rfl⟩, trivial⟩ hP hS dX1_whomAt_42
      · have kc10 := jnlt c10 t2 jz_0
        refine lv_iload_n hx hb dX1_whomAt_16 rfl (lv_at hl 2 rfl) ?_
        refine lv_aload_n hx hb dX1_whomAt_17 rfl (lv_at hl 0 rfl) ?_
        refine va_get (D := D) hx hb hts inlX1 hown hK hP 31 (jc_31 cI cL ad σ τ) rfl 1 (by decide) (hts _ kw_5_11) (fun _ h9 => h9) rfl dX1_whomAt_18 ?_
        refine va_get (D := D) hx hb hts inlX6 hown hK hP 16 (jc_16 cI cL ad σ τ) rfl 0 (by decide) (hts _ kw_27_17) (fun _ h9 => h9) rfl dX1_whomAt_21 ?_
        refine lv_icmp_lt (tgt := 31) hx hb dX1_whomAt_24 (by decide) (fun c11 => ?_) (fun c11 => ?_)
        · have kc11 := jlt c11 t2 rfl
          refine lv_aload_n hx hb dX1_whomAt_31 rfl (lv_at hl 0 rfl) ?_
          refine va_get (D := D) hx hb hts inlX1 hown hK hP 31 (jc_31 cI cL ad σ τ) rfl 5 (by decide) (hts _ kw_5_6) (fun _ h9 => h9) rfl dX1_whomAt_32 ?_
          refine lv_iload_n hx hb dX1_whomAt_35 rfl (lv_at hl 1 rfl) ?_
          refine lv_bipush (v := 9) hx hb dX1_whomAt_36 (by decide) ?_
          refine lv_imul hx hb dX1_whomAt_38 ?_
          refine lv_topi (fun x12 ex12 => ?_)
          have tx12 : x12.toInt = 9 * A1 := (jmul ex12 t1 jz_9 (by omega) (by omega)).trans (by omega)
          refine lv_iload_n hx hb dX1_whomAt_39 rfl (lv_at hl 2 rfl) ?_
          refine lv_iadd hx hb dX1_whomAt_40 ?_
          refine lv_topi (fun x13 ex13 => ?_)
          have tx13 : x13.toInt = 9 * A1 + A2 := (jadd ex13 tx12 t2 (by omega) (by omega)).trans (by omega)
          refine jald hx hb hK hP (jc_35 cI cL ad σ τ) (jin tx13 (by omega) (by omega)) dX1_whomAt_41 ?_
          refine lv_topi (fun x14 ex14 => ?_)
          exact hret x14 σ τ _ _ _ _ rfl ⟨⟨rfl, rfl⟩, trivial⟩ hP hS dX1_whomAt_42
        · have kc11 := jnlt c11 t2 rfl
          refine lv_iconst (v := (-1)) hx hb dX1_whomAt_27 (by decide) ?_
          refine lv_goto (tgt := 42) hx hb dX1_whomAt_28 (by decide) ?_
          exact hret (-1) σ τ _ _ _ _ rfl ⟨⟨rfl, rfl⟩, trivial⟩ hP hS dX1_whomAt_42
set_option maxHeartbeats 4000000 in
set_option maxRecDepth 100000 in
theorem c_X1_isTaken_31 (l : Launch) (D : va_G) (cI cL : ClassId) (ad zz : Nat → Nat) (hJ : jD ad) (σ : Nat → Nat → Int32) (τ : Nat → Nat → Int64) (a1 : Int32) (A1 : Int) (t1 : a1.toInt = A1) (hI31 : jI31 σ) (hp0 : 0 ≤ A1 ∧ A1 ≤ 1023) : jM l yX1_isTaken cX1_isTaken 3 (some .boolean) ({ frames := 0, cells := 0, slots := 0, locals := 0 }) D cI cL ad zz [.ref (ad 31), .int a1] σ τ (fun r σ' τ' => (σ = σ' ∧ τ = τ') ∧ ((r = 1 ∧ True) ∨ (r = 0 ∧ True))) := by
  refine jM.of hJ (by decide +kernel) (nt := .boolean) rfl (Nat.le_of_ble_eq_true rfl) ?_
  intro p e s m args below meth c Q ls hC hret hl hP
  obtain ⟨hx, hb, hr, hml, hown, hts, hK, -, hlocks, hZ⟩ := hC
  have hown : s.vm.findClass RX1 = some m.cls := hown
  have hS : va_S (jA ad) s.heap s.heap [] := va_S.rf
  have hA : ∀ q, jA ad q → jA ad q := fun _ h => h
  have hl : lv_has ls 3 [(0, .ref (ad 31)), (1, .int a1)] := hl
  have g1 := jrg t1
  obtain ⟨i1, w2, w3⟩ : (0 ≤ (σ 31 8).toInt ∧ (σ 31 8).toInt ≤ 350) ∧ (∀ k : Nat, k < 1400 → (-1) ≤ (σ 33 k).toInt ∧ (σ 33 k).toInt ≤ 350) ∧ (∀ k : Nat, k < 1024 → 0 ≤ (σ 36 k).toInt ∧ (σ 36 k).toInt ≤ 349) := id hI31
  refine lv_aload_n hx hb dX1_isTaken_0 rfl (lv_at hl 0 rfl) ?_
  refine va_get (D := D) hx hb hts inlX1 hown hK hP 31 (jc_31 cI cL ad σ τ) rfl 6 (by decide) (hts _ kw_5_7) (fun _ h9 => h9) rfl dX1_isTaken_1 ?_
  refine lv_iload_n hx hb dX1_isTaken_4 rfl (lv_at hl 1 rfl) ?_
  refine jald hx hb hK hP (jc_36 cI cL ad σ τ) (jin t1 (by omega) (by omega)) dX1_isTaken_5 ?_
  have g4 := w3 _ (jnat (x := a1) t1 (n := 1024) (by omega) (by decide))
  refine lv_topi (fun x5 ex5 => ?_)
  rw [← ex5] at g4
  refine lv_istore_n (lv' := [(2, .int x5), (0, .ref (ad 31)), (1, .int a1)]) hx hb dX1_isTaken_6 rfl hl (by decide) rfl (fun ls hl => ?_)
  refine lv_iload_n hx hb dX1_isTaken_7 rfl (lv_at hl 0 rfl) ?_
  refine lv_aload_n hx hb dX1_isTaken_8 rfl (lv_at hl 1 rfl) ?_
  refine va_get (D := D) hx hb hts inlX1 hown hK hP 31 (jc_31 cI cL ad σ τ) rfl 8 (by decide) (hts _ kw_27_22) (fun _ h9 => h9) rfl dX1_isTaken_9 ?_
  refine lv_icmp_ge (tgt := 29) hx hb dX1_isTaken_12 (by decide) (fun c6 => ?_) (fun c6 => ?_)
  · have kc6 := jle c6 rfl rfl
    refine lv_iconst (v := 0) hx hb dX1_isTaken_29 (by decide) ?_
    exact hret 0 σ τ _ _ _ _ rfl ⟨⟨rfl, rfl⟩, Or.inr (⟨rfl, trivial⟩)⟩ hP hS dX1_isTaken_30
  · have kc6 := jnle c6 rfl rfl
    refine lv_aload_n hx hb dX1_isTaken_15 rfl (lv_at hl 1 rfl) ?_
    refine va_get (D := D) hx hb hts inlX1 hown hK hP 31 (jc_31 cI cL ad σ τ) rfl 7 (by decide) (hts _ kw_5_8) (fun _ h9 => h9) rfl dX1_isTaken_16 ?_
    refine lv_iload_n hx hb dX1_isTaken_19 rfl (lv_at hl 0 rfl) ?_
    refine jald hx hb hK hP (jc_37 cI cL ad σ τ) (jin rfl (by omega) (by omega)) dX1_isTaken_20 ?_
    refine lv_topi (fun x7 ex7 => ?_)
    refine lv_iload_n hx hb dX1_isTaken_21 rfl (lv_at hl 2 rfl) ?_
    refine lv_icmp_ne (tgt := 29) hx hb dX1_isTaken_22 (by decide) (fun c8 => ?_) (fun c8 => ?_)
    · have kc8 := jne c8 rfl t1
      refine lv_iconst (v := 0) hx hb dX1_isTaken_29 (by decide) ?_
      exact hret 0 σ τ _ _ _ _ rfl ⟨⟨rfl, rfl⟩, Or.inr (⟨rfl, trivial⟩)⟩ hP hS dX1_isTaken_30
    · have kc8 := jeq c8 rfl t1
      refine lv_iconst (v := 1) hx hb dX1_isTaken_25 (by decide) ?_
      refine lv_goto (tgt := 30) hx hb dX1_isTaken_26 (by decide) ?_
      exact hret 1 σ τ _ _ _ _ rfl ⟨⟨rfl, rfl⟩, Or.inl ⟨rfl, trivial⟩⟩ hP hS dX1_isTaken_30
set_option maxHeartbeats 4000000 in
set_option maxRecDepth 100000 in
theorem c_X1_slotFor_31 (l : Launch) (D : va_G) (cI cL : ClassId) (ad zz : Nat → Nat) (hJ : jD ad) (σ : Nat → Nat → Int32) (τ : Nat → Nat → Int64) (a1 : Int32) (A1 : Int) (t1 : a1.toInt = A1) (hI31 : jI31 σ) : jM l yX1_slotFor cX1_slotFor 5 (some .int) ({ frames := 1, cells := 0, slots := 0, locals := 22 }) D cI cL ad zz [.ref (ad 31), .int a1] σ τ (fun r σ' τ' => (σ = σ' ∧ τ = τ') ∧ ((True ∧ ((-1) ≤ r.toInt ∧ r.toInt ≤ 1023)))) := by
  refine jM.of hJ (by decide +kernel) (nt := .int) rfl (Nat.le_of_ble_eq_true rfl) ?_
  intro p e s m args below meth c Q ls hC hret hl hP
  obtain ⟨hx, hb, hr, hml, hown, hts, hK, -, hlocks, hZ⟩ := hC
  have hown : s.vm.findClass RX1 = some m.cls := hown
  have hS : va_S (jA ad) s.heap s.heap [] := va_S.rf
  have hA : ∀ q, jA ad q → jA ad q := fun _ h => h
  have hl : lv_has ls 5 [(0, .ref (ad 31)), (1, .int a1)] := hl
  have g1 := jrg t1
  obtain ⟨i1, w2, w3⟩ : (0 ≤ (σ 31 8).toInt ∧ (σ 31 8).toInt ≤ 350) ∧ (∀ k : Nat, k < 1400 → (-1) ≤ (σ 33 k).toInt ∧ (σ 33 k).toInt ≤ 350) ∧ (∀ k : Nat, k < 1024 → 0 ≤ (σ 36 k).toInt ∧ (σ 36 k).toInt ≤ 349) := id hI31
  refine lv_iload_n hx hb dX1_slotFor_0 rfl (lv_at hl 1 rfl) ?_
  refine lv_ldc (v := (-1640531527)) hx hb hown (hts _ kw_29_4) dX1_slotFor_1 ?_
  refine lv_imul hx hb dX1_slotFor_3 ?_
  refine lv_topi (fun x4 ex4 => ?_)
  have gx4 := jrg (rfl : x4.toInt = x4.toInt)
  refine lv_bipush (v := 22) hx hb dX1_slotFor_4 (by decide) ?_
  refine lv_iushr hx hb dX1_slotFor_6 rfl ?_
  refine lv_topi (fun x5 ex5 => ?_)
  have gx5 := jrg (rfl : x5.toInt = x5.toInt)
  have g6 : 0 ≤ x5.toInt ∧ x5.toInt ≤ 1023 := jushr22 ex5
  refine lv_istore_n (lv' := [(2, .int x5), (0, .ref (ad 31)), (1, .int a1)]) hx hb dX1_slotFor_7 rfl hl (by decide) rfl (fun ls hl => ?_)
  refine lv_iconst (v := 0) hx hb dX1_slotFor_8 (by decide) ?_
  refine lv_istore_n (lv' := [(3, .int 0), (2, .int x5), (0, .ref (ad 31)), (1, .int a1)]) hx hb dX1_slotFor_9 rfl hl (by decide) rfl (fun ls hl => ?_)
  have lp7 : ∀ (n8 : Nat) (x9 : Int32) (H : Heap) (locs : List Loc) (ls : Array Slot), (-x9.toInt + 1024 : Int) < n8 → 0 ≤ x9.toInt → x9.toInt ≤ 1024 → jH D cI cL ad σ τ H → va_S (jA ad) s.heap H locs → lv_has ls 5 [(3, .int x9), (2, .int x5), (0, .ref (ad 31)), (1, .int a1)] → W p l e ({ frames := 1, cells := 0, slots := 0, locals := 22 }) s m args below meth c H locs 0 0 Q (F0 m 10 ls []) := by
    intro n8
    induction n8 with
    | zero => intro x9 H locs ls h12 h13 h14; exact absurd h12 (by omega)
    | succ n8 ihlp7 =>
      intro x9 H locs ls h12 h13 h14 hP hS hl
      refine lv_iload_n hx hb dX1_slotFor_10 rfl (lv_at hl 0 rfl) ?_
      refine lv_sipush (v := 1024) hx hb dX1_slotFor_11 (by decide) ?_
      refine lv_icmp_ge (tgt := 60) hx hb dX1_slotFor_14 (by decide) (fun c16 => ?_) (fun c16 => ?_)
      · have kc16 := jle c16 jz_1024 rfl
        refine lv_iconst (v := (-1)) hx hb dX1_slotFor_60 (by decide) ?_
        exact hret (-1) σ τ _ _ _ _ rfl ⟨⟨rfl, rfl⟩, ⟨trivial, (by have h9 := jz_m1; omega)⟩⟩ hP hS dX1_slotFor_61
      · have kc16 := jnle c16 jz_1024 rfl
        refine lv_iload_n hx hb dX1_slotFor_17 rfl (lv_at hl 1 rfl) ?_
        refine lv_iload_n hx hb dX1_slotFor_18 rfl (lv_at hl 0 rfl) ?_
        have g17 := jrg (rfl : x5.toInt = x5.toInt)
        have g18 := jrg (rfl : x9.toInt = x9.toInt)
        refine lv_iadd hx hb dX1_slotFor_19 ?_
        refine lv_topi (fun x19 ex19 => ?_)
        have tx19 : x19.toInt = x5.toInt + x9.toInt := (jadd ex19 rfl rfl (by omega) (by omega)).trans (by omega)
        refine lv_sipush (v := 1023) hx hb dX1_slotFor_20 (by decide) ?_
        refine lv_iand hx hb dX1_slotFor_23 ?_
        refine lv_topi (fun x20 ex20 => ?_)
        have gx20 := jrg (rfl : x20.toInt = x20.toInt)
        have g21 : 0 ≤ x20.toInt ∧ x20.toInt ≤ 1023 := jmask ex20 10 (by decide) (by decide)
        refine lv_istore (lv' := [(4, .int x20), (3, .int x9), (2, .int x5), (0, .ref (ad 31)), (1, .int a1)]) hx hb dX1_slotFor_24 hl (by decide) rfl (fun ls hl => ?_)
        refine lv_aload_n hx hb dX1_slotFor_26 rfl (lv_at hl 3 rfl) ?_
        refine lv_iload hx hb dX1_slotFor_27 (lv_at hl 0 rfl) ?_
        refine jcallV (As := [.int x20]) (rest := []) ⟨hx, hb, hml, hown, hts⟩ hK hP hA hS hZ (c_X1_isTaken_31 l D cI cL ad zz hJ σ τ x20 (x20.toInt) rfl hI31 (by omega)) cw_RX1_81 (jc_31 cI cL ad σ τ) rfl ⟨Nat.le_of_ble_eq_true rfl, Nat.le_of_ble_eq_true rfl⟩ rfl rfl rfl hl.1 rfl (Nat.le_of_ble_eq_true rfl) dX1_slotFor_29 ⟨Nat.zero_le _, Nat.zero_le _⟩ (fun r23 σ22 τ22 H locs h22 hP hS => ?_)
        obtain ⟨⟨rfl, rfl⟩, h22⟩ := h22
        rcases h22 with h24 | h25
        · obtain ⟨q27, k26⟩ := h24
          have q27 := q27.symm
          subst q27
          refine lv_if_eq (tgt := 51) hx hb dX1_slotFor_32 (by decide) (fun c => absurd c (by decide)) (fun _ => ?_)
          refine lv_aload_n hx hb dX1_slotFor_35 rfl (lv_at hl 3 rfl) ?_
          refine va_get (D := D) hx hb hts inlX1 hown hK hP 31 (jc_31 cI cL ad σ τ) rfl 2 (by decide) (hts _ kw_5_3) (fun _ h9 => h9) rfl dX1_slotFor_36 ?_
          refine lv_aload_n hx hb dX1_slotFor_39 rfl (lv_at hl 3 rfl) ?_
          refine va_get (D := D) hx hb hts inlX1 hown hK hP 31 (jc_31 cI cL ad σ τ) rfl 6 (by decide) (hts _ kw_5_7) (fun _ h9 => h9) rfl dX1_slotFor_40 ?_
          refine lv_iload hx hb dX1_slotFor_43 (lv_at hl 0 rfl) ?_
          refine jald hx hb hK hP (jc_36 cI cL ad σ τ) (jin rfl (by omega) (by omega)) dX1_slotFor_45 ?_
          have g28 := w3 _ (jnat (x := x20) rfl (n := 1024) (by omega) (by decide))
          refine lv_topi (fun x29 ex29 => ?_)
          rw [← ex29] at g28
          refine jald hx hb hK hP (jc_32 cI cL ad σ τ) (jin rfl (by omega) (by omega)) dX1_slotFor_46 ?_
          refine lv_topi (fun x30 ex30 => ?_)
          refine lv_iload_n hx hb dX1_slotFor_47 rfl (lv_at hl 4 rfl) ?_
          refine lv_icmp_ne (tgt := 54) hx hb dX1_slotFor_48 (by decide) (fun c31 => ?_) (fun c31 => ?_)
          · have kc31 := jne c31 rfl t1
            obtain ⟨x32, ex32⟩ : ∃ y : Int32, y = x9 + 1 := ⟨_, rfl⟩
            have tx32 : x32.toInt = x9.toInt + 1 := (jadd ex32 rfl jz_1 (by omega) (by omega)).trans (by omega)
            refine lv_iinc (v := x32) (lv' := [(3, .int x32), (4, .int x20), (2, .int x5), (0, .ref (ad 31)), (1, .int a1)]) hx hb dX1_slotFor_54 hl (k := 1) rfl (by rw [ex32]; rfl) (by decide) rfl (fun ls hl => ?_)
            refine lv_goto (tgt := 10) hx hb dX1_slotFor_57 (by decide) ?_
            exact ihlp7 x32 _ _ ls (by have h90 := tx32; omega) (by have h90 := tx32; omega) (by have h90 := tx32; omega)    hP hS (lv_sub hl [0, 2, 3, 4] rfl)
          · have kc31 := jeq c31 rfl t1
            refine lv_iload hx hb dX1_slotFor_51 (lv_at hl 0 rfl) ?_
            exact hret x20 σ τ _ _ _ _ rfl ⟨⟨rfl, rfl⟩, ⟨trivial, (by omega)⟩⟩ hP hS dX1_slotFor_53
        · obtain ⟨q34, k33⟩ := h25
          have q34 := q34.symm
          subst q34
          refine lv_if_eq (tgt := 51) hx hb dX1_slotFor_32 (by decide) (fun _ => ?_) (fun c => absurd (by decide) c)
          refine lv_iload hx hb dX1_slotFor_51 (lv_at hl 0 rfl) ?_
          exact hret x20 σ τ _ _ _ _ rfl ⟨⟨rfl, rfl⟩, ⟨trivial, (by omega)⟩⟩ hP hS dX1_slotFor_53
  exact lp7 1000000 0 _ _ ls (by have h90 := jz_0; omega) (by have h90 := jz_0; omega) (by have h90 := jz_0; omega)   hP hS hl
set_option maxHeartbeats 4000000 in
set_option maxRecDepth 100000 in
theorem c_X1_trimmed_31 (l : Launch) (D : va_G) (cI cL : ClassId) (ad zz : Nat → Nat) (hJ : jD ad) (σ : Nat → Nat → Int32) (τ : Nat → Nat → Int64) (a1 : Int32) (A1 : Int) (t1 : a1.toInt = A1) (a2 : Int32) (A2 : Int) (t2 : a2.toInt = A2) : jM l yX1_trimmed cX1_trimmed 7 (some .int) ({ frames := 1, cells := 0, slots := 0, locals := 23 }) D cI cL ad zz [.ref (ad 31), .int a1, .int a2] σ τ (fun r σ' τ' => (σ = σ' ∧ τ = τ') ∧ True) := by
  refine jM.of hJ (by decide +kernel) (nt := .int) rfl (Nat.le_of_ble_eq_true rfl) ?_
  intro p e s m args below meth c Q ls hC hret hl hP
  obtain ⟨hx, hb, hr, hml, hown, hts, hK, -, hlocks, hZ⟩ := hC
  have hown : s.vm.findClass RX1 = some m.cls := hown
  have hS : va_S (jA ad) s.heap s.heap [] := va_S.rf
  have hA : ∀ q, jA ad q → jA ad q := fun _ h => h
  have hl : lv_has ls 7 [(0, .ref (ad 31)), (1, .int a1), (2, .int a2)] := hl
  have g1 := jrg t1
  have g2 := jrg t2
  refine lv_iload_n hx hb dX1_trimmed_0 rfl (lv_at hl 1 rfl) ?_
  refine lv_istore_n (lv' := [(3, .int a1), (0, .ref (ad 31)), (1, .int a1), (2, .int a2)]) hx hb dX1_trimmed_1 rfl hl (by decide) rfl (fun ls hl => ?_)
  refine lv_iconst (v := 0) hx hb dX1_trimmed_2 (by decide) ?_
  refine lv_istore (lv' := [(4, .int 0), (3, .int a1), (0, .ref (ad 31)), (1, .int a1), (2, .int a2)]) hx hb dX1_trimmed_3 hl (by decide) rfl (fun ls hl => ?_)
  have lp1 : ∀ (n2 : Nat) (x3 : Int32) (x4 : Int32) (H : Heap) (locs : List Loc) (ls : Array Slot), (-x4.toInt + 4 : Int) < n2 → 0 ≤ x4.toInt → x4.toInt ≤ 4 → jH D cI cL ad σ τ H → va_S (jA ad) s.heap H locs → lv_has ls 7 [(4, .int x4), (3, .int x3), (0, .ref (ad 31)), (1, .int a1), (2, .int a2)] → W p l e ({ frames := 1, cells := 0, slots := 0, locals := 23 }) s m args below meth c H locs 0 0 Q (F0 m 5 ls []) := by
    intro n2
    induction n2 with
    | zero => intro x3 x4 H locs ls h8 h9 h10; have gx3 := jrg (rfl : x3.toInt = x3.toInt); exact absurd h8 (by omega)
    | succ n2 ihlp1 =>
      intro x3 x4 H locs ls h8 h9 h10 hP hS hl
      have gx3 := jrg (rfl : x3.toInt = x3.toInt)
      refine lv_iload hx hb dX1_trimmed_5 (lv_at hl 0 rfl) ?_
      refine lv_iconst (v := 4) hx hb dX1_trimmed_7 (by decide) ?_
      refine lv_icmp_ge (tgt := 90) hx hb dX1_trimmed_8 (by decide) (fun c12 => ?_) (fun c12 => ?_)
      · have kc12 := jle c12 jz_4 rfl
        refine lv_iload_n hx hb dX1_trimmed_90 rfl (lv_at hl 1 rfl) ?_
        exact hret x3 σ τ _ _ _ _ rfl ⟨⟨rfl, rfl⟩, trivial⟩ hP hS dX1_trimmed_91
      · have kc12 := jnle c12 jz_4 rfl
        refine lv_iload_n hx hb dX1_trimmed_11 rfl (lv_at hl 3 rfl) ?_
        refine lv_iload hx hb dX1_trimmed_12 (lv_at hl 0 rfl) ?_
        refine jcallS (As := [.int a1, .int x4]) (rest := []) ⟨hx, hb, hml, hown, hts⟩ hK hP hA hS hZ (c_X0_left l D cI cL ad zz hJ σ τ a1 (A1) t1 x4 (x4.toInt) rfl) cw_RX1_123 ⟨Nat.le_of_ble_eq_true rfl, Nat.le_of_ble_eq_true rfl⟩ rfl rfl rfl hl.1 rfl (Nat.le_of_ble_eq_true rfl) dX1_trimmed_14 ⟨Nat.zero_le _, Nat.zero_le _⟩ (fun r14 σ13 τ13 H locs h13 hP hS => ?_)
        obtain ⟨⟨rfl, rfl⟩, h13⟩ := h13
        refine lv_istore (lv' := [(5, .int r14), (4, .int x4), (3, .int x3), (0, .ref (ad 31)), (1, .int a1), (2, .int a2)]) hx hb dX1_trimmed_17 hl (by decide) rfl (fun ls hl => ?_)
        refine lv_iload_n hx hb dX1_trimmed_19 rfl (lv_at hl 4 rfl) ?_
        refine jcallS (As := [.int a1]) (rest := []) ⟨hx, hb, hml, hown, hts⟩ hK hP hA hS hZ (c_X0_last l D cI cL ad zz hJ σ τ a1 (A1) t1) cw_RX1_126 ⟨Nat.le_of_ble_eq_true rfl, Nat.le_of_ble_eq_true rfl⟩ rfl rfl rfl hl.1 rfl (Nat.le_of_ble_eq_true rfl) dX1_trimmed_20 ⟨Nat.zero_le _, Nat.zero_le _⟩ (fun r16 σ15 τ15 H locs h15 hP hS => ?_)
        obtain ⟨⟨rfl, rfl⟩, h15⟩ := h15
        refine lv_iload hx hb dX1_trimmed_23 (lv_at hl 1 rfl) ?_
        refine lv_icmp_ne (tgt := 32) hx hb dX1_trimmed_25 (by decide) (fun c17 => ?_) (fun c17 => ?_)
        · have kc17 := jne c17 rfl rfl
          refine lv_iload_n hx hb dX1_trimmed_32 rfl (lv_at hl 5 rfl) ?_
          refine lv_iconst (v := 1) hx hb dX1_trimmed_33 (by decide) ?_
          refine lv_iadd hx hb dX1_trimmed_34 ?_
          refine lv_topi (fun x18 ex18 => ?_)
          have gx18 := jrg (rfl : x18.toInt = x18.toInt)
          refine lv_iconst (v := 2) hx hb dX1_trimmed_35 (by decide) ?_
          refine lv_idiv hx hb dX1_trimmed_36 (by decide) ?_
          refine lv_topi (fun x19 ex19 => ?_)
          have gx19 := jrg (rfl : x19.toInt = x19.toInt)
          refine lv_istore (lv' := [(6, .int x19), (5, .int r14), (4, .int x4), (3, .int x3), (0, .ref (ad 31)), (1, .int a1), (2, .int a2)]) hx hb dX1_trimmed_37 hl (by decide) rfl (fun ls hl => ?_)
          refine lv_aload_n hx hb dX1_trimmed_39 rfl (lv_at hl 4 rfl) ?_
          refine va_get (D := D) hx hb hts inlX1 hown hK hP 31 (jc_31 cI cL ad σ τ) rfl 12 (by decide) (hts _ kw_28_8) (fun _ h9 => h9) rfl dX1_trimmed_40 ?_
          refine lv_if_eq (tgt := 51) hx hb dX1_trimmed_43 (by decide) (fun c20 => ?_) (fun c20 => ?_)
          · have kc20 := jeq c20 rfl jz_0
            refine lv_iload hx hb dX1_trimmed_51 (lv_at hl 1 rfl) ?_
            refine lv_iload hx hb dX1_trimmed_53 (lv_at hl 0 rfl) ?_
            refine lv_icmp_le (tgt := 71) hx hb dX1_trimmed_55 (by decide) (fun c21 => ?_) (fun c21 => ?_)
            · have kc21 := jle c21 rfl rfl
              refine lv_iload hx hb dX1_trimmed_71 (lv_at hl 1 rfl) ?_
              refine lv_if_ne (tgt := 84) hx hb dX1_trimmed_73 (by decide) (fun c22 => ?_) (fun c22 => ?_)
              · have kc22 := jne c22 rfl jz_0
                obtain ⟨x23, ex23⟩ : ∃ y : Int32, y = x4 + 1 := ⟨_, rfl⟩
                have tx23 : x23.toInt = x4.toInt + 1 := (jadd ex23 rfl jz_1 (by omega) (by omega)).trans (by omega)
                refine lv_iinc (v := x23) (lv' := [(4, .int x23), (6, .int x19), (5, .int r14), (3, .int x3), (0, .ref (ad 31)), (1, .int a1), (2, .int a2)]) hx hb dX1_trimmed_84 hl (k := 2) rfl (by rw [ex23]; rfl) (by decide) rfl (fun ls hl => ?_)
                refine lv_goto (tgt := 5) hx hb dX1_trimmed_87 (by decide) ?_
                exact ihlp1 x3 x23 _ _ ls (by have h91 := tx23; omega) (by have h91 := tx23; omega) (by have h91 := tx23; omega)    hP hS (lv_sub hl [0, 3, 4, 5, 6] rfl)
              · have kc22 := jeq c22 rfl jz_0
                refine lv_iload_n hx hb dX1_trimmed_76 rfl (lv_at hl 3 rfl) ?_
                refine lv_iload hx hb dX1_trimmed_77 (lv_at hl 2 rfl) ?_
                refine lv_iconst (v := 0) hx hb dX1_trimmed_79 (by decide) ?_
                refine jcallS (As := [.int x3, .int x4, .int 0]) (rest := []) ⟨hx, hb, hml, hown, hts⟩ hK hP hA hS hZ (c_X0_withSteps l D cI cL ad zz hJ σ τ x3 (x3.toInt) rfl x4 (x4.toInt) rfl 0 (0) jz_0) cw_RX1_133 ⟨Nat.le_of_ble_eq_true rfl, Nat.le_of_ble_eq_true rfl⟩ rfl rfl rfl hl.1 rfl (Nat.le_of_ble_eq_true rfl) dX1_trimmed_80 ⟨Nat.zero_le _, Nat.zero_le _⟩ (fun r25 σ24 τ24 H locs h24 hP hS => ?_)
                obtain ⟨⟨rfl, rfl⟩, h24⟩ := h24
                refine lv_istore_n (lv' := [(3, .int r25), (6, .int x19), (5, .int r14), (4, .int x4), (0, .ref (ad 31)), (1, .int a1), (2, .int a2)]) hx hb dX1_trimmed_83 rfl hl (by decide) rfl (fun ls hl => ?_)
                obtain ⟨x26, ex26⟩ : ∃ y : Int32, y = x4 + 1 := ⟨_, rfl⟩
                have tx26 : x26.toInt = x4.toInt + 1 := (jadd ex26 rfl jz_1 (by omega) (by omega)).trans (by omega)
                refine lv_iinc (v := x26) (lv' := [(4, .int x26), (3, .int r25), (6, .int x19), (5, .int r14), (0, .ref (ad 31)), (1, .int a1), (2, .int a2)]) hx hb dX1_trimmed_84 hl (k := 3) rfl (by rw [ex26]; rfl) (by decide) rfl (fun ls hl => ?_)
                refine lv_goto (tgt := 5) hx hb dX1_trimmed_87 (by decide) ?_
                exact ihlp1 r25 x26 _ _ ls (by have h91 := tx26; omega) (by have h91 := tx26; omega) (by have h91 := tx26; omega)    hP hS (lv_sub hl [0, 1, 4, 5, 6] rfl)
            · have kc21 := jnle c21 rfl rfl
              refine lv_iload hx hb dX1_trimmed_58 (lv_at hl 0 rfl) ?_
              refine lv_istore (lv' := [(5, .int x19), (6, .int x19), (4, .int x4), (3, .int x3), (0, .ref (ad 31)), (1, .int a1), (2, .int a2)]) hx hb dX1_trimmed_60 hl (by decide) rfl (fun ls hl => ?_)
              refine lv_iload_n hx hb dX1_trimmed_62 rfl (lv_at hl 3 rfl) ?_
              refine lv_iload hx hb dX1_trimmed_63 (lv_at hl 2 rfl) ?_
              refine lv_iload hx hb dX1_trimmed_65 (lv_at hl 0 rfl) ?_
              refine jcallS (As := [.int x3, .int x4, .int x19]) (rest := []) ⟨hx, hb, hml, hown, hts⟩ hK hP hA hS hZ (c_X0_withLeft l D cI cL ad zz hJ σ τ x3 (x3.toInt) rfl x4 (x4.toInt) rfl x19 (x19.toInt) rfl) cw_RX1_129 ⟨Nat.le_of_ble_eq_true rfl, Nat.le_of_ble_eq_true rfl⟩ rfl rfl rfl hl.1 rfl (Nat.le_of_ble_eq_true rfl) dX1_trimmed_67 ⟨Nat.zero_le _, Nat.zero_le _⟩ (fun r28 σ27 τ27 H locs h27 hP hS => ?_)
              obtain ⟨⟨rfl, rfl⟩, h27⟩ := h27
              refine lv_istore_n (lv' := [(3, .int r28), (5, .int x19), (6, .int x19), (4, .int x4), (0, .ref (ad 31)), (1, .int a1), (2, .int a2)]) hx hb dX1_trimmed_70 rfl hl (by decide) rfl (fun ls hl => ?_)
              refine lv_iload hx hb dX1_trimmed_71 (lv_at hl 1 rfl) ?_
              refine lv_if_ne (tgt := 84) hx hb dX1_trimmed_73 (by decide) (fun c29 => ?_) (fun c29 => ?_)
              · have kc29 := jne c29 rfl jz_0
                obtain ⟨x30, ex30⟩ : ∃ y : Int32, y = x4 + 1 := ⟨_, rfl⟩
                have tx30 : x30.toInt = x4.toInt + 1 := (jadd ex30 rfl jz_1 (by omega) (by omega)).trans (by omega)
                refine lv_iinc (v := x30) (lv' := [(4, .int x30), (3, .int r28), (5, .int x19), (6, .int x19), (0, .ref (ad 31)), (1, .int a1), (2, .int a2)]) hx hb dX1_trimmed_84 hl (k := 3) rfl (by rw [ex30]; rfl) (by decide) rfl (fun ls hl => ?_)
                refine lv_goto (tgt := 5) hx hb dX1_trimmed_87 (by decide) ?_
                exact ihlp1 r28 x30 _ _ ls (by have h91 := tx30; omega) (by have h91 := tx30; omega) (by have h91 := tx30; omega)    hP hS (lv_sub hl [0, 1, 4, 5, 6] rfl)
              · have kc29 := jeq c29 rfl jz_0
                refine lv_iload_n hx hb dX1_trimmed_76 rfl (lv_at hl 0 rfl) ?_
                refine lv_iload hx hb dX1_trimmed_77 (lv_at hl 3 rfl) ?_
                refine lv_iconst (v := 0) hx hb dX1_trimmed_79 (by decide) ?_
                refine jcallS (As := [.int r28, .int x4, .int 0]) (rest := []) ⟨hx, hb, hml, hown, hts⟩ hK hP hA hS hZ (c_X0_withSteps l D cI cL ad zz hJ σ τ r28 (r28.toInt) rfl x4 (x4.toInt) rfl 0 (0) jz_0) cw_RX1_133 ⟨Nat.le_of_ble_eq_true rfl, Nat.le_of_ble_eq_true rfl⟩ rfl rfl rfl hl.1 rfl (Nat.le_of_ble_eq_true rfl) dX1_trimmed_80 ⟨Nat.zero_le _, Nat.zero_le _⟩ (fun r32 σ31 τ31 H locs h31 hP hS => ?_)
                obtain ⟨⟨rfl, rfl⟩, h31⟩ := h31
                refine lv_istore_n (lv' := [(3, .int r32), (5, .int x19), (6, .int x19), (4, .int x4), (0, .ref (ad 31)), (1, .int a1), (2, .int a2)]) hx hb dX1_trimmed_83 rfl hl (by decide) rfl (fun ls hl => ?_)
                obtain ⟨x33, ex33⟩ : ∃ y : Int32, y = x4 + 1 := ⟨_, rfl⟩
                have tx33 : x33.toInt = x4.toInt + 1 := (jadd ex33 rfl jz_1 (by omega) (by omega)).trans (by omega)
                refine lv_iinc (v := x33) (lv' := [(4, .int x33), (3, .int r32), (5, .int x19), (6, .int x19), (0, .ref (ad 31)), (1, .int a1), (2, .int a2)]) hx hb dX1_trimmed_84 hl (k := 3) rfl (by rw [ex33]; rfl) (by decide) rfl (fun ls hl => ?_)
                refine lv_goto (tgt := 5) hx hb dX1_trimmed_87 (by decide) ?_
                exact ihlp1 r32 x33 _ _ ls (by have h91 := tx33; omega) (by have h91 := tx33; omega) (by have h91 := tx33; omega)    hP hS (lv_sub hl [0, 1, 4, 5, 6] rfl)
          · have kc20 := jne c20 rfl jz_0
            refine lv_iload_n hx hb dX1_trimmed_46 rfl (lv_at hl 6 rfl) ?_
            refine lv_iconst (v := 1) hx hb dX1_trimmed_47 (by decide) ?_
            refine lv_icmp_gt (tgt := 71) hx hb dX1_trimmed_48 (by decide) (fun c34 => ?_) (fun c34 => ?_)
            · have kc34 := jlt c34 jz_1 t2
              refine lv_iload hx hb dX1_trimmed_71 (lv_at hl 1 rfl) ?_
              refine lv_if_ne (tgt := 84) hx hb dX1_trimmed_73 (by decide) (fun c35 => ?_) (fun c35 => ?_)
              · have kc35 := jne c35 rfl jz_0
                obtain ⟨x36, ex36⟩ : ∃ y : Int32, y = x4 + 1 := ⟨_, rfl⟩
                have tx36 : x36.toInt = x4.toInt + 1 := (jadd ex36 rfl jz_1 (by omega) (by omega)).trans (by omega)
                refine lv_iinc (v := x36) (lv' := [(4, .int x36), (6, .int x19), (5, .int r14), (3, .int x3), (0, .ref (ad 31)), (1, .int a1), (2, .int a2)]) hx hb dX1_trimmed_84 hl (k := 2) rfl (by rw [ex36]; rfl) (by decide) rfl (fun ls hl => ?_)
                refine lv_goto (tgt := 5) hx hb dX1_trimmed_87 (by decide) ?_
                exact ihlp1 x3 x36 _ _ ls (by have h91 := tx36; omega) (by have h91 := tx36; omega) (by have h91 := tx36; omega)    hP hS (lv_sub hl [0, 3, 4, 5, 6] rfl)
              · have kc35 := jeq c35 rfl jz_0
                refine lv_iload_n hx hb dX1_trimmed_76 rfl (lv_at hl 3 rfl) ?_
                refine lv_iload hx hb dX1_trimmed_77 (lv_at hl 2 rfl) ?_
                refine lv_iconst (v := 0) hx hb dX1_trimmed_79 (by decide) ?_
                refine jcallS (As := [.int x3, .int x4, .int 0]) (rest := []) ⟨hx, hb, hml, hown, hts⟩ hK hP hA hS hZ (c_X0_withSteps l D cI cL ad zz hJ σ τ x3 (x3.toInt) rfl x4 (x4.toInt) rfl 0 (0) jz_0) cw_RX1_133 ⟨Nat.le_of_ble_eq_true rfl, Nat.le_of_ble_eq_true rfl⟩ rfl rfl rfl hl.1 rfl (Nat.le_of_ble_eq_true rfl) dX1_trimmed_80 ⟨Nat.zero_le _, Nat.zero_le _⟩ (fun r38 σ37 τ37 H locs h37 hP hS => ?_)
                obtain ⟨⟨rfl, rfl⟩, h37⟩ := h37
                refine lv_istore_n (lv' := [(3, .int r38), (6, .int x19), (5, .int r14), (4, .int x4), (0, .ref (ad 31)), (1, .int a1), (2, .int a2)]) hx hb dX1_trimmed_83 rfl hl (by decide) rfl (fun ls hl => ?_)
                obtain ⟨x39, ex39⟩ : ∃ y : Int32, y = x4 + 1 := ⟨_, rfl⟩
                have tx39 : x39.toInt = x4.toInt + 1 := (jadd ex39 rfl jz_1 (by omega) (by omega)).trans (by omega)
                refine lv_iinc (v := x39) (lv' := [(4, .int x39), (3, .int r38), (6, .int x19), (5, .int r14), (0, .ref (ad 31)), (1, .int a1), (2, .int a2)]) hx hb dX1_trimmed_84 hl (k := 3) rfl (by rw [ex39]; rfl) (by decide) rfl (fun ls hl => ?_)
                refine lv_goto (tgt := 5) hx hb dX1_trimmed_87 (by decide) ?_
                exact ihlp1 r38 x39 _ _ ls (by have h91 := tx39; omega) (by have h91 := tx39; omega) (by have h91 := tx39; omega)    hP hS (lv_sub hl [0, 1, 4, 5, 6] rfl)
            · have kc34 := jnlt c34 jz_1 t2
              refine lv_iload hx hb dX1_trimmed_51 (lv_at hl 1 rfl) ?_
              refine lv_iload hx hb dX1_trimmed_53 (lv_at hl 0 rfl) ?_
              refine lv_icmp_le (tgt := 71) hx hb dX1_trimmed_55 (by decide) (fun c40 => ?_) (fun c40 => ?_)
              · have kc40 := jle c40 rfl rfl
                refine lv_iload hx hb dX1_trimmed_71 (lv_at hl 1 rfl) ?_
                refine lv_if_ne (tgt := 84) hx hb dX1_trimmed_73 (by decide) (fun c41 => ?_) (fun c41 => ?_)
                · have kc41 := jne c41 rfl jz_0
                  obtain ⟨x42, ex42⟩ : ∃ y : Int32, y = x4 + 1 := ⟨_, rfl⟩
                  have tx42 : x42.toInt = x4.toInt + 1 := (jadd ex42 rfl jz_1 (by omega) (by omega)).trans (by omega)
                  refine lv_iinc (v := x42) (lv' := [(4, .int x42), (6, .int x19), (5, .int r14), (3, .int x3), (0, .ref (ad 31)), (1, .int a1), (2, .int a2)]) hx hb dX1_trimmed_84 hl (k := 2) rfl (by rw [ex42]; rfl) (by decide) rfl (fun ls hl => ?_)
                  refine lv_goto (tgt := 5) hx hb dX1_trimmed_87 (by decide) ?_
                  exact ihlp1 x3 x42 _ _ ls (by have h91 := tx42; omega) (by have h91 := tx42; omega) (by have h91 := tx42; omega)    hP hS (lv_sub hl [0, 3, 4, 5, 6] rfl)
                · have kc41 := jeq c41 rfl jz_0
                  refine lv_iload_n hx hb dX1_trimmed_76 rfl (lv_at hl 3 rfl) ?_
                  refine lv_iload hx hb dX1_trimmed_77 (lv_at hl 2 rfl) ?_
                  refine lv_iconst (v := 0) hx hb dX1_trimmed_79 (by decide) ?_
                  refine jcallS (As := [.int x3, .int x4, .int 0]) (rest := []) ⟨hx, hb, hml, hown, hts⟩ hK hP hA hS hZ (c_X0_withSteps l D cI cL ad zz hJ σ τ x3 (x3.toInt) rfl x4 (x4.toInt) rfl 0 (0) jz_0) cw_RX1_133 ⟨Nat.le_of_ble_eq_true rfl, Nat.le_of_ble_eq_true rfl⟩ rfl rfl rfl hl.1 rfl (Nat.le_of_ble_eq_true rfl) dX1_trimmed_80 ⟨Nat.zero_le _, Nat.zero_le _⟩ (fun r44 σ43 τ43 H locs h43 hP hS => ?_)
                  obtain ⟨⟨rfl, rfl⟩, h43⟩ := h43
                  refine lv_istore_n (lv' := [(3, .int r44), (6, .int x19), (5, .int r14), (4, .int x4), (0, .ref (ad 31)), (1, .int a1), (2, .int a2)]) hx hb dX1_trimmed_83 rfl hl (by decide) rfl (fun ls hl => ?_)
                  obtain ⟨x45, ex45⟩ : ∃ y : Int32, y = x4 + 1 := ⟨_, rfl⟩
                  have tx45 : x45.toInt = x4.toInt + 1 := (jadd ex45 rfl jz_1 (by omega) (by omega)).trans (by omega)
                  refine lv_iinc (v := x45) (lv' := [(4, .int x45), (3, .int r44), (6, .int x19), (5, .int r14), (0, .ref (ad 31)), (1, .int a1), (2, .int a2)]) hx hb dX1_trimmed_84 hl (k := 3) rfl (by rw [ex45]; rfl) (by decide) rfl (fun ls hl => ?_)
                  refine lv_goto (tgt := 5) hx hb dX1_trimmed_87 (by decide) ?_
                  exact ihlp1 r44 x45 _ _ ls (by have h91 := tx45; omega) (by have h91 := tx45; omega) (by have h91 := tx45; omega)    hP hS (lv_sub hl [0, 1, 4, 5, 6] rfl)
              · have kc40 := jnle c40 rfl rfl
                refine lv_iload hx hb dX1_trimmed_58 (lv_at hl 0 rfl) ?_
                refine lv_istore (lv' := [(5, .int x19), (6, .int x19), (4, .int x4), (3, .int x3), (0, .ref (ad 31)), (1, .int a1), (2, .int a2)]) hx hb dX1_trimmed_60 hl (by decide) rfl (fun ls hl => ?_)
                refine lv_iload_n hx hb dX1_trimmed_62 rfl (lv_at hl 3 rfl) ?_
                refine lv_iload hx hb dX1_trimmed_63 (lv_at hl 2 rfl) ?_
                refine lv_iload hx hb dX1_trimmed_65 (lv_at hl 0 rfl) ?_
                refine jcallS (As := [.int x3, .int x4, .int x19]) (rest := []) ⟨hx, hb, hml, hown, hts⟩ hK hP hA hS hZ (c_X0_withLeft l D cI cL ad zz hJ σ τ x3 (x3.toInt) rfl x4 (x4.toInt) rfl x19 (x19.toInt) rfl) cw_RX1_129 ⟨Nat.le_of_ble_eq_true rfl, Nat.le_of_ble_eq_true rfl⟩ rfl rfl rfl hl.1 rfl (Nat.le_of_ble_eq_true rfl) dX1_trimmed_67 ⟨Nat.zero_le _, Nat.zero_le _⟩ (fun r47 σ46 τ46 H locs h46 hP hS => ?_)
                obtain ⟨⟨rfl, rfl⟩, h46⟩ := h46
                refine lv_istore_n (lv' := [(3, .int r47), (5, .int x19), (6, .int x19), (4, .int x4), (0, .ref (ad 31)), (1, .int a1), (2, .int a2)]) hx hb dX1_trimmed_70 rfl hl (by decide) rfl (fun ls hl => ?_)
                refine lv_iload hx hb dX1_trimmed_71 (lv_at hl 1 rfl) ?_
                refine lv_if_ne (tgt := 84) hx hb dX1_trimmed_73 (by decide) (fun c48 => ?_) (fun c48 => ?_)
                · have kc48 := jne c48 rfl jz_0
                  obtain ⟨x49, ex49⟩ : ∃ y : Int32, y = x4 + 1 := ⟨_, rfl⟩
                  have tx49 : x49.toInt = x4.toInt + 1 := (jadd ex49 rfl jz_1 (by omega) (by omega)).trans (by omega)
                  refine lv_iinc (v := x49) (lv' := [(4, .int x49), (3, .int r47), (5, .int x19), (6, .int x19), (0, .ref (ad 31)), (1, .int a1), (2, .int a2)]) hx hb dX1_trimmed_84 hl (k := 3) rfl (by rw [ex49]; rfl) (by decide) rfl (fun ls hl => ?_)
                  refine lv_goto (tgt := 5) hx hb dX1_trimmed_87 (by decide) ?_
                  exact ihlp1 r47 x49 _ _ ls (by have h91 := tx49; omega) (by have h91 := tx49; omega) (by have h91 := tx49; omega)    hP hS (lv_sub hl [0, 1, 4, 5, 6] rfl)
                · have kc48 := jeq c48 rfl jz_0
                  refine lv_iload_n hx hb dX1_trimmed_76 rfl (lv_at hl 0 rfl) ?_
                  refine lv_iload hx hb dX1_trimmed_77 (lv_at hl 3 rfl) ?_
                  refine lv_iconst (v := 0) hx hb dX1_trimmed_79 (by decide) ?_
                  refine jcallS (As := [.int r47, .int x4, .int 0]) (rest := []) ⟨hx, hb, hml, hown, hts⟩ hK hP hA hS hZ (c_X0_withSteps l D cI cL ad zz hJ σ τ r47 (r47.toInt) rfl x4 (x4.toInt) rfl 0 (0) jz_0) cw_RX1_133 ⟨Nat.le_of_ble_eq_true rfl, Nat.le_of_ble_eq_true rfl⟩ rfl rfl rfl hl.1 rfl (Nat.le_of_ble_eq_true rfl) dX1_trimmed_80 ⟨Nat.zero_le _, Nat.zero_le _⟩ (fun r51 σ50 τ50 H locs h50 hP hS => ?_)
                  obtain ⟨⟨rfl, rfl⟩, h50⟩ := h50
                  refine lv_istore_n (lv' := [(3, .int r51), (5, .int x19), (6, .int x19), (4, .int x4), (0, .ref (ad 31)), (1, .int a1), (2, .int a2)]) hx hb dX1_trimmed_83 rfl hl (by decide) rfl (fun ls hl => ?_)
                  obtain ⟨x52, ex52⟩ : ∃ y : Int32, y = x4 + 1 := ⟨_, rfl⟩
                  have tx52 : x52.toInt = x4.toInt + 1 := (jadd ex52 rfl jz_1 (by omega) (by omega)).trans (by omega)
                  refine lv_iinc (v := x52) (lv' := [(4, .int x52), (3, .int r51), (5, .int x19), (6, .int x19), (0, .ref (ad 31)), (1, .int a1), (2, .int a2)]) hx hb dX1_trimmed_84 hl (k := 3) rfl (by rw [ex52]; rfl) (by decide) rfl (fun ls hl => ?_)
                  refine lv_goto (tgt := 5) hx hb dX1_trimmed_87 (by decide) ?_
                  exact ihlp1 r51 x52 _ _ ls (by have h91 := tx52; omega) (by have h91 := tx52; omega) (by have h91 := tx52; omega)    hP hS (lv_sub hl [0, 1, 4, 5, 6] rfl)
        · have kc17 := jeq c17 rfl rfl
          refine lv_iload_n hx hb dX1_trimmed_28 rfl (lv_at hl 5 rfl) ?_
          refine lv_goto (tgt := 35) hx hb dX1_trimmed_29 (by decide) ?_
          refine lv_iconst (v := 2) hx hb dX1_trimmed_35 (by decide) ?_
          refine lv_idiv hx hb dX1_trimmed_36 (by decide) ?_
          refine lv_topi (fun x53 ex53 => ?_)
          have gx53 := jrg (rfl : x53.toInt = x53.toInt)
          refine lv_istore (lv' := [(6, .int x53), (5, .int r14), (4, .int x4), (3, .int x3), (0, .ref (ad 31)), (1, .int a1), (2, .int a2)]) hx hb dX1_trimmed_37 hl (by decide) rfl (fun ls hl => ?_)
          refine lv_aload_n hx hb dX1_trimmed_39 rfl (lv_at hl 4 rfl) ?_
          refine va_get (D := D) hx hb hts inlX1 hown hK hP 31 (jc_31 cI cL ad σ τ) rfl 12 (by decide) (hts _ kw_28_8) (fun _ h9 => h9) rfl dX1_trimmed_40 ?_
          refine lv_if_eq (tgt := 51) hx hb dX1_trimmed_43 (by decide) (fun c54 => ?_) (fun c54 => ?_)
          · have kc54 := jeq c54 rfl jz_0
            refine lv_iload hx hb dX1_trimmed_51 (lv_at hl 1 rfl) ?_
            refine lv_iload hx hb dX1_trimmed_53 (lv_at hl 0 rfl) ?_
            refine lv_icmp_le (tgt := 71) hx hb dX1_trimmed_55 (by decide) (fun c55 => ?_) (fun c55 => ?_)
            · have kc55 := jle c55 rfl rfl
              refine lv_iload hx hb dX1_trimmed_71 (lv_at hl 1 rfl) ?_
              refine lv_if_ne (tgt := 84) hx hb dX1_trimmed_73 (by decide) (fun c56 => ?_) (fun c56 => ?_)
              · have kc56 := jne c56 rfl jz_0
                obtain ⟨x57, ex57⟩ : ∃ y : Int32, y = x4 + 1 := ⟨_, rfl⟩
                have tx57 : x57.toInt = x4.toInt + 1 := (jadd ex57 rfl jz_1 (by omega) (by omega)).trans (by omega)
                refine lv_iinc (v := x57) (lv' := [(4, .int x57), (6, .int x53), (5, .int r14), (3, .int x3), (0, .ref (ad 31)), (1, .int a1), (2, .int a2)]) hx hb dX1_trimmed_84 hl (k := 2) rfl (by rw [ex57]; rfl) (by decide) rfl (fun ls hl => ?_)
                refine lv_goto (tgt := 5) hx hb dX1_trimmed_87 (by decide) ?_
                exact ihlp1 x3 x57 _ _ ls (by have h91 := tx57; omega) (by have h91 := tx57; omega) (by have h91 := tx57; omega)    hP hS (lv_sub hl [0, 3, 4, 5, 6] rfl)
              · have kc56 := jeq c56 rfl jz_0
                refine lv_iload_n hx hb dX1_trimmed_76 rfl (lv_at hl 3 rfl) ?_
                refine lv_iload hx hb dX1_trimmed_77 (lv_at hl 2 rfl) ?_
                refine lv_iconst (v := 0) hx hb dX1_trimmed_79 (by decide) ?_
                refine jcallS (As := [.int x3, .int x4, .int 0]) (rest := []) ⟨hx, hb, hml, hown, hts⟩ hK hP hA hS hZ (c_X0_withSteps l D cI cL ad zz hJ σ τ x3 (x3.toInt) rfl x4 (x4.toInt) rfl 0 (0) jz_0) cw_RX1_133 ⟨Nat.le_of_ble_eq_true rfl, Nat.le_of_ble_eq_true rfl⟩ rfl rfl rfl hl.1 rfl (Nat.le_of_ble_eq_true rfl) dX1_trimmed_80 ⟨Nat.zero_le _, Nat.zero_le _⟩ (fun r59 σ58 τ58 H locs h58 hP hS => ?_)
                obtain ⟨⟨rfl, rfl⟩, h58⟩ := h58
                refine lv_istore_n (lv' := [(3, .int r59), (6, .int x53), (5, .int r14), (4, .int x4), (0, .ref (ad 31)), (1, .int a1), (2, .int a2)]) hx hb dX1_trimmed_83 rfl hl (by decide) rfl (fun ls hl => ?_)
                obtain ⟨x60, ex60⟩ : ∃ y : Int32, y = x4 + 1 := ⟨_, rfl⟩
                have tx60 : x60.toInt = x4.toInt + 1 := (jadd ex60 rfl jz_1 (by omega) (by omega)).trans (by omega)
                refine lv_iinc (v := x60) (lv' := [(4, .int x60), (3, .int r59), (6, .int x53), (5, .int r14), (0, .ref (ad 31)), (1, .int a1), (2, .int a2)]) hx hb dX1_trimmed_84 hl (k := 3) rfl (by rw [ex60]; rfl) (by decide) rfl (fun ls hl => ?_)
                refine lv_goto (tgt := 5) hx hb dX1_trimmed_87 (by decide) ?_
                exact ihlp1 r59 x60 _ _ ls (by have h91 := tx60; omega) (by have h91 := tx60; omega) (by have h91 := tx60; omega)    hP hS (lv_sub hl [0, 1, 4, 5, 6] rfl)
            · have kc55 := jnle c55 rfl rfl
              refine lv_iload hx hb dX1_trimmed_58 (lv_at hl 0 rfl) ?_
              refine lv_istore (lv' := [(5, .int x53), (6, .int x53), (4, .int x4), (3, .int x3), (0, .ref (ad 31)), (1, .int a1), (2, .int a2)]) hx hb dX1_trimmed_60 hl (by decide) rfl (fun ls hl => ?_)
              refine lv_iload_n hx hb dX1_trimmed_62 rfl (lv_at hl 3 rfl) ?_
              refine lv_iload hx hb dX1_trimmed_63 (lv_at hl 2 rfl) ?_
              refine lv_iload hx hb dX1_trimmed_65 (lv_at hl 0 rfl) ?_
              refine jcallS (As := [.int x3, .int x4, .int x53]) (rest := []) ⟨hx, hb, hml, hown, hts⟩ hK hP hA hS hZ (c_X0_withLeft l D cI cL ad zz hJ σ τ x3 (x3.toInt) rfl x4 (x4.toInt) rfl x53 (x53.toInt) rfl) cw_RX1_129 ⟨Nat.le_of_ble_eq_true rfl, Nat.le_of_ble_eq_true rfl⟩ rfl rfl rfl hl.1 rfl (Nat.le_of_ble_eq_true rfl) dX1_trimmed_67 ⟨Nat.zero_le _, Nat.zero_le _⟩ (fun r62 σ61 τ61 H locs h61 hP hS => ?_)
              obtain ⟨⟨rfl, rfl⟩, h61⟩ := h61
              refine lv_istore_n (lv' := [(3, .int r62), (5, .int x53), (6, .int x53), (4, .int x4), (0, .ref (ad 31)), (1, .int a1), (2, .int a2)]) hx hb dX1_trimmed_70 rfl hl (by decide) rfl (fun ls hl => ?_)
              refine lv_iload hx hb dX1_trimmed_71 (lv_at hl 1 rfl) ?_
              refine lv_if_ne (tgt := 84) hx hb dX1_trimmed_73 (by decide) (fun c63 => ?_) (fun c63 => ?_)
              · have kc63 := jne c63 rfl jz_0
                obtain ⟨x64, ex64⟩ : ∃ y : Int32, y = x4 + 1 := ⟨_, rfl⟩
                have tx64 : x64.toInt = x4.toInt + 1 := (jadd ex64 rfl jz_1 (by omega) (by omega)).trans (by omega)
                refine lv_iinc (v := x64) (lv' := [(4, .int x64), (3, .int r62), (5, .int x53), (6, .int x53), (0, .ref (ad 31)), (1, .int a1), (2, .int a2)]) hx hb dX1_trimmed_84 hl (k := 3) rfl (by rw [ex64]; rfl) (by decide) rfl (fun ls hl => ?_)
                refine lv_goto (tgt := 5) hx hb dX1_trimmed_87 (by decide) ?_
                exact ihlp1 r62 x64 _ _ ls (by have h91 := tx64; omega) (by have h91 := tx64; omega) (by have h91 := tx64; omega)    hP hS (lv_sub hl [0, 1, 4, 5, 6] rfl)
              · have kc63 := jeq c63 rfl jz_0
                refine lv_iload_n hx hb dX1_trimmed_76 rfl (lv_at hl 0 rfl) ?_
                refine lv_iload hx hb dX1_trimmed_77 (lv_at hl 3 rfl) ?_
                refine lv_iconst (v := 0) hx hb dX1_trimmed_79 (by decide) ?_
                refine jcallS (As := [.int r62, .int x4, .int 0]) (rest := []) ⟨hx, hb, hml, hown, hts⟩ hK hP hA hS hZ (c_X0_withSteps l D cI cL ad zz hJ σ τ r62 (r62.toInt) rfl x4 (x4.toInt) rfl 0 (0) jz_0) cw_RX1_133 ⟨Nat.le_of_ble_eq_true rfl, Nat.le_of_ble_eq_true rfl⟩ rfl rfl rfl hl.1 rfl (Nat.le_of_ble_eq_true rfl) dX1_trimmed_80 ⟨Nat.zero_le _, Nat.zero_le _⟩ (fun r66 σ65 τ65 H locs h65 hP hS => ?_)
                obtain ⟨⟨rfl, rfl⟩, h65⟩ := h65
                refine lv_istore_n (lv' := [(3, .int r66), (5, .int x53), (6, .int x53), (4, .int x4), (0, .ref (ad 31)), (1, .int a1), (2, .int a2)]) hx hb dX1_trimmed_83 rfl hl (by decide) rfl (fun ls hl => ?_)
                obtain ⟨x67, ex67⟩ : ∃ y : Int32, y = x4 + 1 := ⟨_, rfl⟩
                have tx67 : x67.toInt = x4.toInt + 1 := (jadd ex67 rfl jz_1 (by omega) (by omega)).trans (by omega)
                refine lv_iinc (v := x67) (lv' := [(4, .int x67), (3, .int r66), (5, .int x53), (6, .int x53), (0, .ref (ad 31)), (1, .int a1), (2, .int a2)]) hx hb dX1_trimmed_84 hl (k := 3) rfl (by rw [ex67]; rfl) (by decide) rfl (fun ls hl => ?_)
                refine lv_goto (tgt := 5) hx hb dX1_trimmed_87 (by decide) ?_
                exact ihlp1 r66 x67 _ _ ls (by have h91 := tx67; omega) (by have h91 := tx67; omega) (by have h91 := tx67; omega)    hP hS (lv_sub hl [0, 1, 4, 5, 6] rfl)
          · have kc54 := jne c54 rfl jz_0
            refine lv_iload_n hx hb dX1_trimmed_46 rfl (lv_at hl 6 rfl) ?_
            refine lv_iconst (v := 1) hx hb dX1_trimmed_47 (by decide) ?_
            refine lv_icmp_gt (tgt := 71) hx hb dX1_trimmed_48 (by decide) (fun c68 => ?_) (fun c68 => ?_)
            · have kc68 := jlt c68 jz_1 t2
              refine lv_iload hx hb dX1_trimmed_71 (lv_at hl 1 rfl) ?_
              refine lv_if_ne (tgt := 84) hx hb dX1_trimmed_73 (by decide) (fun c69 => ?_) (fun c69 => ?_)
              · have kc69 := jne c69 rfl jz_0
                obtain ⟨x70, ex70⟩ : ∃ y : Int32, y = x4 + 1 := ⟨_, rfl⟩
                have tx70 : x70.toInt = x4.toInt + 1 := (jadd ex70 rfl jz_1 (by omega) (by omega)).trans (by omega)
                refine lv_iinc (v := x70) (lv' := [(4, .int x70), (6, .int x53), (5, .int r14), (3, .int x3), (0, .ref (ad 31)), (1, .int a1), (2, .int a2)]) hx hb dX1_trimmed_84 hl (k := 2) rfl (by rw [ex70]; rfl) (by decide) rfl (fun ls hl => ?_)
                refine lv_goto (tgt := 5) hx hb dX1_trimmed_87 (by decide) ?_
                exact ihlp1 x3 x70 _ _ ls (by have h91 := tx70; omega) (by have h91 := tx70; omega) (by have h91 := tx70; omega)    hP hS (lv_sub hl [0, 3, 4, 5, 6] rfl)
              · have kc69 := jeq c69 rfl jz_0
                refine lv_iload_n hx hb dX1_trimmed_76 rfl (lv_at hl 3 rfl) ?_
                refine lv_iload hx hb dX1_trimmed_77 (lv_at hl 2 rfl) ?_
                refine lv_iconst (v := 0) hx hb dX1_trimmed_79 (by decide) ?_
                refine jcallS (As := [.int x3, .int x4, .int 0]) (rest := []) ⟨hx, hb, hml, hown, hts⟩ hK hP hA hS hZ (c_X0_withSteps l D cI cL ad zz hJ σ τ x3 (x3.toInt) rfl x4 (x4.toInt) rfl 0 (0) jz_0) cw_RX1_133 ⟨Nat.le_of_ble_eq_true rfl, Nat.le_of_ble_eq_true rfl⟩ rfl rfl rfl hl.1 rfl (Nat.le_of_ble_eq_true rfl) dX1_trimmed_80 ⟨Nat.zero_le _, Nat.zero_le _⟩ (fun r72 σ71 τ71 H locs h71 hP hS => ?_)
                obtain ⟨⟨rfl, rfl⟩, h71⟩ := h71
                refine lv_istore_n (lv' := [(3, .int r72), (6, .int x53), (5, .int r14), (4, .int x4), (0, .ref (ad 31)), (1, .int a1), (2, .int a2)]) hx hb dX1_trimmed_83 rfl hl (by decide) rfl (fun ls hl => ?_)
                obtain ⟨x73, ex73⟩ : ∃ y : Int32, y = x4 + 1 := ⟨_, rfl⟩
                have tx73 : x73.toInt = x4.toInt + 1 := (jadd ex73 rfl jz_1 (by omega) (by omega)).trans (by omega)
                refine lv_iinc (v := x73) (lv' := [(4, .int x73), (3, .int r72), (6, .int x53), (5, .int r14), (0, .ref (ad 31)), (1, .int a1), (2, .int a2)]) hx hb dX1_trimmed_84 hl (k := 3) rfl (by rw [ex73]; rfl) (by decide) rfl (fun ls hl => ?_)
                refine lv_goto (tgt := 5) hx hb dX1_trimmed_87 (by decide) ?_
                exact ihlp1 r72 x73 _ _ ls (by have h91 := tx73; omega) (by have h91 := tx73; omega) (by have h91 := tx73; omega)    hP hS (lv_sub hl [0, 1, 4, 5, 6] rfl)
            · have kc68 := jnlt c68 jz_1 t2
              refine lv_iload hx hb dX1_trimmed_51 (lv_at hl 1 rfl) ?_
              refine lv_iload hx hb dX1_trimmed_53 (lv_at hl 0 rfl) ?_
              refine lv_icmp_le (tgt := 71) hx hb dX1_trimmed_55 (by decide) (fun c74 => ?_) (fun c74 => ?_)
              · have kc74 := jle c74 rfl rfl
                refine lv_iload hx hb dX1_trimmed_71 (lv_at hl 1 rfl) ?_
                refine lv_if_ne (tgt := 84) hx hb dX1_trimmed_73 (by decide) (fun c75 => ?_) (fun c75 => ?_)
                · have kc75 := jne c75 rfl jz_0
                  obtain ⟨x76, ex76⟩ : ∃ y : Int32, y = x4 + 1 := ⟨_, rfl⟩
                  have tx76 : x76.toInt = x4.toInt + 1 := (jadd ex76 rfl jz_1 (by omega) (by omega)).trans (by omega)
                  refine lv_iinc (v := x76) (lv' := [(4, .int x76), (6, .int x53), (5, .int r14), (3, .int x3), (0, .ref (ad 31)), (1, .int a1), (2, .int a2)]) hx hb dX1_trimmed_84 hl (k := 2) rfl (by rw [ex76]; rfl) (by decide) rfl (fun ls hl => ?_)
                  refine lv_goto (tgt := 5) hx hb dX1_trimmed_87 (by decide) ?_
                  exact ihlp1 x3 x76 _ _ ls (by have h91 := tx76; omega) (by have h91 := tx76; omega) (by have h91 := tx76; omega)    hP hS (lv_sub hl [0, 3, 4, 5, 6] rfl)
                · have kc75 := jeq c75 rfl jz_0
                  refine lv_iload_n hx hb dX1_trimmed_76 rfl (lv_at hl 3 rfl) ?_
                  refine lv_iload hx hb dX1_trimmed_77 (lv_at hl 2 rfl) ?_
                  refine lv_iconst (v := 0) hx hb dX1_trimmed_79 (by decide) ?_
                  refine jcallS (As := [.int x3, .int x4, .int 0]) (rest := []) ⟨hx, hb, hml, hown, hts⟩ hK hP hA hS hZ (c_X0_withSteps l D cI cL ad zz hJ σ τ x3 (x3.toInt) rfl x4 (x4.toInt) rfl 0 (0) jz_0) cw_RX1_133 ⟨Nat.le_of_ble_eq_true rfl, Nat.le_of_ble_eq_true rfl⟩ rfl rfl rfl hl.1 rfl (Nat.le_of_ble_eq_true rfl) dX1_trimmed_80 ⟨Nat.zero_le _, Nat.zero_le _⟩ (fun r78 σ77 τ77 H locs h77 hP hS => ?_)
                  obtain ⟨⟨rfl, rfl⟩, h77⟩ := h77
                  refine lv_istore_n (lv' := [(3, .int r78), (6, .int x53), (5, .int r14), (4, .int x4), (0, .ref (ad 31)), (1, .int a1), (2, .int a2)]) hx hb dX1_trimmed_83 rfl hl (by decide) rfl (fun ls hl => ?_)
                  obtain ⟨x79, ex79⟩ : ∃ y : Int32, y = x4 + 1 := ⟨_, rfl⟩
                  have tx79 : x79.toInt = x4.toInt + 1 := (jadd ex79 rfl jz_1 (by omega) (by omega)).trans (by omega)
                  refine lv_iinc (v := x79) (lv' := [(4, .int x79), (3, .int r78), (6, .int x53), (5, .int r14), (0, .ref (ad 31)), (1, .int a1), (2, .int a2)]) hx hb dX1_trimmed_84 hl (k := 3) rfl (by rw [ex79]; rfl) (by decide) rfl (fun ls hl => ?_)
                  refine lv_goto (tgt := 5) hx hb dX1_trimmed_87 (by decide) ?_
                  exact ihlp1 r78 x79 _ _ ls (by have h91 := tx79; omega) (by have h91 := tx79; omega) (by have h91 := tx79; omega)    hP hS (lv_sub hl [0, 1, 4, 5, 6] rfl)
              · have kc74 := jnle c74 rfl rfl
                refine lv_iload hx hb dX1_trimmed_58 (lv_at hl 0 rfl) ?_
                refine lv_istore (lv' := [(5, .int x53), (6, .int x53), (4, .int x4), (3, .int x3), (0, .ref (ad 31)), (1, .int a1), (2, .int a2)]) hx hb dX1_trimmed_60 hl (by decide) rfl (fun ls hl => ?_)
                refine lv_iload_n hx hb dX1_trimmed_62 rfl (lv_at hl 3 rfl) ?_
                refine lv_iload hx hb dX1_trimmed_63 (lv_at hl 2 rfl) ?_
                refine lv_iload hx hb dX1_trimmed_65 (lv_at hl 0 rfl) ?_
                refine jcallS (As := [.int x3, .int x4, .int x53]) (rest := []) ⟨hx, hb, hml, hown, hts⟩ hK hP hA hS hZ (c_X0_withLeft l D cI cL ad zz hJ σ τ x3 (x3.toInt) rfl x4 (x4.toInt) rfl x53 (x53.toInt) rfl) cw_RX1_129 ⟨Nat.le_of_ble_eq_true rfl, Nat.le_of_ble_eq_true rfl⟩ rfl rfl rfl hl.1 rfl (Nat.le_of_ble_eq_true rfl) dX1_trimmed_67 ⟨Nat.zero_le _, Nat.zero_le _⟩ (fun r81 σ80 τ80 H locs h80 hP hS => ?_)
                obtain ⟨⟨rfl, rfl⟩, h80⟩ := h80
                refine lv_istore_n (lv' := [(3, .int r81), (5, .int x53), (6, .int x53), (4, .int x4), (0, .ref (ad 31)), (1, .int a1), (2, .int a2)]) hx hb dX1_trimmed_70 rfl hl (by decide) rfl (fun ls hl => ?_)
                refine lv_iload hx hb dX1_trimmed_71 (lv_at hl 1 rfl) ?_
                refine lv_if_ne (tgt := 84) hx hb dX1_trimmed_73 (by decide) (fun c82 => ?_) (fun c82 => ?_)
                · have kc82 := jne c82 rfl jz_0
                  obtain ⟨x83, ex83⟩ : ∃ y : Int32, y = x4 + 1 := ⟨_, rfl⟩
                  have tx83 : x83.toInt = x4.toInt + 1 := (jadd ex83 rfl jz_1 (by omega) (by omega)).trans (by omega)
                  refine lv_iinc (v := x83) (lv' := [(4, .int x83), (3, .int r81), (5, .int x53), (6, .int x53), (0, .ref (ad 31)), (1, .int a1), (2, .int a2)]) hx hb dX1_trimmed_84 hl (k := 3) rfl (by rw [ex83]; rfl) (by decide) rfl (fun ls hl => ?_)
                  refine lv_goto (tgt := 5) hx hb dX1_trimmed_87 (by decide) ?_
                  exact ihlp1 r81 x83 _ _ ls (by have h91 := tx83; omega) (by have h91 := tx83; omega) (by have h91 := tx83; omega)    hP hS (lv_sub hl [0, 1, 4, 5, 6] rfl)
                · have kc82 := jeq c82 rfl jz_0
                  refine lv_iload_n hx hb dX1_trimmed_76 rfl (lv_at hl 0 rfl) ?_
                  refine lv_iload hx hb dX1_trimmed_77 (lv_at hl 3 rfl) ?_
                  refine lv_iconst (v := 0) hx hb dX1_trimmed_79 (by decide) ?_
                  refine jcallS (As := [.int r81, .int x4, .int 0]) (rest := []) ⟨hx, hb, hml, hown, hts⟩ hK hP hA hS hZ (c_X0_withSteps l D cI cL ad zz hJ σ τ r81 (r81.toInt) rfl x4 (x4.toInt) rfl 0 (0) jz_0) cw_RX1_133 ⟨Nat.le_of_ble_eq_true rfl, Nat.le_of_ble_eq_true rfl⟩ rfl rfl rfl hl.1 rfl (Nat.le_of_ble_eq_true rfl) dX1_trimmed_80 ⟨Nat.zero_le _, Nat.zero_le _⟩ (fun r85 σ84 τ84 H locs h84 hP hS => ?_)
                  obtain ⟨⟨rfl, rfl⟩, h84⟩ := h84
                  refine lv_istore_n (lv' := [(3, .int r85), (5, .int x53), (6, .int x53), (4, .int x4), (0, .ref (ad 31)), (1, .int a1), (2, .int a2)]) hx hb dX1_trimmed_83 rfl hl (by decide) rfl (fun ls hl => ?_)
                  obtain ⟨x86, ex86⟩ : ∃ y : Int32, y = x4 + 1 := ⟨_, rfl⟩
                  have tx86 : x86.toInt = x4.toInt + 1 := (jadd ex86 rfl jz_1 (by omega) (by omega)).trans (by omega)
                  refine lv_iinc (v := x86) (lv' := [(4, .int x86), (3, .int r85), (5, .int x53), (6, .int x53), (0, .ref (ad 31)), (1, .int a1), (2, .int a2)]) hx hb dX1_trimmed_84 hl (k := 3) rfl (by rw [ex86]; rfl) (by decide) rfl (fun ls hl => ?_)
                  refine lv_goto (tgt := 5) hx hb dX1_trimmed_87 (by decide) ?_
                  exact ihlp1 r85 x86 _ _ ls (by have h91 := tx86; omega) (by have h91 := tx86; omega) (by have h91 := tx86; omega)    hP hS (lv_sub hl [0, 1, 4, 5, 6] rfl)
  exact lp1 1000000 a1 0 _ _ ls (by have h90 := t1; have h91 := jz_0; omega) (by have h90 := t1; have h91 := jz_0; omega) (by have h90 := t1; have h91 := jz_0; omega)   hP hS hl
set_option maxHeartbeats 4000000 in
set_option maxRecDepth 100000 in
theorem c_X1_add_31 (l : Launch) (D : va_G) (cI cL : ClassId) (ad zz : Nat → Nat) (hJ : jD ad) (σ : Nat → Nat → Int32) (τ : Nat → Nat → Int64) (a1 : Int32) (A1 : Int) (t1 : a1.toInt = A1) (a2 : Int32) (A2 : Int) (t2 : a2.toInt = A2) (hI31 : jI31 σ) : jM l yX1_add cX1_add 5 (some .int) ({ frames := 2, cells := 0, slots := 0, locals := 49 }) D cI cL ad zz [.ref (ad 31), .int a1, .int a2] σ τ (fun r σ' τ' => τ = τ' ∧ (∀ i : Nat, (i < 31 ∨ 32 < i) ∧ (i < 36 ∨ 37 < i) → σ' i = σ i) ∧ (∀ k : Nat, (k < 8 ∨ 8 < k) → σ' 31 k = σ 31 k) ∧ (jI31 σ') ∧ ((True ∧ (0 ≤ r.toInt ∧ r.toInt ≤ 350)))) := by
  refine jM.of hJ (by decide +kernel) (nt := .int) rfl (Nat.le_of_ble_eq_true rfl) ?_
  intro p e s m args below meth c Q ls hC hret hl hP
  obtain ⟨hx, hb, hr, hml, hown, hts, hK, -, hlocks, hZ⟩ := hC
  have hown : s.vm.findClass RX1 = some m.cls := hown
  have hS : va_S (jA ad) s.heap s.heap [] := va_S.rf
  have hA : ∀ q, jA ad q → jA ad q := fun _ h => h
  have hl : lv_has ls 5 [(0, .ref (ad 31)), (1, .int a1), (2, .int a2)] := hl
  have g1 := jrg t1
  have g2 := jrg t2
  obtain ⟨i1, w2, w3⟩ : (0 ≤ (σ 31 8).toInt ∧ (σ 31 8).toInt ≤ 350) ∧ (∀ k : Nat, k < 1400 → (-1) ≤ (σ 33 k).toInt ∧ (σ 33 k).toInt ≤ 350) ∧ (∀ k : Nat, k < 1024 → 0 ≤ (σ 36 k).toInt ∧ (σ 36 k).toInt ≤ 349) := id hI31
  refine lv_iload_n hx hb dX1_add_0 rfl (lv_at hl 2 rfl) ?_
  refine lv_aload_n hx hb dX1_add_1 rfl (lv_at hl 0 rfl) ?_
  refine va_get (D := D) hx hb hts inlX1 hown hK hP 31 (jc_31 cI cL ad σ τ) rfl 11 (by decide) (hts _ kw_28_7) (fun _ h9 => h9) rfl dX1_add_2 ?_
  refine lv_icmp_lt (tgt := 12) hx hb dX1_add_5 (by decide) (fun c4 => ?_) (fun c4 => ?_)
  · have kc4 := jlt c4 t2 rfl
    refine lv_aload_n hx hb dX1_add_12 rfl (lv_at hl 0 rfl) ?_
    refine lv_iload_n hx hb dX1_add_13 rfl (lv_at hl 1 rfl) ?_
    refine lv_aload_n hx hb dX1_add_14 rfl (lv_at hl 0 rfl) ?_
    refine va_get (D := D) hx hb hts inlX1 hown hK hP 31 (jc_31 cI cL ad σ τ) rfl 11 (by decide) (hts _ kw_28_7) (fun _ h9 => h9) rfl dX1_add_15 ?_
    refine lv_iload_n hx hb dX1_add_18 rfl (lv_at hl 2 rfl) ?_
    have g5 := jrg (rfl : (σ 31 11).toInt = (σ 31 11).toInt)
    refine lv_isub hx hb dX1_add_19 ?_
    refine lv_topi (fun x6 ex6 => ?_)
    have gx6 := jrg (rfl : x6.toInt = x6.toInt)
    refine jcallV (As := [.int a1, .int x6]) (rest := []) ⟨hx, hb, hml, hown, hts⟩ hK hP hA hS hZ (c_X1_trimmed_31 l D cI cL ad zz hJ σ τ a1 (A1) t1 x6 (x6.toInt) rfl) cw_RX1_71 (jc_31 cI cL ad σ τ) rfl ⟨Nat.le_of_ble_eq_true rfl, Nat.le_of_ble_eq_true rfl⟩ rfl rfl rfl hl.1 rfl (Nat.le_of_ble_eq_true rfl) dX1_add_20 ⟨Nat.zero_le _, Nat.zero_le _⟩ (fun r8 σ7 τ7 H locs h7 hP hS => ?_)
    obtain ⟨⟨rfl, rfl⟩, h7⟩ := h7
    refine lv_iload_n hx hb dX1_add_23 rfl (lv_at hl 2 rfl) ?_
    refine lv_bipush (v := 27) hx hb dX1_add_24 (by decide) ?_
    refine lv_ishl hx hb dX1_add_26 ?_
    refine lv_topi (fun x9 ex9 => ?_)
    have gx9 := jrg (rfl : x9.toInt = x9.toInt)
    refine lv_ior hx hb dX1_add_27 ?_
    refine lv_topi (fun x10 ex10 => ?_)
    have gx10 := jrg (rfl : x10.toInt = x10.toInt)
    refine lv_istore_n (lv' := [(3, .int x10), (0, .ref (ad 31)), (1, .int a1), (2, .int a2)]) hx hb dX1_add_28 rfl hl (by decide) rfl (fun ls hl => ?_)
    refine lv_aload_n hx hb dX1_add_29 rfl (lv_at hl 1 rfl) ?_
    refine lv_iload_n hx hb dX1_add_30 rfl (lv_at hl 0 rfl) ?_
    refine jcallV (As := [.int x10]) (rest := []) ⟨hx, hb, hml, hown, hts⟩ hK hP hA hS hZ (c_X1_slotFor_31 l D cI cL ad zz hJ σ τ x10 (x10.toInt) rfl hI31) cw_RX1_77 (jc_31 cI cL ad σ τ) rfl ⟨Nat.le_of_ble_eq_true rfl, Nat.le_of_ble_eq_true rfl⟩ rfl rfl rfl hl.1 rfl (Nat.le_of_ble_eq_true rfl) dX1_add_31 ⟨Nat.zero_le _, Nat.zero_le _⟩ (fun r12 σ11 τ11 H locs h11 hP hS => ?_)
    obtain ⟨⟨rfl, rfl⟩, h11⟩ := h11
    have h13 := h11
    obtain ⟨q15, k14⟩ := h13
    refine lv_istore (lv' := [(4, .int r12), (3, .int x10), (0, .ref (ad 31)), (1, .int a1), (2, .int a2)]) hx hb dX1_add_34 hl (by decide) rfl (fun ls hl => ?_)
    refine lv_iload hx hb dX1_add_36 (lv_at hl 0 rfl) ?_
    refine lv_if_ge (tgt := 45) hx hb dX1_add_38 (by decide) (fun c16 => ?_) (fun c16 => ?_)
    · have kc16 := jle c16 jz_0 rfl
      refine lv_aload_n hx hb dX1_add_45 rfl (lv_at hl 2 rfl) ?_
      refine lv_iload hx hb dX1_add_46 (lv_at hl 0 rfl) ?_
      refine jcallV (As := [.int r12]) (rest := []) ⟨hx, hb, hml, hown, hts⟩ hK hP hA hS hZ (c_X1_isTaken_31 l D cI cL ad zz hJ σ τ r12 (r12.toInt) rfl hI31 (by omega)) cw_RX1_81 (jc_31 cI cL ad σ τ) rfl ⟨Nat.le_of_ble_eq_true rfl, Nat.le_of_ble_eq_true rfl⟩ rfl rfl rfl hl.1 rfl (Nat.le_of_ble_eq_true rfl) dX1_add_48 ⟨Nat.zero_le _, Nat.zero_le _⟩ (fun r18 σ17 τ17 H locs h17 hP hS => ?_)
      obtain ⟨⟨rfl, rfl⟩, h17⟩ := h17
      rcases h17 with h19 | h20
      · obtain ⟨q22, k21⟩ := h19
        have q22 := q22.symm
        subst q22
        refine lv_if_eq (tgt := 62) hx hb dX1_add_51 (by decide) (fun c => absurd c (by decide)) (fun _ => ?_)
        refine lv_aload_n hx hb dX1_add_54 rfl (lv_at hl 2 rfl) ?_
        refine va_get (D := D) hx hb hts inlX1 hown hK hP 31 (jc_31 cI cL ad σ τ) rfl 6 (by decide) (hts _ kw_5_7) (fun _ h9 => h9) rfl dX1_add_55 ?_
        refine lv_iload hx hb dX1_add_58 (lv_at hl 0 rfl) ?_
        refine jald hx hb hK hP (jc_36 cI cL ad σ τ) (jin rfl (by omega) (by omega)) dX1_add_60 ?_
        have g23 := w3 _ (jnat (x := r12) rfl (n := 1024) (by omega) (by decide))
        refine lv_topi (fun x24 ex24 => ?_)
        rw [← ex24] at g23
        exact hret x24 σ τ _ _ _ _ rfl ⟨rfl, (fun _ _ => rfl), (fun _ _ => rfl), hI31, ⟨trivial, (by omega)⟩⟩ hP hS dX1_add_61
      · obtain ⟨q26, k25⟩ := h20
        have q26 := q26.symm
        subst q26
        refine lv_if_eq (tgt := 62) hx hb dX1_add_51 (by decide) (fun _ => ?_) (fun c => absurd (by decide) c)
        refine lv_aload_n hx hb dX1_add_62 rfl (lv_at hl 2 rfl) ?_
        refine va_get (D := D) hx hb hts inlX1 hown hK hP 31 (jc_31 cI cL ad σ τ) rfl 8 (by decide) (hts _ kw_27_22) (fun _ h9 => h9) rfl dX1_add_63 ?_
        refine lv_sipush (v := 350) hx hb dX1_add_66 (by decide) ?_
        refine lv_icmp_lt (tgt := 76) hx hb dX1_add_69 (by decide) (fun c27 => ?_) (fun c27 => ?_)
        · have kc27 := jlt c27 rfl jz_350
          refine lv_aload_n hx hb dX1_add_76 rfl (lv_at hl 2 rfl) ?_
          refine va_get (D := D) hx hb hts inlX1 hown hK hP 31 (jc_31 cI cL ad σ τ) rfl 2 (by decide) (hts _ kw_5_3) (fun _ h9 => h9) rfl dX1_add_77 ?_
          refine lv_aload_n hx hb dX1_add_80 rfl (lv_at hl 2 rfl) ?_
          refine va_get (D := D) hx hb hts inlX1 hown hK hP 31 (jc_31 cI cL ad σ τ) rfl 8 (by decide) (hts _ kw_27_22) (fun _ h9 => h9) rfl dX1_add_81 ?_
          refine lv_iload_n hx hb dX1_add_84 rfl (lv_at hl 1 rfl) ?_
          refine jast hx hb hK hP hJ hA hS (jc_32 cI cL ad σ τ) (ja_32 cI cL ad σ τ _ _) (jin rfl (by omega) (by omega)) dX1_add_85 (fun σ28 H locs eσ28 hP hS => ?_)
          refine lv_aload_n hx hb dX1_add_86 rfl (lv_at hl 2 rfl) ?_
          refine va_get (D := D) hx hb hts inlX1 hown hK hP 31 (jc_31 cI cL ad σ28 τ) rfl 7 (by decide) (hts _ kw_5_8) (fun _ h9 => h9) rfl dX1_add_87 ?_
          refine lv_aload_n hx hb dX1_add_90 rfl (lv_at hl 2 rfl) ?_
          refine va_get (D := D) hx hb hts inlX1 hown hK hP 31 (jc_31 cI cL ad σ28 τ) rfl 8 (by decide) (hts _ kw_27_22) (fun _ h9 => h9) rfl dX1_add_91 ?_
          have m29 : σ28 31 8 = (σ 31 8) := (congrFun (jnp 31 eσ28 (by decide)) 8)
          refine jtopr m29 ?_
          refine lv_iload hx hb dX1_add_94 (lv_at hl 0 rfl) ?_
          refine jast hx hb hK hP hJ hA hS (jc_37 cI cL ad σ28 τ) (ja_37 cI cL ad σ28 τ _ _) (jin rfl (by omega) (by omega)) dX1_add_96 (fun σ30 H locs eσ30 hP hS => ?_)
          refine lv_aload_n hx hb dX1_add_97 rfl (lv_at hl 2 rfl) ?_
          refine va_get (D := D) hx hb hts inlX1 hown hK hP 31 (jc_31 cI cL ad σ30 τ) rfl 6 (by decide) (hts _ kw_5_7) (fun _ h9 => h9) rfl dX1_add_98 ?_
          refine lv_iload hx hb dX1_add_101 (lv_at hl 0 rfl) ?_
          refine lv_aload_n hx hb dX1_add_103 rfl (lv_at hl 2 rfl) ?_
          refine va_get (D := D) hx hb hts inlX1 hown hK hP 31 (jc_31 cI cL ad σ30 τ) rfl 8 (by decide) (hts _ kw_27_22) (fun _ h9 => h9) rfl dX1_add_104 ?_
          have m31 : σ30 31 8 = (σ 31 8) := ((congrFun (jnp 31 eσ30 (by decide)) 8).trans m29)
          refine jtopr m31 ?_
          refine jast hx hb hK hP hJ hA hS (jc_36 cI cL ad σ30 τ) (ja_36 cI cL ad σ30 τ _ _) (jin rfl (by omega) (by omega)) dX1_add_107 (fun σ32 H locs eσ32 hP hS => ?_)
          refine lv_aload_n hx hb dX1_add_108 rfl (lv_at hl 2 rfl) ?_
          refine lv_dup hx hb dX1_add_109 rfl ?_
          refine va_get (D := D) hx hb hts inlX1 hown hK hP 31 (jc_31 cI cL ad σ32 τ) rfl 8 (by decide) (hts _ kw_27_22) (fun _ h9 => h9) rfl dX1_add_110 ?_
          have m33 : σ32 31 8 = (σ 31 8) := ((congrFun (jnp 31 eσ32 (by decide)) 8).trans m31)
          refine jtopr m33 ?_
          refine lv_dup_x1 hx hb dX1_add_113 rfl rfl ?_
          refine lv_iconst (v := 1) hx hb dX1_add_114 (by decide) ?_
          have g34 := jrg (rfl : (σ 31 8).toInt = (σ 31 8).toInt)
          refine lv_iadd hx hb dX1_add_115 ?_
          refine lv_topi (fun x35 ex35 => ?_)
          have tx35 : x35.toInt = (σ 31 8).toInt + 1 := (jadd ex35 rfl jz_1 (by omega) (by omega)).trans (by omega)
          refine jput (ty := .int) hx hb hts inlX1 tyX1 tyX1_ok nmX1 hown hK hP hJ hA hS (jc_31 cI cL ad σ32 τ) rfl (k := 8) (by decide) (Nat.le_of_ble_eq_true rfl) (jp_31_8 cI cL ad σ32 τ x35) (hts _ kw_27_22) (fun _ h9 => h9) rfl (by decide +kernel) rfl rfl dX1_add_116 (fun σ36 H locs eσ36 hP hS => ?_)
          have z37 : (σ36 31 8).toInt = (σ 31 8).toInt + 1 := ((congrArg Int32.toInt (show σ36 31 8 = x35 from (jsp eσ36))).trans tx35)
          have w38 : ∀ k : Nat, k < 1400 → (-1) ≤ (σ36 33 k).toInt ∧ (σ36 33 k).toInt ≤ 350 := (jrr_fr (jnp 33 eσ36 (by decide)) (jrr_fr (jnp 33 eσ32 (by decide)) (jrr_fr (jnp 33 eσ30 (by decide)) (jrr_fr (jnp 33 eσ28 (by decide)) w2))))
          have w39 : ∀ k : Nat, k < 1024 → 0 ≤ (σ36 36 k).toInt ∧ (σ36 36 k).toInt ≤ 349 := (jrr_fr (jnp 36 eσ36 (by decide)) (by rw [eσ32]; exact jrr_up (jrr_fr (jnp 36 eσ30 (by decide)) (jrr_fr (jnp 36 eσ28 (by decide)) w3)) (by omega) (by omega)))
          have I40 : jI31 σ36 := ⟨(by omega), w38, w39⟩
          exact hret (σ 31 8) σ36 τ _ _ _ _ rfl ⟨rfl, (fun i hi => ((jnp i eσ36 (imp_81 i hi)).trans ((jnp i eσ32 (imp_82 i hi)).trans ((jnp i eσ30 (imp_83 i hi)).trans (jnp i eσ28 (imp_84 i hi)))))), (fun i hi => ((jkp i eσ36 (imp_85 i hi)).trans ((congrFun (jnp 31 eσ32 (by decide)) i).trans ((congrFun (jnp 31 eσ30 (by decide)) i).trans (congrFun (jnp 31 eσ28 (by decide)) i))))), I40, ⟨trivial, (by omega)⟩⟩ hP hS dX1_add_119
        · have kc27 := jnlt c27 rfl jz_350
          refine lv_sipush (v := 350) hx hb dX1_add_72 (by decide) ?_
          exact hret 350 σ τ _ _ _ _ rfl ⟨rfl, (fun _ _ => rfl), (fun _ _ => rfl), hI31, ⟨trivial, (by have h9 := jz_350; omega)⟩⟩ hP hS dX1_add_75
    · have kc16 := jnle c16 jz_0 rfl
      refine lv_sipush (v := 350) hx hb dX1_add_41 (by decide) ?_
      exact hret 350 σ τ _ _ _ _ rfl ⟨rfl, (fun _ _ => rfl), (fun _ _ => rfl), hI31, ⟨trivial, (by have h9 := jz_350; omega)⟩⟩ hP hS dX1_add_44
  · have kc4 := jnlt c4 t2 rfl
    refine lv_sipush (v := 350) hx hb dX1_add_8 (by decide) ?_
    exact hret 350 σ τ _ _ _ _ rfl ⟨rfl, (fun _ _ => rfl), (fun _ _ => rfl), hI31, ⟨trivial, (by have h9 := jz_350; omega)⟩⟩ hP hS dX1_add_11
set_option maxHeartbeats 4000000 in
set_option maxRecDepth 100000 in
theorem c_X1_nodeOf_31 (l : Launch) (D : va_G) (cI cL : ClassId) (ad zz : Nat → Nat) (hJ : jD ad) (σ : Nat → Nat → Int32) (τ : Nat → Nat → Int64) (a1 : Int32) (A1 : Int) (t1 : a1.toInt = A1) (a2 : Int32) (A2 : Int) (t2 : a2.toInt = A2) (hI31 : jI31 σ) : jM l yX1_nodeOf cX1_nodeOf 5 (some .int) ({ frames := 2, cells := 0, slots := 0, locals := 49 }) D cI cL ad zz [.ref (ad 31), .int a1, .int a2] σ τ (fun r σ' τ' => (σ = σ' ∧ τ = τ') ∧ ((True ∧ ((-1) ≤ r.toInt ∧ r.toInt ≤ 349)))) := by
  refine jM.of hJ (by decide +kernel) (nt := .int) rfl (Nat.le_of_ble_eq_true rfl) ?_
  intro p e s m args below meth c Q ls hC hret hl hP
  obtain ⟨hx, hb, hr, hml, hown, hts, hK, -, hlocks, hZ⟩ := hC
  have hown : s.vm.findClass RX1 = some m.cls := hown
  have hS : va_S (jA ad) s.heap s.heap [] := va_S.rf
  have hA : ∀ q, jA ad q → jA ad q := fun _ h => h
  have hl : lv_has ls 5 [(0, .ref (ad 31)), (1, .int a1), (2, .int a2)] := hl
  have g1 := jrg t1
  have g2 := jrg t2
  obtain ⟨i1, w2, w3⟩ : (0 ≤ (σ 31 8).toInt ∧ (σ 31 8).toInt ≤ 350) ∧ (∀ k : Nat, k < 1400 → (-1) ≤ (σ 33 k).toInt ∧ (σ 33 k).toInt ≤ 350) ∧ (∀ k : Nat, k < 1024 → 0 ≤ (σ 36 k).toInt ∧ (σ 36 k).toInt ≤ 349) := id hI31
  refine lv_iload_n hx hb dX1_nodeOf_0 rfl (lv_at hl 2 rfl) ?_
  refine lv_aload_n hx hb dX1_nodeOf_1 rfl (lv_at hl 0 rfl) ?_
  refine va_get (D := D) hx hb hts inlX1 hown hK hP 31 (jc_31 cI cL ad σ τ) rfl 10 (by decide) (hts _ kw_28_9) (fun _ h9 => h9) rfl dX1_nodeOf_2 ?_
  have g4 := jrg (rfl : (σ 31 10).toInt = (σ 31 10).toInt)
  refine lv_isub hx hb dX1_nodeOf_5 ?_
  refine lv_topi (fun x5 ex5 => ?_)
  have gx5 := jrg (rfl : x5.toInt = x5.toInt)
  refine lv_istore_n (lv' := [(3, .int x5), (0, .ref (ad 31)), (1, .int a1), (2, .int a2)]) hx hb dX1_nodeOf_6 rfl hl (by decide) rfl (fun ls hl => ?_)
  refine lv_iload_n hx hb dX1_nodeOf_7 rfl (lv_at hl 0 rfl) ?_
  refine lv_if_lt (tgt := 19) hx hb dX1_nodeOf_8 (by decide) (fun c6 => ?_) (fun c6 => ?_)
  · have kc6 := jlt c6 rfl jz_0
    refine lv_iconst (v := (-1)) hx hb dX1_nodeOf_19 (by decide) ?_
    exact hret (-1) σ τ _ _ _ _ rfl ⟨⟨rfl, rfl⟩, ⟨trivial, (by have h9 := jz_m1; omega)⟩⟩ hP hS dX1_nodeOf_20
  · have kc6 := jnlt c6 rfl jz_0
    refine lv_iload_n hx hb dX1_nodeOf_11 rfl (lv_at hl 0 rfl) ?_
    refine lv_aload_n hx hb dX1_nodeOf_12 rfl (lv_at hl 1 rfl) ?_
    refine va_get (D := D) hx hb hts inlX1 hown hK hP 31 (jc_31 cI cL ad σ τ) rfl 11 (by decide) (hts _ kw_28_7) (fun _ h9 => h9) rfl dX1_nodeOf_13 ?_
    refine lv_icmp_lt (tgt := 21) hx hb dX1_nodeOf_16 (by decide) (fun c7 => ?_) (fun c7 => ?_)
    · have kc7 := jlt c7 rfl rfl
      refine lv_aload_n hx hb dX1_nodeOf_21 rfl (lv_at hl 1 rfl) ?_
      refine lv_aload_n hx hb dX1_nodeOf_22 rfl (lv_at hl 1 rfl) ?_
      refine lv_iload_n hx hb dX1_nodeOf_23 rfl (lv_at hl 2 rfl) ?_
      refine lv_aload_n hx hb dX1_nodeOf_24 rfl (lv_at hl 1 rfl) ?_
      refine va_get (D := D) hx hb hts inlX1 hown hK hP 31 (jc_31 cI cL ad σ τ) rfl 11 (by decide) (hts _ kw_28_7) (fun _ h9 => h9) rfl dX1_nodeOf_25 ?_
      refine lv_iload_n hx hb dX1_nodeOf_28 rfl (lv_at hl 0 rfl) ?_
      have g8 := jrg (rfl : (σ 31 11).toInt = (σ 31 11).toInt)
      have g9 := jrg (rfl : x5.toInt = x5.toInt)
      refine lv_isub hx hb dX1_nodeOf_29 ?_
      refine lv_topi (fun x10 ex10 => ?_)
      have tx10 : x10.toInt = (σ 31 11).toInt - x5.toInt := (jsub ex10 rfl rfl (by omega) (by omega)).trans (by omega)
      refine jcallV (As := [.int a1, .int x10]) (rest := [.ref (ad 31)]) ⟨hx, hb, hml, hown, hts⟩ hK hP hA hS hZ (c_X1_trimmed_31 l D cI cL ad zz hJ σ τ a1 (A1) t1 x10 ((σ 31 11).toInt - x5.toInt) tx10) cw_RX1_71 (jc_31 cI cL ad σ τ) rfl ⟨Nat.le_of_ble_eq_true rfl, Nat.le_of_ble_eq_true rfl⟩ rfl rfl rfl hl.1 rfl (Nat.le_of_ble_eq_true rfl) dX1_nodeOf_30 ⟨Nat.zero_le _, Nat.zero_le _⟩ (fun r12 σ11 τ11 H locs h11 hP hS => ?_)
      obtain ⟨⟨rfl, rfl⟩, h11⟩ := h11
      refine lv_iload_n hx hb dX1_nodeOf_33 rfl (lv_at hl 0 rfl) ?_
      refine lv_bipush (v := 27) hx hb dX1_nodeOf_34 (by decide) ?_
      refine lv_ishl hx hb dX1_nodeOf_36 ?_
      refine lv_topi (fun x13 ex13 => ?_)
      have gx13 := jrg (rfl : x13.toInt = x13.toInt)
      refine lv_ior hx hb dX1_nodeOf_37 ?_
      refine lv_topi (fun x14 ex14 => ?_)
      have gx14 := jrg (rfl : x14.toInt = x14.toInt)
      refine jcallV (As := [.int x14]) (rest := []) ⟨hx, hb, hml, hown, hts⟩ hK hP hA hS hZ (c_X1_slotFor_31 l D cI cL ad zz hJ σ τ x14 (x14.toInt) rfl hI31) cw_RX1_77 (jc_31 cI cL ad σ τ) rfl ⟨Nat.le_of_ble_eq_true rfl, Nat.le_of_ble_eq_true rfl⟩ rfl rfl rfl hl.1 rfl (Nat.le_of_ble_eq_true rfl) dX1_nodeOf_38 ⟨Nat.zero_le _, Nat.zero_le _⟩ (fun r16 σ15 τ15 H locs h15 hP hS => ?_)
      obtain ⟨⟨rfl, rfl⟩, h15⟩ := h15
      have h17 := h15
      obtain ⟨q19, k18⟩ := h17
      refine lv_istore (lv' := [(4, .int r16), (3, .int x5), (0, .ref (ad 31)), (1, .int a1), (2, .int a2)]) hx hb dX1_nodeOf_41 hl (by decide) rfl (fun ls hl => ?_)
      refine lv_iload hx hb dX1_nodeOf_43 (lv_at hl 0 rfl) ?_
      refine lv_if_lt (tgt := 57) hx hb dX1_nodeOf_45 (by decide) (fun c20 => ?_) (fun c20 => ?_)
      · have kc20 := jlt c20 rfl jz_0
        refine lv_iconst (v := (-1)) hx hb dX1_nodeOf_57 (by decide) ?_
        refine lv_goto (tgt := 68) hx hb dX1_nodeOf_58 (by decide) ?_
        exact hret (-1) σ τ _ _ _ _ rfl ⟨⟨rfl, rfl⟩, ⟨trivial, (by have h9 := jz_m1; omega)⟩⟩ hP hS dX1_nodeOf_68
      · have kc20 := jnlt c20 rfl jz_0
        refine lv_aload_n hx hb dX1_nodeOf_48 rfl (lv_at hl 2 rfl) ?_
        refine lv_iload hx hb dX1_nodeOf_49 (lv_at hl 0 rfl) ?_
        refine jcallV (As := [.int r16]) (rest := []) ⟨hx, hb, hml, hown, hts⟩ hK hP hA hS hZ (c_X1_isTaken_31 l D cI cL ad zz hJ σ τ r16 (r16.toInt) rfl hI31 (by omega)) cw_RX1_81 (jc_31 cI cL ad σ τ) rfl ⟨Nat.le_of_ble_eq_true rfl, Nat.le_of_ble_eq_true rfl⟩ rfl rfl rfl hl.1 rfl (Nat.le_of_ble_eq_true rfl) dX1_nodeOf_51 ⟨Nat.zero_le _, Nat.zero_le _⟩ (fun r22 σ21 τ21 H locs h21 hP hS => ?_)
        obtain ⟨⟨rfl, rfl⟩, h21⟩ := h21
        rcases h21 with h23 | h24
        · obtain ⟨q26, k25⟩ := h23
          have q26 := q26.symm
          subst q26
          refine lv_if_ne (tgt := 61) hx hb dX1_nodeOf_54 (by decide) (fun _ => ?_) (fun c => absurd c (by decide))
          refine lv_aload_n hx hb dX1_nodeOf_61 rfl (lv_at hl 2 rfl) ?_
          refine va_get (D := D) hx hb hts inlX1 hown hK hP 31 (jc_31 cI cL ad σ τ) rfl 6 (by decide) (hts _ kw_5_7) (fun _ h9 => h9) rfl dX1_nodeOf_62 ?_
          refine lv_iload hx hb dX1_nodeOf_65 (lv_at hl 0 rfl) ?_
          refine jald hx hb hK hP (jc_36 cI cL ad σ τ) (jin rfl (by omega) (by omega)) dX1_nodeOf_67 ?_
          have g27 := w3 _ (jnat (x := r16) rfl (n := 1024) (by omega) (by decide))
          refine lv_topi (fun x28 ex28 => ?_)
          rw [← ex28] at g27
          exact hret x28 σ τ _ _ _ _ rfl ⟨⟨rfl, rfl⟩, ⟨trivial, (by omega)⟩⟩ hP hS dX1_nodeOf_68
        · obtain ⟨q30, k29⟩ := h24
          have q30 := q30.symm
          subst q30
          refine lv_if_ne (tgt := 61) hx hb dX1_nodeOf_54 (by decide) (fun c => absurd (by decide) c) (fun _ => ?_)
          refine lv_iconst (v := (-1)) hx hb dX1_nodeOf_57 (by decide) ?_
          refine lv_goto (tgt := 68) hx hb dX1_nodeOf_58 (by decide) ?_
          exact hret (-1) σ τ _ _ _ _ rfl ⟨⟨rfl, rfl⟩, ⟨trivial, (by have h9 := jz_m1; omega)⟩⟩ hP hS dX1_nodeOf_68
    · have kc7 := jnlt c7 rfl rfl
      refine lv_iconst (v := (-1)) hx hb dX1_nodeOf_19 (by decide) ?_
      exact hret (-1) σ τ _ _ _ _ rfl ⟨⟨rfl, rfl⟩, ⟨trivial, (by have h9 := jz_m1; omega)⟩⟩ hP hS dX1_nodeOf_20
set_option maxHeartbeats 4000000 in
set_option maxRecDepth 100000 in
theorem c_X10_uses_22b (l : Launch) (D : va_G) (cI cL : ClassId) (ad zz : Nat → Nat) (hJ : jD ad) (σ : Nat → Nat → Int32) (τ : Nat → Nat → Int64) (a1 : Int32) (A1 : Int) (t1 : a1.toInt = A1) : jM l yX10_uses cX10_uses 2 (some .boolean) ({ frames := 0, cells := 0, slots := 0, locals := 0 }) D cI cL ad zz [.ref (ad 22), .int a1] σ τ (fun r σ' τ' => (σ = σ' ∧ τ = τ') ∧ ((r = 1 ∧ True) ∨ (r = 0 ∧ True))) := by
  refine jM.of hJ (by decide +kernel) (nt := .boolean) rfl (Nat.le_of_ble_eq_true rfl) ?_
  intro p e s m args below meth c Q ls hC hret hl hP
  obtain ⟨hx, hb, hr, hml, hown, hts, hK, -, hlocks, hZ⟩ := hC
  have hown : s.vm.findClass RX10 = some m.cls := hown
  have hS : va_S (jA ad) s.heap s.heap [] := va_S.rf
  have hA : ∀ q, jA ad q → jA ad q := fun _ h => h
  have hl : lv_has ls 2 [(0, .ref (ad 22)), (1, .int a1)] := hl
  have g1 := jrg t1
  refine lv_aload_n hx hb dX10_uses_0 rfl (lv_at hl 0 rfl) ?_
  refine va_get (D := D) hx hb hts inlX10 hown hK hP 22 (jc_22 cI cL ad σ τ) rfl 1 (by decide) (hts _ kw_16_21) (fun _ h9 => h9) rfl dX10_uses_1 ?_
  refine lv_iload_n hx hb dX10_uses_4 rfl (lv_at hl 1 rfl) ?_
  refine lv_ishr hx hb dX10_uses_5 ?_
  refine lv_topi (fun x1 ex1 => ?_)
  have gx1 := jrg (rfl : x1.toInt = x1.toInt)
  refine lv_iconst (v := 1) hx hb dX10_uses_6 (by decide) ?_
  refine lv_iand hx hb dX10_uses_7 ?_
  refine lv_topi (fun x2 ex2 => ?_)
  have gx2 := jrg (rfl : x2.toInt = x2.toInt)
  have g3 : 0 ≤ x2.toInt ∧ x2.toInt ≤ 1 := jmask ex2 1 (by decide) (by decide)
  refine lv_if_eq (tgt := 15) hx hb dX10_uses_8 (by decide) (fun c4 => ?_) (fun c4 => ?_)
  · have kc4 := jeq c4 rfl jz_0
    refine lv_iconst (v := 0) hx hb dX10_uses_15 (by decide) ?_
    exact hret 0 σ τ _ _ _ _ rfl ⟨⟨rfl, rfl⟩, Or.inr (⟨rfl, trivial⟩)⟩ hP hS dX10_uses_16
  · have kc4 := jne c4 rfl jz_0
    refine lv_iconst (v := 1) hx hb dX10_uses_11 (by decide) ?_
    refine lv_goto (tgt := 16) hx hb dX10_uses_12 (by decide) ?_
    exact hret 1 σ τ _ _ _ _ rfl ⟨⟨rfl, rfl⟩, Or.inl ⟨rfl, trivial⟩⟩ hP hS dX10_uses_16
set_option maxHeartbeats 4000000 in
set_option maxRecDepth 100000 in
theorem c_X1_grow_31 (l : Launch) (D : va_G) (cI cL : ClassId) (ad zz : Nat → Nat) (hJ : jD ad) (σ : Nat → Nat → Int32) (τ : Nat → Nat → Int64) (a1 : Int32) (A1 : Int) (t1 : a1.toInt = A1) (a2 : Int32) (A2 : Int) (t2 : a2.toInt = A2) (hI31 : jI31 σ) : jMv l yX1_grow cX1_grow 9 none ({ frames := 3, cells := 0, slots := 0, locals := 73 }) D cI cL ad zz [.ref (ad 31), .int a1, .int a2] σ τ (fun σ' τ' => τ = τ' ∧ (∀ i : Nat, (i < 31 ∨ 33 < i) ∧ (i < 36 ∨ 37 < i) → σ' i = σ i) ∧ (∀ k : Nat, (k < 8 ∨ 8 < k) ∧ (k < 9 ∨ 9 < k) ∧ (k < 10 ∨ 10 < k) ∧ (k < 11 ∨ 11 < k) ∧ (k < 12 ∨ 12 < k) → σ' 31 k = σ 31 k) ∧ (jI31 σ') ∧ True) := by
  refine jMv.of hJ (by decide +kernel) rfl (Nat.le_of_ble_eq_true rfl) ?_
  intro p e s m args below meth c Q ls hC hret hl hP
  obtain ⟨hx, hb, hr, hml, hown, hts, hK, -, hlocks, hZ⟩ := hC
  have hown : s.vm.findClass RX1 = some m.cls := hown
  have hS : va_S (jA ad) s.heap s.heap [] := va_S.rf
  have hA : ∀ q, jA ad q → jA ad q := fun _ h => h
  have hl : lv_has ls 9 [(0, .ref (ad 31)), (1, .int a1), (2, .int a2)] := hl
  have g1 := jrg t1
  have g2 := jrg t2
  obtain ⟨i1, w2, w3⟩ : (0 ≤ (σ 31 8).toInt ∧ (σ 31 8).toInt ≤ 350) ∧ (∀ k : Nat, k < 1400 → (-1) ≤ (σ 33 k).toInt ∧ (σ 33 k).toInt ≤ 350) ∧ (∀ k : Nat, k < 1024 → 0 ≤ (σ 36 k).toInt ∧ (σ 36 k).toInt ≤ 349) := id hI31
  refine lv_iconst (v := 0) hx hb dX1_grow_0 (by decide) ?_
  refine lv_bipush (v := 8) hx hb dX1_grow_1 (by decide) ?_
  refine lv_aload_n hx hb dX1_grow_3 rfl (lv_at hl 0 rfl) ?_
  refine va_get (D := D) hx hb hts inlX1 hown hK hP 31 (jc_31 cI cL ad σ τ) rfl 1 (by decide) (hts _ kw_5_11) (fun _ h9 => h9) rfl dX1_grow_4 ?_
  refine va_get (D := D) hx hb hts inlX6 hown hK hP 16 (jc_16 cI cL ad σ τ) rfl 1 (by decide) (hts _ kw_28_3) (fun _ h9 => h9) rfl dX1_grow_7 ?_
  refine lv_iload_n hx hb dX1_grow_10 rfl (lv_at hl 2 rfl) ?_
  have g4 := jrg (rfl : (σ 16 1).toInt = (σ 16 1).toInt)
  refine lv_isub hx hb dX1_grow_11 ?_
  refine lv_topi (fun x5 ex5 => ?_)
  have gx5 := jrg (rfl : x5.toInt = x5.toInt)
  refine va_mmin hx hb (hml.trans hl.1.symm) hown (hts _ kw_28_4) (hts _ kw_22_11) (hts _ kw_21_1) (hts _ kw_22_12) (Nat.le_of_ble_eq_true rfl) (Nat.le_of_ble_eq_true rfl) (Nat.le_of_ble_eq_true rfl) (Nat.le_of_ble_eq_true rfl) dX1_grow_12 ?_
  refine lv_topi (fun x6 ex6 => ?_)
  have g7 := jmin ex6 jz_8 rfl
  refine va_mmax hx hb (hml.trans hl.1.symm) hown (hts _ kw_28_5) (hts _ kw_21_0) (hts _ kw_21_1) (hts _ kw_21_2) (Nat.le_of_ble_eq_true rfl) (Nat.le_of_ble_eq_true rfl) (Nat.le_of_ble_eq_true rfl) (Nat.le_of_ble_eq_true rfl) dX1_grow_15 ?_
  refine lv_topi (fun x8 ex8 => ?_)
  have g9 := jmax ex8 jz_0 rfl
  refine lv_istore_n (lv' := [(3, .int x8), (0, .ref (ad 31)), (1, .int a1), (2, .int a2)]) hx hb dX1_grow_18 rfl hl (by decide) rfl (fun ls hl => ?_)
  refine lv_aload_n hx hb dX1_grow_19 rfl (lv_at hl 1 rfl) ?_
  refine va_get (D := D) hx hb hts inlX1 hown hK hP 31 (jc_31 cI cL ad σ τ) rfl 0 (by decide) (hts _ kw_5_10) (fun _ h9 => h9) rfl dX1_grow_20 ?_
  refine va_get (D := D) hx hb hts inlX5 hown hK hP 26 (jc_26 cI cL ad σ τ) rfl 0 (by decide) (hts _ kw_28_6) (fun _ h9 => h9) rfl dX1_grow_23 ?_
  refine lv_iconst (v := 5) hx hb dX1_grow_26 (by decide) ?_
  refine jcallV (As := [.int 5]) (rest := []) ⟨hx, hb, hml, hown, hts⟩ hK hP hA hS hZ (c_X10_uses_22b l D cI cL ad zz hJ σ τ 5 (5) jz_5) cw_RX1_104 (jc_22 cI cL ad σ τ) rfl ⟨Nat.le_of_ble_eq_true rfl, Nat.le_of_ble_eq_true rfl⟩ rfl rfl rfl hl.1 rfl (Nat.le_of_ble_eq_true rfl) dX1_grow_27 ⟨Nat.zero_le _, Nat.zero_le _⟩ (fun r11 σ10 τ10 H locs h10 hP hS => ?_)
  obtain ⟨⟨rfl, rfl⟩, h10⟩ := h10
  rcases h10 with h12 | h13
  · obtain ⟨q15, k14⟩ := h12
    have q15 := q15.symm
    subst q15
    refine lv_istore (lv' := [(4, .int 1), (3, .int x8), (0, .ref (ad 31)), (1, .int a1), (2, .int a2)]) hx hb dX1_grow_30 hl (by decide) rfl (fun ls hl => ?_)
    refine lv_aload_n hx hb dX1_grow_32 rfl (lv_at hl 2 rfl) ?_
    refine va_get (D := D) hx hb hts inlX1 hown hK hP 31 (jc_31 cI cL ad σ τ) rfl 9 (by decide) (hts _ kw_5_9) (fun _ h9 => h9) rfl dX1_grow_33 ?_
    refine lv_iload_n hx hb dX1_grow_36 rfl (lv_at hl 3 rfl) ?_
    refine lv_icmp_ne (tgt := 63) hx hb dX1_grow_37 (by decide) (fun c16 => ?_) (fun c16 => ?_)
    · have kc16 := jne c16 rfl t1
      refine lv_aload_n hx hb dX1_grow_63 rfl (lv_at hl 2 rfl) ?_
      refine lv_iload_n hx hb dX1_grow_64 rfl (lv_at hl 3 rfl) ?_
      refine jput (ty := .int) hx hb hts inlX1 tyX1 tyX1_ok nmX1 hown hK hP hJ hA hS (jc_31 cI cL ad σ τ) rfl (k := 9) (by decide) (Nat.le_of_ble_eq_true rfl) (jp_31_9 cI cL ad σ τ a1) (hts _ kw_5_9) (fun _ h9 => h9) rfl (by decide +kernel) rfl rfl dX1_grow_65 (fun σ17 H locs eσ17 hP hS => ?_)
      refine lv_aload_n hx hb dX1_grow_68 rfl (lv_at hl 2 rfl) ?_
      refine lv_iload_n hx hb dX1_grow_69 rfl (lv_at hl 4 rfl) ?_
      refine jput (ty := .int) hx hb hts inlX1 tyX1 tyX1_ok nmX1 hown hK hP hJ hA hS (jc_31 cI cL ad σ17 τ) rfl (k := 10) (by decide) (Nat.le_of_ble_eq_true rfl) (jp_31_10 cI cL ad σ17 τ a2) (hts _ kw_28_9) (fun _ h9 => h9) rfl (by decide +kernel) rfl rfl dX1_grow_70 (fun σ18 H locs eσ18 hP hS => ?_)
      refine lv_aload_n hx hb dX1_grow_73 rfl (lv_at hl 2 rfl) ?_
      refine lv_iload_n hx hb dX1_grow_74 rfl (lv_at hl 1 rfl) ?_
      refine jput (ty := .int) hx hb hts inlX1 tyX1 tyX1_ok nmX1 hown hK hP hJ hA hS (jc_31 cI cL ad σ18 τ) rfl (k := 11) (by decide) (Nat.le_of_ble_eq_true rfl) (jp_31_11 cI cL ad σ18 τ x8) (hts _ kw_28_7) (fun _ h9 => h9) rfl (by decide +kernel) rfl rfl dX1_grow_75 (fun σ19 H locs eσ19 hP hS => ?_)
      refine lv_aload_n hx hb dX1_grow_78 rfl (lv_at hl 2 rfl) ?_
      refine lv_iload hx hb dX1_grow_79 (lv_at hl 0 rfl) ?_
      refine jput (ty := .boolean) hx hb hts inlX1 tyX1 tyX1_ok nmX1 hown hK hP hJ hA hS (jc_31 cI cL ad σ19 τ) rfl (k := 12) (by decide) (Nat.le_of_ble_eq_true rfl) (jp_31_12 cI cL ad σ19 τ 1) (hts _ kw_28_8) (fun _ h9 => h9) rfl (by decide +kernel) rfl rfl dX1_grow_81 (fun σ20 H locs eσ20 hP hS => ?_)
      refine lv_aload_n hx hb dX1_grow_84 rfl (lv_at hl 2 rfl) ?_
      refine lv_iconst (v := 0) hx hb dX1_grow_85 (by decide) ?_
      refine jput (ty := .int) hx hb hts inlX1 tyX1 tyX1_ok nmX1 hown hK hP hJ hA hS (jc_31 cI cL ad σ20 τ) rfl (k := 8) (by decide) (Nat.le_of_ble_eq_true rfl) (jp_31_8 cI cL ad σ20 τ 0) (hts _ kw_27_22) (fun _ h9 => h9) rfl (by decide +kernel) rfl rfl dX1_grow_86 (fun σ21 H locs eσ21 hP hS => ?_)
      refine lv_aload_n hx hb dX1_grow_89 rfl (lv_at hl 2 rfl) ?_
      refine lv_iload_n hx hb dX1_grow_90 rfl (lv_at hl 3 rfl) ?_
      refine lv_iconst (v := 0) hx hb dX1_grow_91 (by decide) ?_
      have z22 : (σ21 31 8).toInt = 0 := ((congrArg Int32.toInt (show σ21 31 8 = 0 from (jsp eσ21))).trans jz_0)
      have w23 : ∀ k : Nat, k < 1400 → (-1) ≤ (σ21 33 k).toInt ∧ (σ21 33 k).toInt ≤ 350 := (jrr_fr (jnp 33 eσ21 (by decide)) (jrr_fr (jnp 33 eσ20 (by decide)) (jrr_fr (jnp 33 eσ19 (by decide)) (jrr_fr (jnp 33 eσ18 (by decide)) (jrr_fr (jnp 33 eσ17 (by decide)) w2)))))
      have w24 : ∀ k : Nat, k < 1024 → 0 ≤ (σ21 36 k).toInt ∧ (σ21 36 k).toInt ≤ 349 := (jrr_fr (jnp 36 eσ21 (by decide)) (jrr_fr (jnp 36 eσ20 (by decide)) (jrr_fr (jnp 36 eσ19 (by decide)) (jrr_fr (jnp 36 eσ18 (by decide)) (jrr_fr (jnp 36 eσ17 (by decide)) w3)))))
      have I25 : jI31 σ21 := ⟨(by omega), w23, w24⟩
      refine jcallV (As := [.int a1, .int 0]) (rest := []) ⟨hx, hb, hml, hown, hts⟩ hK hP hA hS hZ (c_X1_add_31 l D cI cL ad zz hJ σ21 τ a1 (A1) t1 0 (0) jz_0 I25) cw_RX1_111 (jc_31 cI cL ad σ21 τ) rfl ⟨Nat.le_of_ble_eq_true rfl, Nat.le_of_ble_eq_true rfl⟩ rfl rfl rfl hl.1 rfl (Nat.le_of_ble_eq_true rfl) dX1_grow_92 ⟨Nat.zero_le _, Nat.zero_le _⟩ (fun r27 σ26 τ26 H locs h26 hP hS => ?_)
      obtain ⟨rfl, f28, f29, I30, h26⟩ := h26
      obtain ⟨i32, w33, w34⟩ : (0 ≤ (σ26 31 8).toInt ∧ (σ26 31 8).toInt ≤ 350) ∧ (∀ k : Nat, k < 1400 → (-1) ≤ (σ26 33 k).toInt ∧ (σ26 33 k).toInt ≤ 350) ∧ (∀ k : Nat, k < 1024 → 0 ≤ (σ26 36 k).toInt ∧ (σ26 36 k).toInt ≤ 349) := id I30
      have h35 := h26
      obtain ⟨q37, k36⟩ := h35
      refine lv_pop hx hb dX1_grow_95 rfl ?_
      refine lv_iconst (v := 0) hx hb dX1_grow_96 (by decide) ?_
      refine lv_istore (lv' := [(5, .int 0), (4, .int 1), (3, .int x8), (0, .ref (ad 31)), (1, .int a1), (2, .int a2)]) hx hb dX1_grow_97 hl (by decide) rfl (fun ls hl => ?_)
      have lp38 : ∀ (n39 : Nat) (x40 : Int32) (σ44 : Nat → Nat → Int32) (H : Heap) (locs : List Loc) (ls : Array Slot), (-x40.toInt + 350 : Int) < n39 → 0 ≤ x40.toInt → x40.toInt ≤ 350 → (∀ i : Nat, (i < 31 ∨ 33 < i) ∧ (i < 36 ∨ 37 < i) → σ44 i = σ26 i) → (∀ k : Nat, (k < 8 ∨ 8 < k) → σ44 31 k = σ26 31 k) → jI31 σ44 → jH D cI cL ad σ44 τ H → va_S (jA ad) s.heap H locs → lv_has ls 9 [(5, .int x40), (4, .int 1), (3, .int x8), (0, .ref (ad 31)), (1, .int a1), (2, .int a2)] → W p l e ({ frames := 3, cells := 0, slots := 0, locals := 73 }) s m args below meth c H locs 0 0 Q (F0 m 99 ls []) := by
        intro n39
        induction n39 with
        | zero => intro x40 σ44 H locs ls h46 h47 h48; exact absurd h46 (by omega)
        | succ n39 ihlp38 =>
          intro x40 σ44 H locs ls h46 h47 h48 f49 f50 p51 hP hS hl
          obtain ⟨i52, w53, w54⟩ : (0 ≤ (σ44 31 8).toInt ∧ (σ44 31 8).toInt ≤ 350) ∧ (∀ k : Nat, k < 1400 → (-1) ≤ (σ44 33 k).toInt ∧ (σ44 33 k).toInt ≤ 350) ∧ (∀ k : Nat, k < 1024 → 0 ≤ (σ44 36 k).toInt ∧ (σ44 36 k).toInt ≤ 349) := id p51
          refine lv_iload hx hb dX1_grow_99 (lv_at hl 0 rfl) ?_
          refine lv_aload_n hx hb dX1_grow_101 rfl (lv_at hl 3 rfl) ?_
          refine va_get (D := D) hx hb hts inlX1 hown hK hP 31 (jc_31 cI cL ad σ44 τ) rfl 8 (by decide) (hts _ kw_27_22) (fun _ h9 => h9) rfl dX1_grow_102 ?_
          refine lv_icmp_ge (tgt := 202) hx hb dX1_grow_105 (by decide) (fun c55 => ?_) (fun c55 => ?_)
          · have kc55 := jle c55 rfl rfl
            exact hret σ44 τ _ _ _ _ ⟨rfl, (fun i hi => ((f49 i hi).trans ((f28 i (imp_86 i hi)).trans ((jnp i eσ21 (imp_87 i hi)).trans ((jnp i eσ20 (imp_87 i hi)).trans ((jnp i eσ19 (imp_87 i hi)).trans ((jnp i eσ18 (imp_87 i hi)).trans (jnp i eσ17 (imp_87 i hi))))))))), (fun i hi => ((f50 i (imp_88 i hi)).trans ((f29 i (imp_88 i hi)).trans ((jkp i eσ21 (imp_89 i hi)).trans ((jkp i eσ20 (imp_90 i hi)).trans ((jkp i eσ19 (imp_91 i hi)).trans ((jkp i eσ18 (imp_92 i hi)).trans (jkp i eσ17 (imp_93 i hi))))))))), p51, trivial⟩ hP hS dX1_grow_202
          · have kc55 := jnle c55 rfl rfl
            refine lv_iload hx hb dX1_grow_108 (lv_at hl 0 rfl) ?_
            refine lv_sipush (v := 350) hx hb dX1_grow_110 (by decide) ?_
            refine lv_icmp_ge (tgt := 202) hx hb dX1_grow_113 (by decide) (fun c => absurd (jle c jz_350 rfl) (by omega)) (fun c56 => ?_)
            have kc56 := jnle c56 jz_350 rfl
            refine lv_aload_n hx hb dX1_grow_116 rfl (lv_at hl 3 rfl) ?_
            refine va_get (D := D) hx hb hts inlX1 hown hK hP 31 (jc_31 cI cL ad σ44 τ) rfl 2 (by decide) (hts _ kw_5_3) (fun _ h9 => h9) rfl dX1_grow_117 ?_
            refine lv_iload hx hb dX1_grow_120 (lv_at hl 0 rfl) ?_
            refine jald hx hb hK hP (jc_32 cI cL ad σ44 τ) (jin rfl (by omega) (by omega)) dX1_grow_122 ?_
            refine lv_topi (fun x57 ex57 => ?_)
            refine lv_ldc (v := 134217727) hx hb hown (hts _ kw_28_10) dX1_grow_123 ?_
            refine lv_iand hx hb dX1_grow_125 ?_
            refine lv_topi (fun x58 ex58 => ?_)
            have gx58 := jrg (rfl : x58.toInt = x58.toInt)
            have g59 : 0 ≤ x58.toInt ∧ x58.toInt ≤ 134217727 := jmask ex58 27 (by decide) (by decide)
            refine lv_istore (lv' := [(6, .int x58), (5, .int x40), (4, .int 1), (3, .int x8), (0, .ref (ad 31)), (1, .int a1), (2, .int a2)]) hx hb dX1_grow_126 hl (by decide) rfl (fun ls hl => ?_)
            refine lv_aload_n hx hb dX1_grow_128 rfl (lv_at hl 4 rfl) ?_
            refine va_get (D := D) hx hb hts inlX1 hown hK hP 31 (jc_31 cI cL ad σ44 τ) rfl 2 (by decide) (hts _ kw_5_3) (fun _ h9 => h9) rfl dX1_grow_129 ?_
            refine lv_iload hx hb dX1_grow_132 (lv_at hl 1 rfl) ?_
            refine jald hx hb hK hP (jc_32 cI cL ad σ44 τ) (jin rfl (by omega) (by omega)) dX1_grow_134 ?_
            refine lv_topi (fun x60 ex60 => ?_)
            refine lv_bipush (v := 27) hx hb dX1_grow_135 (by decide) ?_
            refine lv_ishr hx hb dX1_grow_137 ?_
            refine lv_topi (fun x61 ex61 => ?_)
            have gx61 := jrg (rfl : x61.toInt = x61.toInt)
            refine lv_istore (lv' := [(7, .int x61), (6, .int x58), (5, .int x40), (4, .int 1), (3, .int x8), (0, .ref (ad 31)), (1, .int a1), (2, .int a2)]) hx hb dX1_grow_138 hl (by decide) rfl (fun ls hl => ?_)
            refine lv_iconst (v := 0) hx hb dX1_grow_140 (by decide) ?_
            refine lv_istore (lv' := [(8, .int 0), (7, .int x61), (6, .int x58), (5, .int x40), (4, .int 1), (3, .int x8), (0, .ref (ad 31)), (1, .int a1), (2, .int a2)]) hx hb dX1_grow_141 hl (by decide) rfl (fun ls hl => ?_)
            have lp62 : ∀ (n63 : Nat) (x64 : Int32) (σ65 : Nat → Nat → Int32) (H : Heap) (locs : List Loc) (ls : Array Slot), (-x64.toInt + 4 : Int) < n63 → 0 ≤ x64.toInt → x64.toInt ≤ 4 → (∀ i : Nat, (i < 31 ∨ 33 < i) ∧ (i < 36 ∨ 37 < i) → σ65 i = σ44 i) → (∀ k : Nat, (k < 8 ∨ 8 < k) → σ65 31 k = σ44 31 k) → jI31 σ65 → jH D cI cL ad σ65 τ H → va_S (jA ad) s.heap H locs → lv_has ls 9 [(8, .int x64), (7, .int x61), (6, .int x58), (5, .int x40), (4, .int 1), (3, .int x8), (0, .ref (ad 31)), (1, .int a1), (2, .int a2)] → W p l e ({ frames := 3, cells := 0, slots := 0, locals := 73 }) s m args below meth c H locs 0 0 Q (F0 m 143 ls []) := by
              intro n63
              induction n63 with
              | zero => intro x64 σ65 H locs ls h67 h68 h69; exact absurd h67 (by omega)
              | succ n63 ihlp62 =>
                intro x64 σ65 H locs ls h67 h68 h69 f70 f71 p72 hP hS hl
                obtain ⟨i73, w74, w75⟩ : (0 ≤ (σ65 31 8).toInt ∧ (σ65 31 8).toInt ≤ 350) ∧ (∀ k : Nat, k < 1400 → (-1) ≤ (σ65 33 k).toInt ∧ (σ65 33 k).toInt ≤ 350) ∧ (∀ k : Nat, k < 1024 → 0 ≤ (σ65 36 k).toInt ∧ (σ65 36 k).toInt ≤ 349) := id p72
                refine lv_iload hx hb dX1_grow_143 (lv_at hl 0 rfl) ?_
                refine lv_iconst (v := 4) hx hb dX1_grow_145 (by decide) ?_
                refine lv_icmp_ge (tgt := 196) hx hb dX1_grow_146 (by decide) (fun c76 => ?_) (fun c76 => ?_)
                · have kc76 := jle c76 jz_4 rfl
                  obtain ⟨x77, ex77⟩ : ∃ y : Int32, y = x40 + 1 := ⟨_, rfl⟩
                  have tx77 : x77.toInt = x40.toInt + 1 := (jadd ex77 rfl jz_1 (by omega) (by omega)).trans (by omega)
                  refine lv_iinc (v := x77) (lv' := [(5, .int x77), (8, .int x64), (7, .int x61), (6, .int x58), (4, .int 1), (3, .int x8), (0, .ref (ad 31)), (1, .int a1), (2, .int a2)]) hx hb dX1_grow_196 hl (k := 3) rfl (by rw [ex77]; rfl) (by decide) rfl (fun ls hl => ?_)
                  refine lv_goto (tgt := 99) hx hb dX1_grow_199 (by decide) ?_
                  exact ihlp38 x77 σ65 _ _ ls (by have h90 := tx77; omega) (by have h90 := tx77; omega) (by have h90 := tx77; omega) (fun i hi => ((f70 i hi).trans (f49 i hi))) (fun i hi => ((f71 i hi).trans (f50 i hi)))  p72 hP hS (lv_sub hl [0, 4, 5, 6, 7, 8] rfl)
                · have kc76 := jnle c76 jz_4 rfl
                  refine lv_aload_n hx hb dX1_grow_149 rfl (lv_at hl 6 rfl) ?_
                  refine va_get (D := D) hx hb hts inlX1 hown hK hP 31 (jc_31 cI cL ad σ65 τ) rfl 3 (by decide) (hts _ kw_5_4) (fun _ h9 => h9) rfl dX1_grow_150 ?_
                  refine lv_iload hx hb dX1_grow_153 (lv_at hl 3 rfl) ?_
                  refine lv_iconst (v := 4) hx hb dX1_grow_155 (by decide) ?_
                  have g78 := jrg (rfl : x40.toInt = x40.toInt)
                  refine lv_imul hx hb dX1_grow_156 ?_
                  refine lv_topi (fun x79 ex79 => ?_)
                  have tx79 : x79.toInt = 4 * x40.toInt := (jmul ex79 rfl jz_4 (by omega) (by omega)).trans (by omega)
                  refine lv_iload hx hb dX1_grow_157 (lv_at hl 0 rfl) ?_
                  have g80 := jrg (rfl : x64.toInt = x64.toInt)
                  refine lv_iadd hx hb dX1_grow_159 ?_
                  refine lv_topi (fun x81 ex81 => ?_)
                  have tx81 : x81.toInt = 4 * x40.toInt + x64.toInt := (jadd ex81 tx79 rfl (by omega) (by omega)).trans (by omega)
                  refine lv_iload hx hb dX1_grow_160 (lv_at hl 2 rfl) ?_
                  refine lv_iload hx hb dX1_grow_162 (lv_at hl 0 rfl) ?_
                  refine jcallS (As := [.int x58, .int x64]) (rest := [.int x81, .ref (ad 33)]) ⟨hx, hb, hml, hown, hts⟩ hK hP hA hS hZ (c_X0_mayBowl l D cI cL ad zz hJ σ65 τ x58 (x58.toInt) rfl x64 (x64.toInt) rfl) cw_RX1_115 ⟨Nat.le_of_ble_eq_true rfl, Nat.le_of_ble_eq_true rfl⟩ rfl rfl rfl hl.1 rfl (Nat.le_of_ble_eq_true rfl) dX1_grow_164 ⟨Nat.zero_le _, Nat.zero_le _⟩ (fun r83 σ82 τ82 H locs h82 hP hS => ?_)
                  obtain ⟨⟨rfl, rfl⟩, h82⟩ := h82
                  refine lv_if_eq (tgt := 188) hx hb dX1_grow_167 (by decide) (fun c84 => ?_) (fun c84 => ?_)
                  · have kc84 := jeq c84 rfl jz_0
                    refine lv_iconst (v := (-1)) hx hb dX1_grow_188 (by decide) ?_
                    refine jast hx hb hK hP hJ hA hS (jc_33 cI cL ad σ65 τ) (ja_33 cI cL ad σ65 τ _ _) (jin tx81 (by omega) (by omega)) dX1_grow_189 (fun σ85 H locs eσ85 hP hS => ?_)
                    obtain ⟨x86, ex86⟩ : ∃ y : Int32, y = x64 + 1 := ⟨_, rfl⟩
                    have tx86 : x86.toInt = x64.toInt + 1 := (jadd ex86 rfl jz_1 (by omega) (by omega)).trans (by omega)
                    refine lv_iinc (v := x86) (lv' := [(8, .int x86), (7, .int x61), (6, .int x58), (5, .int x40), (4, .int 1), (3, .int x8), (0, .ref (ad 31)), (1, .int a1), (2, .int a2)]) hx hb dX1_grow_190 hl (k := 0) rfl (by rw [ex86]; rfl) (by decide) rfl (fun ls hl => ?_)
                    refine lv_goto (tgt := 143) hx hb dX1_grow_193 (by decide) ?_
                    have z87 : (σ85 31 8).toInt = (σ65 31 8).toInt := (congrArg Int32.toInt (show σ85 31 8 = (σ65 31 8) from (congrFun (jnp 31 eσ85 (by decide)) 8)))
                    have w88 : ∀ k : Nat, k < 1400 → (-1) ≤ (σ85 33 k).toInt ∧ (σ85 33 k).toInt ≤ 350 := (by rw [eσ85]; exact jrr_up w74 (by have h9 := jz_m1; omega) (by have h9 := jz_m1; omega))
                    have w89 : ∀ k : Nat, k < 1024 → 0 ≤ (σ85 36 k).toInt ∧ (σ85 36 k).toInt ≤ 349 := (jrr_fr (jnp 36 eσ85 (by decide)) w75)
                    have I90 : jI31 σ85 := ⟨(by omega), w88, w89⟩
                    exact ihlp62 x86 σ85 _ _ ls (by have h90 := tx86; omega) (by have h90 := tx86; omega) (by have h90 := tx86; omega) (fun i hi => ((jnp i eσ85 (imp_94 i hi)).trans (f70 i hi))) (fun i hi => ((congrFun (jnp 31 eσ85 (by decide)) i).trans (f71 i hi)))  I90 hP hS (lv_sub hl [0, 1, 2, 3, 4, 5, 6, 7, 8] rfl)
                  · have kc84 := jne c84 rfl jz_0
                    refine lv_aload_n hx hb dX1_grow_170 rfl (lv_at hl 6 rfl) ?_
                    refine lv_iload hx hb dX1_grow_171 (lv_at hl 2 rfl) ?_
                    refine lv_iload hx hb dX1_grow_173 (lv_at hl 0 rfl) ?_
                    refine jcallS (As := [.int x58, .int x64]) (rest := [.ref (ad 31), .int x81, .ref (ad 33)]) ⟨hx, hb, hml, hown, hts⟩ hK hP hA hS hZ (c_X0_after l D cI cL ad zz hJ σ65 τ x58 (x58.toInt) rfl x64 (x64.toInt) rfl) cw_RX1_119 ⟨Nat.le_of_ble_eq_true rfl, Nat.le_of_ble_eq_true rfl⟩ rfl rfl rfl hl.1 rfl (Nat.le_of_ble_eq_true rfl) dX1_grow_175 ⟨Nat.zero_le _, Nat.zero_le _⟩ (fun r92 σ91 τ91 H locs h91 hP hS => ?_)
                    obtain ⟨⟨rfl, rfl⟩, h91⟩ := h91
                    refine lv_iload hx hb dX1_grow_178 (lv_at hl 1 rfl) ?_
                    refine lv_iconst (v := 1) hx hb dX1_grow_180 (by decide) ?_
                    have g93 := jrg (rfl : x61.toInt = x61.toInt)
                    refine lv_iadd hx hb dX1_grow_181 ?_
                    refine lv_topi (fun x94 ex94 => ?_)
                    have gx94 := jrg (rfl : x94.toInt = x94.toInt)
                    refine jcallV (As := [.int r92, .int x94]) (rest := [.int x81, .ref (ad 33)]) ⟨hx, hb, hml, hown, hts⟩ hK hP hA hS hZ (c_X1_add_31 l D cI cL ad zz hJ σ65 τ r92 (r92.toInt) rfl x94 (x94.toInt) rfl p72) cw_RX1_111 (jc_31 cI cL ad σ65 τ) rfl ⟨Nat.le_of_ble_eq_true rfl, Nat.le_of_ble_eq_true rfl⟩ rfl rfl rfl hl.1 rfl (Nat.le_of_ble_eq_true rfl) dX1_grow_182 ⟨Nat.zero_le _, Nat.zero_le _⟩ (fun r96 σ95 τ95 H locs h95 hP hS => ?_)
                    obtain ⟨rfl, f97, f98, I99, h95⟩ := h95
                    obtain ⟨i101, w102, w103⟩ : (0 ≤ (σ95 31 8).toInt ∧ (σ95 31 8).toInt ≤ 350) ∧ (∀ k : Nat, k < 1400 → (-1) ≤ (σ95 33 k).toInt ∧ (σ95 33 k).toInt ≤ 350) ∧ (∀ k : Nat, k < 1024 → 0 ≤ (σ95 36 k).toInt ∧ (σ95 36 k).toInt ≤ 349) := id I99
                    have h104 := h95
                    obtain ⟨q106, k105⟩ := h104
                    refine lv_goto (tgt := 189) hx hb dX1_grow_185 (by decide) ?_
                    refine jast hx hb hK hP hJ hA hS (jc_33 cI cL ad σ95 τ) (ja_33 cI cL ad σ95 τ _ _) (jin tx81 (by omega) (by omega)) dX1_grow_189 (fun σ107 H locs eσ107 hP hS => ?_)
                    obtain ⟨x108, ex108⟩ : ∃ y : Int32, y = x64 + 1 := ⟨_, rfl⟩
                    have tx108 : x108.toInt = x64.toInt + 1 := (jadd ex108 rfl jz_1 (by omega) (by omega)).trans (by omega)
                    refine lv_iinc (v := x108) (lv' := [(8, .int x108), (7, .int x61), (6, .int x58), (5, .int x40), (4, .int 1), (3, .int x8), (0, .ref (ad 31)), (1, .int a1), (2, .int a2)]) hx hb dX1_grow_190 hl (k := 0) rfl (by rw [ex108]; rfl) (by decide) rfl (fun ls hl => ?_)
                    refine lv_goto (tgt := 143) hx hb dX1_grow_193 (by decide) ?_
                    have z109 : (σ107 31 8).toInt = (σ95 31 8).toInt := (congrArg Int32.toInt (show σ107 31 8 = (σ95 31 8) from (congrFun (jnp 31 eσ107 (by decide)) 8)))
                    have w110 : ∀ k : Nat, k < 1400 → (-1) ≤ (σ107 33 k).toInt ∧ (σ107 33 k).toInt ≤ 350 := (by rw [eσ107]; exact jrr_up w102 (by omega) (by omega))
                    have w111 : ∀ k : Nat, k < 1024 → 0 ≤ (σ107 36 k).toInt ∧ (σ107 36 k).toInt ≤ 349 := (jrr_fr (jnp 36 eσ107 (by decide)) w103)
                    have I112 : jI31 σ107 := ⟨(by omega), w110, w111⟩
                    exact ihlp62 x108 σ107 _ _ ls (by have h90 := tx108; omega) (by have h90 := tx108; omega) (by have h90 := tx108; omega) (fun i hi => ((jnp i eσ107 (imp_94 i hi)).trans ((f97 i (imp_86 i hi)).trans (f70 i hi)))) (fun i hi => ((congrFun (jnp 31 eσ107 (by decide)) i).trans ((f98 i hi).trans (f71 i hi))))  I112 hP hS (lv_sub hl [0, 1, 2, 3, 4, 5, 6, 7, 8] rfl)
            exact lp62 1000000 0 σ44 _ _ ls (by have h90 := jz_0; omega) (by have h90 := jz_0; omega) (by have h90 := jz_0; omega) (fun _ _ => rfl) (fun _ _ => rfl)  p51 hP hS hl
      exact lp38 1000000 0 σ26 _ _ ls (by have h90 := jz_0; omega) (by have h90 := jz_0; omega) (by have h90 := jz_0; omega) (fun _ _ => rfl) (fun _ _ => rfl)  I30 hP hS hl
    · have kc16 := jeq c16 rfl t1
      refine lv_aload_n hx hb dX1_grow_40 rfl (lv_at hl 2 rfl) ?_
      refine va_get (D := D) hx hb hts inlX1 hown hK hP 31 (jc_31 cI cL ad σ τ) rfl 11 (by decide) (hts _ kw_28_7) (fun _ h9 => h9) rfl dX1_grow_41 ?_
      refine lv_iload_n hx hb dX1_grow_44 rfl (lv_at hl 1 rfl) ?_
      refine lv_icmp_ne (tgt := 63) hx hb dX1_grow_45 (by decide) (fun c113 => ?_) (fun c113 => ?_)
      · have kc113 := jne c113 rfl rfl
        refine lv_aload_n hx hb dX1_grow_63 rfl (lv_at hl 2 rfl) ?_
        refine lv_iload_n hx hb dX1_grow_64 rfl (lv_at hl 3 rfl) ?_
        refine jput (ty := .int) hx hb hts inlX1 tyX1 tyX1_ok nmX1 hown hK hP hJ hA hS (jc_31 cI cL ad σ τ) rfl (k := 9) (by decide) (Nat.le_of_ble_eq_true rfl) (jp_31_9 cI cL ad σ τ a1) (hts _ kw_5_9) (fun _ h9 => h9) rfl (by decide +kernel) rfl rfl dX1_grow_65 (fun σ114 H locs eσ114 hP hS => ?_)
        refine lv_aload_n hx hb dX1_grow_68 rfl (lv_at hl 2 rfl) ?_
        refine lv_iload_n hx hb dX1_grow_69 rfl (lv_at hl 4 rfl) ?_
        refine jput (ty := .int) hx hb hts inlX1 tyX1 tyX1_ok nmX1 hown hK hP hJ hA hS (jc_31 cI cL ad σ114 τ) rfl (k := 10) (by decide) (Nat.le_of_ble_eq_true rfl) (jp_31_10 cI cL ad σ114 τ a2) (hts _ kw_28_9) (fun _ h9 => h9) rfl (by decide +kernel) rfl rfl dX1_grow_70 (fun σ115 H locs eσ115 hP hS => ?_)
        refine lv_aload_n hx hb dX1_grow_73 rfl (lv_at hl 2 rfl) ?_
        refine lv_iload_n hx hb dX1_grow_74 rfl (lv_at hl 1 rfl) ?_
        refine jput (ty := .int) hx hb hts inlX1 tyX1 tyX1_ok nmX1 hown hK hP hJ hA hS (jc_31 cI cL ad σ115 τ) rfl (k := 11) (by decide) (Nat.le_of_ble_eq_true rfl) (jp_31_11 cI cL ad σ115 τ x8) (hts _ kw_28_7) (fun _ h9 => h9) rfl (by decide +kernel) rfl rfl dX1_grow_75 (fun σ116 H locs eσ116 hP hS => ?_)
        refine lv_aload_n hx hb dX1_grow_78 rfl (lv_at hl 2 rfl) ?_
        refine lv_iload hx hb dX1_grow_79 (lv_at hl 0 rfl) ?_
        refine jput (ty := .boolean) hx hb hts inlX1 tyX1 tyX1_ok nmX1 hown hK hP hJ hA hS (jc_31 cI cL ad σ116 τ) rfl (k := 12) (by decide) (Nat.le_of_ble_eq_true rfl) (jp_31_12 cI cL ad σ116 τ 1) (hts _ kw_28_8) (fun _ h9 => h9) rfl (by decide +kernel) rfl rfl dX1_grow_81 (fun σ117 H locs eσ117 hP hS => ?_)
        refine lv_aload_n hx hb dX1_grow_84 rfl (lv_at hl 2 rfl) ?_
        refine lv_iconst (v := 0) hx hb dX1_grow_85 (by decide) ?_
        refine jput (ty := .int) hx hb hts inlX1 tyX1 tyX1_ok nmX1 hown hK hP hJ hA hS (jc_31 cI cL ad σ117 τ) rfl (k := 8) (by decide) (Nat.le_of_ble_eq_true rfl) (jp_31_8 cI cL ad σ117 τ 0) (hts _ kw_27_22) (fun _ h9 => h9) rfl (by decide +kernel) rfl rfl dX1_grow_86 (fun σ118 H locs eσ118 hP hS => ?_)
        refine lv_aload_n hx hb dX1_grow_89 rfl (lv_at hl 2 rfl) ?_
        refine lv_iload_n hx hb dX1_grow_90 rfl (lv_at hl 3 rfl) ?_
        refine lv_iconst (v := 0) hx hb dX1_grow_91 (by decide) ?_
        have z119 : (σ118 31 8).toInt = 0 := ((congrArg Int32.toInt (show σ118 31 8 = 0 from (jsp eσ118))).trans jz_0)
        have w120 : ∀ k : Nat, k < 1400 → (-1) ≤ (σ118 33 k).toInt ∧ (σ118 33 k).toInt ≤ 350 := (jrr_fr (jnp 33 eσ118 (by decide)) (jrr_fr (jnp 33 eσ117 (by decide)) (jrr_fr (jnp 33 eσ116 (by decide)) (jrr_fr (jnp 33 eσ115 (by decide)) (jrr_fr (jnp 33 eσ114 (by decide)) w2)))))
        have w121 : ∀ k : Nat, k < 1024 → 0 ≤ (σ118 36 k).toInt ∧ (σ118 36 k).toInt ≤ 349 := (jrr_fr (jnp 36 eσ118 (by decide)) (jrr_fr (jnp 36 eσ117 (by decide)) (jrr_fr (jnp 36 eσ116 (by decide)) (jrr_fr (jnp 36 eσ115 (by decide)) (jrr_fr (jnp 36 eσ114 (by decide)) w3)))))
        have I122 : jI31 σ118 := ⟨(by omega), w120, w121⟩
        refine jcallV (As := [.int a1, .int 0]) (rest := []) ⟨hx, hb, hml, hown, hts⟩ hK hP hA hS hZ (c_X1_add_31 l D cI cL ad zz hJ σ118 τ a1 (A1) t1 0 (0) jz_0 I122) cw_RX1_111 (jc_31 cI cL ad σ118 τ) rfl ⟨Nat.le_of_ble_eq_true rfl, Nat.le_of_ble_eq_true rfl⟩ rfl rfl rfl hl.1 rfl (Nat.le_of_ble_eq_true rfl) dX1_grow_92 ⟨Nat.zero_le _, Nat.zero_le _⟩ (fun r124 σ123 τ123 H locs h123 hP hS => ?_)
        obtain ⟨rfl, f125, f126, I127, h123⟩ := h123
        obtain ⟨i129, w130, w131⟩ : (0 ≤ (σ123 31 8).toInt ∧ (σ123 31 8).toInt ≤ 350) ∧ (∀ k : Nat, k < 1400 → (-1) ≤ (σ123 33 k).toInt ∧ (σ123 33 k).toInt ≤ 350) ∧ (∀ k : Nat, k < 1024 → 0 ≤ (σ123 36 k).toInt ∧ (σ123 36 k).toInt ≤ 349) := id I127
        have h132 := h123
        obtain ⟨q134, k133⟩ := h132
        refine lv_pop hx hb dX1_grow_95 rfl ?_
        refine lv_iconst (v := 0) hx hb dX1_grow_96 (by decide) ?_
        refine lv_istore (lv' := [(5, .int 0), (4, .int 1), (3, .int x8), (0, .ref (ad 31)), (1, .int a1), (2, .int a2)]) hx hb dX1_grow_97 hl (by decide) rfl (fun ls hl => ?_)
        have lp135 : ∀ (n136 : Nat) (x137 : Int32) (σ141 : Nat → Nat → Int32) (H : Heap) (locs : List Loc) (ls : Array Slot), (-x137.toInt + 350 : Int) < n136 → 0 ≤ x137.toInt → x137.toInt ≤ 350 → (∀ i : Nat, (i < 31 ∨ 33 < i) ∧ (i < 36 ∨ 37 < i) → σ141 i = σ123 i) → (∀ k : Nat, (k < 8 ∨ 8 < k) → σ141 31 k = σ123 31 k) → jI31 σ141 → jH D cI cL ad σ141 τ H → va_S (jA ad) s.heap H locs → lv_has ls 9 [(5, .int x137), (4, .int 1), (3, .int x8), (0, .ref (ad 31)), (1, .int a1), (2, .int a2)] → W p l e ({ frames := 3, cells := 0, slots := 0, locals := 73 }) s m args below meth c H locs 0 0 Q (F0 m 99 ls []) := by
          intro n136
          induction n136 with
          | zero => intro x137 σ141 H locs ls h143 h144 h145; exact absurd h143 (by omega)
          | succ n136 ihlp135 =>
            intro x137 σ141 H locs ls h143 h144 h145 f146 f147 p148 hP hS hl
            obtain ⟨i149, w150, w151⟩ : (0 ≤ (σ141 31 8).toInt ∧ (σ141 31 8).toInt ≤ 350) ∧ (∀ k : Nat, k < 1400 → (-1) ≤ (σ141 33 k).toInt ∧ (σ141 33 k).toInt ≤ 350) ∧ (∀ k : Nat, k < 1024 → 0 ≤ (σ141 36 k).toInt ∧ (σ141 36 k).toInt ≤ 349) := id p148
            refine lv_iload hx hb dX1_grow_99 (lv_at hl 0 rfl) ?_
            refine lv_aload_n hx hb dX1_grow_101 rfl (lv_at hl 3 rfl) ?_
            refine va_get (D := D) hx hb hts inlX1 hown hK hP 31 (jc_31 cI cL ad σ141 τ) rfl 8 (by decide) (hts _ kw_27_22) (fun _ h9 => h9) rfl dX1_grow_102 ?_
            refine lv_icmp_ge (tgt := 202) hx hb dX1_grow_105 (by decide) (fun c152 => ?_) (fun c152 => ?_)
            · have kc152 := jle c152 rfl rfl
              exact hret σ141 τ _ _ _ _ ⟨rfl, (fun i hi => ((f146 i hi).trans ((f125 i (imp_86 i hi)).trans ((jnp i eσ118 (imp_87 i hi)).trans ((jnp i eσ117 (imp_87 i hi)).trans ((jnp i eσ116 (imp_87 i hi)).trans ((jnp i eσ115 (imp_87 i hi)).trans (jnp i eσ114 (imp_87 i hi))))))))), (fun i hi => ((f147 i (imp_88 i hi)).trans ((f126 i (imp_88 i hi)).trans ((jkp i eσ118 (imp_89 i hi)).trans ((jkp i eσ117 (imp_90 i hi)).trans ((jkp i eσ116 (imp_91 i hi)).trans ((jkp i eσ115 (imp_92 i hi)).trans (jkp i eσ114 (imp_93 i hi))))))))), p148, trivial⟩ hP hS dX1_grow_202
            · have kc152 := jnle c152 rfl rfl
              refine lv_iload hx hb dX1_grow_108 (lv_at hl 0 rfl) ?_
              refine lv_sipush (v := 350) hx hb dX1_grow_110 (by decide) ?_
              refine lv_icmp_ge (tgt := 202) hx hb dX1_grow_113 (by decide) (fun c => absurd (jle c jz_350 rfl) (by omega)) (fun c153 => ?_)
              have kc153 := jnle c153 jz_350 rfl
              refine lv_aload_n hx hb dX1_grow_116 rfl (lv_at hl 3 rfl) ?_
              refine va_get (D := D) hx hb hts inlX1 hown hK hP 31 (jc_31 cI cL ad σ141 τ) rfl 2 (by decide) (hts _ kw_5_3) (fun _ h9 => h9) rfl dX1_grow_117 ?_
              refine lv_iload hx hb dX1_grow_120 (lv_at hl 0 rfl) ?_
              refine jald hx hb hK hP (jc_32 cI cL ad σ141 τ) (jin rfl (by omega) (by omega)) dX1_grow_122 ?_
              refine lv_topi (fun x154 ex154 => ?_)
              refine lv_ldc (v := 134217727) hx hb hown (hts _ kw_28_10) dX1_grow_123 ?_
              refine lv_iand hx hb dX1_grow_125 ?_
              refine lv_topi (fun x155 ex155 => ?_)
              have gx155 := jrg (rfl : x155.toInt = x155.toInt)
              have g156 : 0 ≤ x155.toInt ∧ x155.toInt ≤ 134217727 := jmask ex155 27 (by decide) (by decide)
              refine lv_istore (lv' := [(6, .int x155), (5, .int x137), (4, .int 1), (3, .int x8), (0, .ref (ad 31)), (1, .int a1), (2, .int a2)]) hx hb dX1_grow_126 hl (by decide) rfl (fun ls hl => ?_)
              refine lv_aload_n hx hb dX1_grow_128 rfl (lv_at hl 4 rfl) ?_
              refine va_get (D := D) hx hb hts inlX1 hown hK hP 31 (jc_31 cI cL ad σ141 τ) rfl 2 (by decide) (hts _ kw_5_3) (fun _ h9 => h9) rfl dX1_grow_129 ?_
              refine lv_iload hx hb dX1_grow_132 (lv_at hl 1 rfl) ?_
              refine jald hx hb hK hP (jc_32 cI cL ad σ141 τ) (jin rfl (by omega) (by omega)) dX1_grow_134 ?_
              refine lv_topi (fun x157 ex157 => ?_)
              refine lv_bipush (v := 27) hx hb dX1_grow_135 (by decide) ?_
              refine lv_ishr hx hb dX1_grow_137 ?_
              refine lv_topi (fun x158 ex158 => ?_)
              have gx158 := jrg (rfl : x158.toInt = x158.toInt)
              refine lv_istore (lv' := [(7, .int x158), (6, .int x155), (5, .int x137), (4, .int 1), (3, .int x8), (0, .ref (ad 31)), (1, .int a1), (2, .int a2)]) hx hb dX1_grow_138 hl (by decide) rfl (fun ls hl => ?_)
              refine lv_iconst (v := 0) hx hb dX1_grow_140 (by decide) ?_
              refine lv_istore (lv' := [(8, .int 0), (7, .int x158), (6, .int x155), (5, .int x137), (4, .int 1), (3, .int x8), (0, .ref (ad 31)), (1, .int a1), (2, .int a2)]) hx hb dX1_grow_141 hl (by decide) rfl (fun ls hl => ?_)
              have lp159 : ∀ (n160 : Nat) (x161 : Int32) (σ162 : Nat → Nat → Int32) (H : Heap) (locs : List Loc) (ls : Array Slot), (-x161.toInt + 4 : Int) < n160 → 0 ≤ x161.toInt → x161.toInt ≤ 4 → (∀ i : Nat, (i < 31 ∨ 33 < i) ∧ (i < 36 ∨ 37 < i) → σ162 i = σ141 i) → (∀ k : Nat, (k < 8 ∨ 8 < k) → σ162 31 k = σ141 31 k) → jI31 σ162 → jH D cI cL ad σ162 τ H → va_S (jA ad) s.heap H locs → lv_has ls 9 [(8, .int x161), (7, .int x158), (6, .int x155), (5, .int x137), (4, .int 1), (3, .int x8), (0, .ref (ad 31)), (1, .int a1), (2, .int a2)] → W p l e ({ frames := 3, cells := 0, slots := 0, locals := 73 }) s m args below meth c H locs 0 0 Q (F0 m 143 ls []) := by
                intro n160
                induction n160 with
                | zero => intro x161 σ162 H locs ls h164 h165 h166; exact absurd h164 (by omega)
                | succ n160 ihlp159 =>
                  intro x161 σ162 H locs ls h164 h165 h166 f167 f168 p169 hP hS hl
                  obtain ⟨i170, w171, w172⟩ : (0 ≤ (σ162 31 8).toInt ∧ (σ162 31 8).toInt ≤ 350) ∧ (∀ k : Nat, k < 1400 → (-1) ≤ (σ162 33 k).toInt ∧ (σ162 33 k).toInt ≤ 350) ∧ (∀ k : Nat, k < 1024 → 0 ≤ (σ162 36 k).toInt ∧ (σ162 36 k).toInt ≤ 349) := id p169
                  refine lv_iload hx hb dX1_grow_143 (lv_at hl 0 rfl) ?_
                  refine lv_iconst (v := 4) hx hb dX1_grow_145 (by decide) ?_
                  refine lv_icmp_ge (tgt := 196) hx hb dX1_grow_146 (by decide) (fun c173 => ?_) (fun c173 => ?_)
                  · have kc173 := jle c173 jz_4 rfl
                    obtain ⟨x174, ex174⟩ : ∃ y : Int32, y = x137 + 1 := ⟨_, rfl⟩
                    have tx174 : x174.toInt = x137.toInt + 1 := (jadd ex174 rfl jz_1 (by omega) (by omega)).trans (by omega)
                    refine lv_iinc (v := x174) (lv' := [(5, .int x174), (8, .int x161), (7, .int x158), (6, .int x155), (4, .int 1), (3, .int x8), (0, .ref (ad 31)), (1, .int a1), (2, .int a2)]) hx hb dX1_grow_196 hl (k := 3) rfl (by rw [ex174]; rfl) (by decide) rfl (fun ls hl => ?_)
                    refine lv_goto (tgt := 99) hx hb dX1_grow_199 (by decide) ?_
                    exact ihlp135 x174 σ162 _ _ ls (by have h90 := tx174; omega) (by have h90 := tx174; omega) (by have h90 := tx174; omega) (fun i hi => ((f167 i hi).trans (f146 i hi))) (fun i hi => ((f168 i hi).trans (f147 i hi)))  p169 hP hS (lv_sub hl [0, 4, 5, 6, 7, 8] rfl)
                  · have kc173 := jnle c173 jz_4 rfl
                    refine lv_aload_n hx hb dX1_grow_149 rfl (lv_at hl 6 rfl) ?_
                    refine va_get (D := D) hx hb hts inlX1 hown hK hP 31 (jc_31 cI cL ad σ162 τ) rfl 3 (by decide) (hts _ kw_5_4) (fun _ h9 => h9) rfl dX1_grow_150 ?_
                    refine lv_iload hx hb dX1_grow_153 (lv_at hl 3 rfl) ?_
                    refine lv_iconst (v := 4) hx hb dX1_grow_155 (by decide) ?_
                    have g175 := jrg (rfl : x137.toInt = x137.toInt)
                    refine lv_imul hx hb dX1_grow_156 ?_
                    refine lv_topi (fun x176 ex176 => ?_)
                    have tx176 : x176.toInt = 4 * x137.toInt := (jmul ex176 rfl jz_4 (by omega) (by omega)).trans (by omega)
                    refine lv_iload hx hb dX1_grow_157 (lv_at hl 0 rfl) ?_
                    have g177 := jrg (rfl : x161.toInt = x161.toInt)
                    refine lv_iadd hx hb dX1_grow_159 ?_
                    refine lv_topi (fun x178 ex178 => ?_)
                    have tx178 : x178.toInt = 4 * x137.toInt + x161.toInt := (jadd ex178 tx176 rfl (by omega) (by omega)).trans (by omega)
                    refine lv_iload hx hb dX1_grow_160 (lv_at hl 2 rfl) ?_
                    refine lv_iload hx hb dX1_grow_162 (lv_at hl 0 rfl) ?_
                    refine jcallS (As := [.int x155, .int x161]) (rest := [.int x178, .ref (ad 33)]) ⟨hx, hb, hml, hown, hts⟩ hK hP hA hS hZ (c_X0_mayBowl l D cI cL ad zz hJ σ162 τ x155 (x155.toInt) rfl x161 (x161.toInt) rfl) cw_RX1_115 ⟨Nat.le_of_ble_eq_true rfl, Nat.le_of_ble_eq_true rfl⟩ rfl rfl rfl hl.1 rfl (Nat.le_of_ble_eq_true rfl) dX1_grow_164 ⟨Nat.zero_le _, Nat.zero_le _⟩ (fun r180 σ179 τ179 H locs h179 hP hS => ?_)
                    obtain ⟨⟨rfl, rfl⟩, h179⟩ := h179
                    refine lv_if_eq (tgt := 188) hx hb dX1_grow_167 (by decide) (fun c181 => ?_) (fun c181 => ?_)
                    · have kc181 := jeq c181 rfl jz_0
                      refine lv_iconst (v := (-1)) hx hb dX1_grow_188 (by decide) ?_
                      refine jast hx hb hK hP hJ hA hS (jc_33 cI cL ad σ162 τ) (ja_33 cI cL ad σ162 τ _ _) (jin tx178 (by omega) (by omega)) dX1_grow_189 (fun σ182 H locs eσ182 hP hS => ?_)
                      obtain ⟨x183, ex183⟩ : ∃ y : Int32, y = x161 + 1 := ⟨_, rfl⟩
                      have tx183 : x183.toInt = x161.toInt + 1 := (jadd ex183 rfl jz_1 (by omega) (by omega)).trans (by omega)
                      refine lv_iinc (v := x183) (lv' := [(8, .int x183), (7, .int x158), (6, .int x155), (5, .int x137), (4, .int 1), (3, .int x8), (0, .ref (ad 31)), (1, .int a1), (2, .int a2)]) hx hb dX1_grow_190 hl (k := 0) rfl (by rw [ex183]; rfl) (by decide) rfl (fun ls hl => ?_)
                      refine lv_goto (tgt := 143) hx hb dX1_grow_193 (by decide) ?_
                      have z184 : (σ182 31 8).toInt = (σ162 31 8).toInt := (congrArg Int32.toInt (show σ182 31 8 = (σ162 31 8) from (congrFun (jnp 31 eσ182 (by decide)) 8)))
                      have w185 : ∀ k : Nat, k < 1400 → (-1) ≤ (σ182 33 k).toInt ∧ (σ182 33 k).toInt ≤ 350 := (by rw [eσ182]; exact jrr_up w171 (by have h9 := jz_m1; omega) (by have h9 := jz_m1; omega))
                      have w186 : ∀ k : Nat, k < 1024 → 0 ≤ (σ182 36 k).toInt ∧ (σ182 36 k).toInt ≤ 349 := (jrr_fr (jnp 36 eσ182 (by decide)) w172)
                      have I187 : jI31 σ182 := ⟨(by omega), w185, w186⟩
                      exact ihlp159 x183 σ182 _ _ ls (by have h90 := tx183; omega) (by have h90 := tx183; omega) (by have h90 := tx183; omega) (fun i hi => ((jnp i eσ182 (imp_94 i hi)).trans (f167 i hi))) (fun i hi => ((congrFun (jnp 31 eσ182 (by decide)) i).trans (f168 i hi)))  I187 hP hS (lv_sub hl [0, 1, 2, 3, 4, 5, 6, 7, 8] rfl)
                    · have kc181 := jne c181 rfl jz_0
                      refine lv_aload_n hx hb dX1_grow_170 rfl (lv_at hl 6 rfl) ?_
                      refine lv_iload hx hb dX1_grow_171 (lv_at hl 2 rfl) ?_
                      refine lv_iload hx hb dX1_grow_173 (lv_at hl 0 rfl) ?_
                      refine jcallS (As := [.int x155, .int x161]) (rest := [.ref (ad 31), .int x178, .ref (ad 33)]) ⟨hx, hb, hml, hown, hts⟩ hK hP hA hS hZ (c_X0_after l D cI cL ad zz hJ σ162 τ x155 (x155.toInt) rfl x161 (x161.toInt) rfl) cw_RX1_119 ⟨Nat.le_of_ble_eq_true rfl, Nat.le_of_ble_eq_true rfl⟩ rfl rfl rfl hl.1 rfl (Nat.le_of_ble_eq_true rfl) dX1_grow_175 ⟨Nat.zero_le _, Nat.zero_le _⟩ (fun r189 σ188 τ188 H locs h188 hP hS => ?_)
                      obtain ⟨⟨rfl, rfl⟩, h188⟩ := h188
                      refine lv_iload hx hb dX1_grow_178 (lv_at hl 1 rfl) ?_
                      refine lv_iconst (v := 1) hx hb dX1_grow_180 (by decide) ?_
                      have g190 := jrg (rfl : x158.toInt = x158.toInt)
                      refine lv_iadd hx hb dX1_grow_181 ?_
                      refine lv_topi (fun x191 ex191 => ?_)
                      have gx191 := jrg (rfl : x191.toInt = x191.toInt)
                      refine jcallV (As := [.int r189, .int x191]) (rest := [.int x178, .ref (ad 33)]) ⟨hx, hb, hml, hown, hts⟩ hK hP hA hS hZ (c_X1_add_31 l D cI cL ad zz hJ σ162 τ r189 (r189.toInt) rfl x191 (x191.toInt) rfl p169) cw_RX1_111 (jc_31 cI cL ad σ162 τ) rfl ⟨Nat.le_of_ble_eq_true rfl, Nat.le_of_ble_eq_true rfl⟩ rfl rfl rfl hl.1 rfl (Nat.le_of_ble_eq_true rfl) dX1_grow_182 ⟨Nat.zero_le _, Nat.zero_le _⟩ (fun r193 σ192 τ192 H locs h192 hP hS => ?_)
                      obtain ⟨rfl, f194, f195, I196, h192⟩ := h192
                      obtain ⟨i198, w199, w200⟩ : (0 ≤ (σ192 31 8).toInt ∧ (σ192 31 8).toInt ≤ 350) ∧ (∀ k : Nat, k < 1400 → (-1) ≤ (σ192 33 k).toInt ∧ (σ192 33 k).toInt ≤ 350) ∧ (∀ k : Nat, k < 1024 → 0 ≤ (σ192 36 k).toInt ∧ (σ192 36 k).toInt ≤ 349) := id I196
                      have h201 := h192
                      obtain ⟨q203, k202⟩ := h201
                      refine lv_goto (tgt := 189) hx hb dX1_grow_185 (by decide) ?_
                      refine jast hx hb hK hP hJ hA hS (jc_33 cI cL ad σ192 τ) (ja_33 cI cL ad σ192 τ _ _) (jin tx178 (by omega) (by omega)) dX1_grow_189 (fun σ204 H locs eσ204 hP hS => ?_)
                      obtain ⟨x205, ex205⟩ : ∃ y : Int32, y = x161 + 1 := ⟨_, rfl⟩
                      have tx205 : x205.toInt = x161.toInt + 1 := (jadd ex205 rfl jz_1 (by omega) (by omega)).trans (by omega)
                      refine lv_iinc (v := x205) (lv' := [(8, .int x205), (7, .int x158), (6, .int x155), (5, .int x137), (4, .int 1), (3, .int x8), (0, .ref (ad 31)), (1, .int a1), (2, .int a2)]) hx hb dX1_grow_190 hl (k := 0) rfl (by rw [ex205]; rfl) (by decide) rfl (fun ls hl => ?_)
                      refine lv_goto (tgt := 143) hx hb dX1_grow_193 (by decide) ?_
                      have z206 : (σ204 31 8).toInt = (σ192 31 8).toInt := (congrArg Int32.toInt (show σ204 31 8 = (σ192 31 8) from (congrFun (jnp 31 eσ204 (by decide)) 8)))
                      have w207 : ∀ k : Nat, k < 1400 → (-1) ≤ (σ204 33 k).toInt ∧ (σ204 33 k).toInt ≤ 350 := (by rw [eσ204]; exact jrr_up w199 (by omega) (by omega))
                      have w208 : ∀ k : Nat, k < 1024 → 0 ≤ (σ204 36 k).toInt ∧ (σ204 36 k).toInt ≤ 349 := (jrr_fr (jnp 36 eσ204 (by decide)) w200)
                      have I209 : jI31 σ204 := ⟨(by omega), w207, w208⟩
                      exact ihlp159 x205 σ204 _ _ ls (by have h90 := tx205; omega) (by have h90 := tx205; omega) (by have h90 := tx205; omega) (fun i hi => ((jnp i eσ204 (imp_94 i hi)).trans ((f194 i (imp_86 i hi)).trans (f167 i hi)))) (fun i hi => ((congrFun (jnp 31 eσ204 (by decide)) i).trans ((f195 i hi).trans (f168 i hi))))  I209 hP hS (lv_sub hl [0, 1, 2, 3, 4, 5, 6, 7, 8] rfl)
              exact lp159 1000000 0 σ141 _ _ ls (by have h90 := jz_0; omega) (by have h90 := jz_0; omega) (by have h90 := jz_0; omega) (fun _ _ => rfl) (fun _ _ => rfl)  p148 hP hS hl
        exact lp135 1000000 0 σ123 _ _ ls (by have h90 := jz_0; omega) (by have h90 := jz_0; omega) (by have h90 := jz_0; omega) (fun _ _ => rfl) (fun _ _ => rfl)  I127 hP hS hl
      · have kc113 := jeq c113 rfl rfl
        refine lv_aload_n hx hb dX1_grow_48 rfl (lv_at hl 2 rfl) ?_
        refine va_get (D := D) hx hb hts inlX1 hown hK hP 31 (jc_31 cI cL ad σ τ) rfl 12 (by decide) (hts _ kw_28_8) (fun _ h9 => h9) rfl dX1_grow_49 ?_
        refine lv_iload hx hb dX1_grow_52 (lv_at hl 0 rfl) ?_
        refine lv_icmp_ne (tgt := 63) hx hb dX1_grow_54 (by decide) (fun c210 => ?_) (fun c210 => ?_)
        · have kc210 := jne c210 rfl jz_1
          refine lv_aload_n hx hb dX1_grow_63 rfl (lv_at hl 2 rfl) ?_
          refine lv_iload_n hx hb dX1_grow_64 rfl (lv_at hl 3 rfl) ?_
          refine jput (ty := .int) hx hb hts inlX1 tyX1 tyX1_ok nmX1 hown hK hP hJ hA hS (jc_31 cI cL ad σ τ) rfl (k := 9) (by decide) (Nat.le_of_ble_eq_true rfl) (jp_31_9 cI cL ad σ τ a1) (hts _ kw_5_9) (fun _ h9 => h9) rfl (by decide +kernel) rfl rfl dX1_grow_65 (fun σ211 H locs eσ211 hP hS => ?_)
          refine lv_aload_n hx hb dX1_grow_68 rfl (lv_at hl 2 rfl) ?_
          refine lv_iload_n hx hb dX1_grow_69 rfl (lv_at hl 4 rfl) ?_
          refine jput (ty := .int) hx hb hts inlX1 tyX1 tyX1_ok nmX1 hown hK hP hJ hA hS (jc_31 cI cL ad σ211 τ) rfl (k := 10) (by decide) (Nat.le_of_ble_eq_true rfl) (jp_31_10 cI cL ad σ211 τ a2) (hts _ kw_28_9) (fun _ h9 => h9) rfl (by decide +kernel) rfl rfl dX1_grow_70 (fun σ212 H locs eσ212 hP hS => ?_)
          refine lv_aload_n hx hb dX1_grow_73 rfl (lv_at hl 2 rfl) ?_
          refine lv_iload_n hx hb dX1_grow_74 rfl (lv_at hl 1 rfl) ?_
          refine jput (ty := .int) hx hb hts inlX1 tyX1 tyX1_ok nmX1 hown hK hP hJ hA hS (jc_31 cI cL ad σ212 τ) rfl (k := 11) (by decide) (Nat.le_of_ble_eq_true rfl) (jp_31_11 cI cL ad σ212 τ x8) (hts _ kw_28_7) (fun _ h9 => h9) rfl (by decide +kernel) rfl rfl dX1_grow_75 (fun σ213 H locs eσ213 hP hS => ?_)
          refine lv_aload_n hx hb dX1_grow_78 rfl (lv_at hl 2 rfl) ?_
          refine lv_iload hx hb dX1_grow_79 (lv_at hl 0 rfl) ?_
          refine jput (ty := .boolean) hx hb hts inlX1 tyX1 tyX1_ok nmX1 hown hK hP hJ hA hS (jc_31 cI cL ad σ213 τ) rfl (k := 12) (by decide) (Nat.le_of_ble_eq_true rfl) (jp_31_12 cI cL ad σ213 τ 1) (hts _ kw_28_8) (fun _ h9 => h9) rfl (by decide +kernel) rfl rfl dX1_grow_81 (fun σ214 H locs eσ214 hP hS => ?_)
          refine lv_aload_n hx hb dX1_grow_84 rfl (lv_at hl 2 rfl) ?_
          refine lv_iconst (v := 0) hx hb dX1_grow_85 (by decide) ?_
          refine jput (ty := .int) hx hb hts inlX1 tyX1 tyX1_ok nmX1 hown hK hP hJ hA hS (jc_31 cI cL ad σ214 τ) rfl (k := 8) (by decide) (Nat.le_of_ble_eq_true rfl) (jp_31_8 cI cL ad σ214 τ 0) (hts _ kw_27_22) (fun _ h9 => h9) rfl (by decide +kernel) rfl rfl dX1_grow_86 (fun σ215 H locs eσ215 hP hS => ?_)
          refine lv_aload_n hx hb dX1_grow_89 rfl (lv_at hl 2 rfl) ?_
          refine lv_iload_n hx hb dX1_grow_90 rfl (lv_at hl 3 rfl) ?_
          refine lv_iconst (v := 0) hx hb dX1_grow_91 (by decide) ?_
          have z216 : (σ215 31 8).toInt = 0 := ((congrArg Int32.toInt (show σ215 31 8 = 0 from (jsp eσ215))).trans jz_0)
          have w217 : ∀ k : Nat, k < 1400 → (-1) ≤ (σ215 33 k).toInt ∧ (σ215 33 k).toInt ≤ 350 := (jrr_fr (jnp 33 eσ215 (by decide)) (jrr_fr (jnp 33 eσ214 (by decide)) (jrr_fr (jnp 33 eσ213 (by decide)) (jrr_fr (jnp 33 eσ212 (by decide)) (jrr_fr (jnp 33 eσ211 (by decide)) w2)))))
          have w218 : ∀ k : Nat, k < 1024 → 0 ≤ (σ215 36 k).toInt ∧ (σ215 36 k).toInt ≤ 349 := (jrr_fr (jnp 36 eσ215 (by decide)) (jrr_fr (jnp 36 eσ214 (by decide)) (jrr_fr (jnp 36 eσ213 (by decide)) (jrr_fr (jnp 36 eσ212 (by decide)) (jrr_fr (jnp 36 eσ211 (by decide)) w3)))))
          have I219 : jI31 σ215 := ⟨(by omega), w217, w218⟩
          refine jcallV (As := [.int a1, .int 0]) (rest := []) ⟨hx, hb, hml, hown, hts⟩ hK hP hA hS hZ (c_X1_add_31 l D cI cL ad zz hJ σ215 τ a1 (A1) t1 0 (0) jz_0 I219) cw_RX1_111 (jc_31 cI cL ad σ215 τ) rfl ⟨Nat.le_of_ble_eq_true rfl, Nat.le_of_ble_eq_true rfl⟩ rfl rfl rfl hl.1 rfl (Nat.le_of_ble_eq_true rfl) dX1_grow_92 ⟨Nat.zero_le _, Nat.zero_le _⟩ (fun r221 σ220 τ220 H locs h220 hP hS => ?_)
          obtain ⟨rfl, f222, f223, I224, h220⟩ := h220
          obtain ⟨i226, w227, w228⟩ : (0 ≤ (σ220 31 8).toInt ∧ (σ220 31 8).toInt ≤ 350) ∧ (∀ k : Nat, k < 1400 → (-1) ≤ (σ220 33 k).toInt ∧ (σ220 33 k).toInt ≤ 350) ∧ (∀ k : Nat, k < 1024 → 0 ≤ (σ220 36 k).toInt ∧ (σ220 36 k).toInt ≤ 349) := id I224
          have h229 := h220
          obtain ⟨q231, k230⟩ := h229
          refine lv_pop hx hb dX1_grow_95 rfl ?_
          refine lv_iconst (v := 0) hx hb dX1_grow_96 (by decide) ?_
          refine lv_istore (lv' := [(5, .int 0), (4, .int 1), (3, .int x8), (0, .ref (ad 31)), (1, .int a1), (2, .int a2)]) hx hb dX1_grow_97 hl (by decide) rfl (fun ls hl => ?_)
          have lp232 : ∀ (n233 : Nat) (x234 : Int32) (σ238 : Nat → Nat → Int32) (H : Heap) (locs : List Loc) (ls : Array Slot), (-x234.toInt + 350 : Int) < n233 → 0 ≤ x234.toInt → x234.toInt ≤ 350 → (∀ i : Nat, (i < 31 ∨ 33 < i) ∧ (i < 36 ∨ 37 < i) → σ238 i = σ220 i) → (∀ k : Nat, (k < 8 ∨ 8 < k) → σ238 31 k = σ220 31 k) → jI31 σ238 → jH D cI cL ad σ238 τ H → va_S (jA ad) s.heap H locs → lv_has ls 9 [(5, .int x234), (4, .int 1), (3, .int x8), (0, .ref (ad 31)), (1, .int a1), (2, .int a2)] → W p l e ({ frames := 3, cells := 0, slots := 0, locals := 73 }) s m args below meth c H locs 0 0 Q (F0 m 99 ls []) := by
            intro n233
            induction n233 with
            | zero => intro x234 σ238 H locs ls h240 h241 h242; exact absurd h240 (by omega)
            | succ n233 ihlp232 =>
              intro x234 σ238 H locs ls h240 h241 h242 f243 f244 p245 hP hS hl
              obtain ⟨i246, w247, w248⟩ : (0 ≤ (σ238 31 8).toInt ∧ (σ238 31 8).toInt ≤ 350) ∧ (∀ k : Nat, k < 1400 → (-1) ≤ (σ238 33 k).toInt ∧ (σ238 33 k).toInt ≤ 350) ∧ (∀ k : Nat, k < 1024 → 0 ≤ (σ238 36 k).toInt ∧ (σ238 36 k).toInt ≤ 349) := id p245
              refine lv_iload hx hb dX1_grow_99 (lv_at hl 0 rfl) ?_
              refine lv_aload_n hx hb dX1_grow_101 rfl (lv_at hl 3 rfl) ?_
              refine va_get (D := D) hx hb hts inlX1 hown hK hP 31 (jc_31 cI cL ad σ238 τ) rfl 8 (by decide) (hts _ kw_27_22) (fun _ h9 => h9) rfl dX1_grow_102 ?_
              refine lv_icmp_ge (tgt := 202) hx hb dX1_grow_105 (by decide) (fun c249 => ?_) (fun c249 => ?_)
              · have kc249 := jle c249 rfl rfl
                exact hret σ238 τ _ _ _ _ ⟨rfl, (fun i hi => ((f243 i hi).trans ((f222 i (imp_86 i hi)).trans ((jnp i eσ215 (imp_87 i hi)).trans ((jnp i eσ214 (imp_87 i hi)).trans ((jnp i eσ213 (imp_87 i hi)).trans ((jnp i eσ212 (imp_87 i hi)).trans (jnp i eσ211 (imp_87 i hi))))))))), (fun i hi => ((f244 i (imp_88 i hi)).trans ((f223 i (imp_88 i hi)).trans ((jkp i eσ215 (imp_89 i hi)).trans ((jkp i eσ214 (imp_90 i hi)).trans ((jkp i eσ213 (imp_91 i hi)).trans ((jkp i eσ212 (imp_92 i hi)).trans (jkp i eσ211 (imp_93 i hi))))))))), p245, trivial⟩ hP hS dX1_grow_202
              · have kc249 := jnle c249 rfl rfl
                refine lv_iload hx hb dX1_grow_108 (lv_at hl 0 rfl) ?_
                refine lv_sipush (v := 350) hx hb dX1_grow_110 (by decide) ?_
                refine lv_icmp_ge (tgt := 202) hx hb dX1_grow_113 (by decide) (fun c => absurd (jle c jz_350 rfl) (by omega)) (fun c250 => ?_)
                have kc250 := jnle c250 jz_350 rfl
                refine lv_aload_n hx hb dX1_grow_116 rfl (lv_at hl 3 rfl) ?_
                refine va_get (D := D) hx hb hts inlX1 hown hK hP 31 (jc_31 cI cL ad σ238 τ) rfl 2 (by decide) (hts _ kw_5_3) (fun _ h9 => h9) rfl dX1_grow_117 ?_
                refine lv_iload hx hb dX1_grow_120 (lv_at hl 0 rfl) ?_
                refine jald hx hb hK hP (jc_32 cI cL ad σ238 τ) (jin rfl (by omega) (by omega)) dX1_grow_122 ?_
                refine lv_topi (fun x251 ex251 => ?_)
                refine lv_ldc (v := 134217727) hx hb hown (hts _ kw_28_10) dX1_grow_123 ?_
                refine lv_iand hx hb dX1_grow_125 ?_
                refine lv_topi (fun x252 ex252 => ?_)
                have gx252 := jrg (rfl : x252.toInt = x252.toInt)
                have g253 : 0 ≤ x252.toInt ∧ x252.toInt ≤ 134217727 := jmask ex252 27 (by decide) (by decide)
                refine lv_istore (lv' := [(6, .int x252), (5, .int x234), (4, .int 1), (3, .int x8), (0, .ref (ad 31)), (1, .int a1), (2, .int a2)]) hx hb dX1_grow_126 hl (by decide) rfl (fun ls hl => ?_)
                refine lv_aload_n hx hb dX1_grow_128 rfl (lv_at hl 4 rfl) ?_
                refine va_get (D := D) hx hb hts inlX1 hown hK hP 31 (jc_31 cI cL ad σ238 τ) rfl 2 (by decide) (hts _ kw_5_3) (fun _ h9 => h9) rfl dX1_grow_129 ?_
                refine lv_iload hx hb dX1_grow_132 (lv_at hl 1 rfl) ?_
                refine jald hx hb hK hP (jc_32 cI cL ad σ238 τ) (jin rfl (by omega) (by omega)) dX1_grow_134 ?_
                refine lv_topi (fun x254 ex254 => ?_)
                refine lv_bipush (v := 27) hx hb dX1_grow_135 (by decide) ?_
                refine lv_ishr hx hb dX1_grow_137 ?_
                refine lv_topi (fun x255 ex255 => ?_)
                have gx255 := jrg (rfl : x255.toInt = x255.toInt)
                refine lv_istore (lv' := [(7, .int x255), (6, .int x252), (5, .int x234), (4, .int 1), (3, .int x8), (0, .ref (ad 31)), (1, .int a1), (2, .int a2)]) hx hb dX1_grow_138 hl (by decide) rfl (fun ls hl => ?_)
                refine lv_iconst (v := 0) hx hb dX1_grow_140 (by decide) ?_
                refine lv_istore (lv' := [(8, .int 0), (7, .int x255), (6, .int x252), (5, .int x234), (4, .int 1), (3, .int x8), (0, .ref (ad 31)), (1, .int a1), (2, .int a2)]) hx hb dX1_grow_141 hl (by decide) rfl (fun ls hl => ?_)
                have lp256 : ∀ (n257 : Nat) (x258 : Int32) (σ259 : Nat → Nat → Int32) (H : Heap) (locs : List Loc) (ls : Array Slot), (-x258.toInt + 4 : Int) < n257 → 0 ≤ x258.toInt → x258.toInt ≤ 4 → (∀ i : Nat, (i < 31 ∨ 33 < i) ∧ (i < 36 ∨ 37 < i) → σ259 i = σ238 i) → (∀ k : Nat, (k < 8 ∨ 8 < k) → σ259 31 k = σ238 31 k) → jI31 σ259 → jH D cI cL ad σ259 τ H → va_S (jA ad) s.heap H locs → lv_has ls 9 [(8, .int x258), (7, .int x255), (6, .int x252), (5, .int x234), (4, .int 1), (3, .int x8), (0, .ref (ad 31)), (1, .int a1), (2, .int a2)] → W p l e ({ frames := 3, cells := 0, slots := 0, locals := 73 }) s m args below meth c H locs 0 0 Q (F0 m 143 ls []) := by
                  intro n257
                  induction n257 with
                  | zero => intro x258 σ259 H locs ls h261 h262 h263; exact absurd h261 (by omega)
                  | succ n257 ihlp256 =>
                    intro x258 σ259 H locs ls h261 h262 h263 f264 f265 p266 hP hS hl
                    obtain ⟨i267, w268, w269⟩ : (0 ≤ (σ259 31 8).toInt ∧ (σ259 31 8).toInt ≤ 350) ∧ (∀ k : Nat, k < 1400 → (-1) ≤ (σ259 33 k).toInt ∧ (σ259 33 k).toInt ≤ 350) ∧ (∀ k : Nat, k < 1024 → 0 ≤ (σ259 36 k).toInt ∧ (σ259 36 k).toInt ≤ 349) := id p266
                    refine lv_iload hx hb dX1_grow_143 (lv_at hl 0 rfl) ?_
                    refine lv_iconst (v := 4) hx hb dX1_grow_145 (by decide) ?_
                    refine lv_icmp_ge (tgt := 196) hx hb dX1_grow_146 (by decide) (fun c270 => ?_) (fun c270 => ?_)
                    · have kc270 := jle c270 jz_4 rfl
                      obtain ⟨x271, ex271⟩ : ∃ y : Int32, y = x234 + 1 := ⟨_, rfl⟩
                      have tx271 : x271.toInt = x234.toInt + 1 := (jadd ex271 rfl jz_1 (by omega) (by omega)).trans (by omega)
                      refine lv_iinc (v := x271) (lv' := [(5, .int x271), (8, .int x258), (7, .int x255), (6, .int x252), (4, .int 1), (3, .int x8), (0, .ref (ad 31)), (1, .int a1), (2, .int a2)]) hx hb dX1_grow_196 hl (k := 3) rfl (by rw [ex271]; rfl) (by decide) rfl (fun ls hl => ?_)
                      refine lv_goto (tgt := 99) hx hb dX1_grow_199 (by decide) ?_
                      exact ihlp232 x271 σ259 _ _ ls (by have h90 := tx271; omega) (by have h90 := tx271; omega) (by have h90 := tx271; omega) (fun i hi => ((f264 i hi).trans (f243 i hi))) (fun i hi => ((f265 i hi).trans (f244 i hi)))  p266 hP hS (lv_sub hl [0, 4, 5, 6, 7, 8] rfl)
                    · have kc270 := jnle c270 jz_4 rfl
                      refine lv_aload_n hx hb dX1_grow_149 rfl (lv_at hl 6 rfl) ?_
                      refine va_get (D := D) hx hb hts inlX1 hown hK hP 31 (jc_31 cI cL ad σ259 τ) rfl 3 (by decide) (hts _ kw_5_4) (fun _ h9 => h9) rfl dX1_grow_150 ?_
                      refine lv_iload hx hb dX1_grow_153 (lv_at hl 3 rfl) ?_
                      refine lv_iconst (v := 4) hx hb dX1_grow_155 (by decide) ?_
                      have g272 := jrg (rfl : x234.toInt = x234.toInt)
                      refine lv_imul hx hb dX1_grow_156 ?_
                      refine lv_topi (fun x273 ex273 => ?_)
                      have tx273 : x273.toInt = 4 * x234.toInt := (jmul ex273 rfl jz_4 (by omega) (by omega)).trans (by omega)
                      refine lv_iload hx hb dX1_grow_157 (lv_at hl 0 rfl) ?_
                      have g274 := jrg (rfl : x258.toInt = x258.toInt)
                      refine lv_iadd hx hb dX1_grow_159 ?_
                      refine lv_topi (fun x275 ex275 => ?_)
                      have tx275 : x275.toInt = 4 * x234.toInt + x258.toInt := (jadd ex275 tx273 rfl (by omega) (by omega)).trans (by omega)
                      refine lv_iload hx hb dX1_grow_160 (lv_at hl 2 rfl) ?_
                      refine lv_iload hx hb dX1_grow_162 (lv_at hl 0 rfl) ?_
                      refine jcallS (As := [.int x252, .int x258]) (rest := [.int x275, .ref (ad 33)]) ⟨hx, hb, hml, hown, hts⟩ hK hP hA hS hZ (c_X0_mayBowl l D cI cL ad zz hJ σ259 τ x252 (x252.toInt) rfl x258 (x258.toInt) rfl) cw_RX1_115 ⟨Nat.le_of_ble_eq_true rfl, Nat.le_of_ble_eq_true rfl⟩ rfl rfl rfl hl.1 rfl (Nat.le_of_ble_eq_true rfl) dX1_grow_164 ⟨Nat.zero_le _, Nat.zero_le _⟩ (fun r277 σ276 τ276 H locs h276 hP hS => ?_)
                      obtain ⟨⟨rfl, rfl⟩, h276⟩ := h276
                      refine lv_if_eq (tgt := 188) hx hb dX1_grow_167 (by decide) (fun c278 => ?_) (fun c278 => ?_)
                      · have kc278 := jeq c278 rfl jz_0
                        refine lv_iconst (v := (-1)) hx hb dX1_grow_188 (by decide) ?_
                        refine jast hx hb hK hP hJ hA hS (jc_33 cI cL ad σ259 τ) (ja_33 cI cL ad σ259 τ _ _) (jin tx275 (by omega) (by omega)) dX1_grow_189 (fun σ279 H locs eσ279 hP hS => ?_)
                        obtain ⟨x280, ex280⟩ : ∃ y : Int32, y = x258 + 1 := ⟨_, rfl⟩
                        have tx280 : x280.toInt = x258.toInt + 1 := (jadd ex280 rfl jz_1 (by omega) (by omega)).trans (by omega)
                        refine lv_iinc (v := x280) (lv' := [(8, .int x280), (7, .int x255), (6, .int x252), (5, .int x234), (4, .int 1), (3, .int x8), (0, .ref (ad 31)), (1, .int a1), (2, .int a2)]) hx hb dX1_grow_190 hl (k := 0) rfl (by rw [ex280]; rfl) (by decide) rfl (fun ls hl => ?_)
                        refine lv_goto (tgt := 143) hx hb dX1_grow_193 (by decide) ?_
                        have z281 : (σ279 31 8).toInt = (σ259 31 8).toInt := (congrArg Int32.toInt (show σ279 31 8 = (σ259 31 8) from (congrFun (jnp 31 eσ279 (by decide)) 8)))
                        have w282 : ∀ k : Nat, k < 1400 → (-1) ≤ (σ279 33 k).toInt ∧ (σ279 33 k).toInt ≤ 350 := (by rw [eσ279]; exact jrr_up w268 (by have h9 := jz_m1; omega) (by have h9 := jz_m1; omega))
                        have w283 : ∀ k : Nat, k < 1024 → 0 ≤ (σ279 36 k).toInt ∧ (σ279 36 k).toInt ≤ 349 := (jrr_fr (jnp 36 eσ279 (by decide)) w269)
                        have I284 : jI31 σ279 := ⟨(by omega), w282, w283⟩
                        exact ihlp256 x280 σ279 _ _ ls (by have h90 := tx280; omega) (by have h90 := tx280; omega) (by have h90 := tx280; omega) (fun i hi => ((jnp i eσ279 (imp_94 i hi)).trans (f264 i hi))) (fun i hi => ((congrFun (jnp 31 eσ279 (by decide)) i).trans (f265 i hi)))  I284 hP hS (lv_sub hl [0, 1, 2, 3, 4, 5, 6, 7, 8] rfl)
                      · have kc278 := jne c278 rfl jz_0
                        refine lv_aload_n hx hb dX1_grow_170 rfl (lv_at hl 6 rfl) ?_
                        refine lv_iload hx hb dX1_grow_171 (lv_at hl 2 rfl) ?_
                        refine lv_iload hx hb dX1_grow_173 (lv_at hl 0 rfl) ?_
                        refine jcallS (As := [.int x252, .int x258]) (rest := [.ref (ad 31), .int x275, .ref (ad 33)]) ⟨hx, hb, hml, hown, hts⟩ hK hP hA hS hZ (c_X0_after l D cI cL ad zz hJ σ259 τ x252 (x252.toInt) rfl x258 (x258.toInt) rfl) cw_RX1_119 ⟨Nat.le_of_ble_eq_true rfl, Nat.le_of_ble_eq_true rfl⟩ rfl rfl rfl hl.1 rfl (Nat.le_of_ble_eq_true rfl) dX1_grow_175 ⟨Nat.zero_le _, Nat.zero_le _⟩ (fun r286 σ285 τ285 H locs h285 hP hS => ?_)
                        obtain ⟨⟨rfl, rfl⟩, h285⟩ := h285
                        refine lv_iload hx hb dX1_grow_178 (lv_at hl 1 rfl) ?_
                        refine lv_iconst (v := 1) hx hb dX1_grow_180 (by decide) ?_
                        have g287 := jrg (rfl : x255.toInt = x255.toInt)
                        refine lv_iadd hx hb dX1_grow_181 ?_
                        refine lv_topi (fun x288 ex288 => ?_)
                        have gx288 := jrg (rfl : x288.toInt = x288.toInt)
                        refine jcallV (As := [.int r286, .int x288]) (rest := [.int x275, .ref (ad 33)]) ⟨hx, hb, hml, hown, hts⟩ hK hP hA hS hZ (c_X1_add_31 l D cI cL ad zz hJ σ259 τ r286 (r286.toInt) rfl x288 (x288.toInt) rfl p266) cw_RX1_111 (jc_31 cI cL ad σ259 τ) rfl ⟨Nat.le_of_ble_eq_true rfl, Nat.le_of_ble_eq_true rfl⟩ rfl rfl rfl hl.1 rfl (Nat.le_of_ble_eq_true rfl) dX1_grow_182 ⟨Nat.zero_le _, Nat.zero_le _⟩ (fun r290 σ289 τ289 H locs h289 hP hS => ?_)
                        obtain ⟨rfl, f291, f292, I293, h289⟩ := h289
                        obtain ⟨i295, w296, w297⟩ : (0 ≤ (σ289 31 8).toInt ∧ (σ289 31 8).toInt ≤ 350) ∧ (∀ k : Nat, k < 1400 → (-1) ≤ (σ289 33 k).toInt ∧ (σ289 33 k).toInt ≤ 350) ∧ (∀ k : Nat, k < 1024 → 0 ≤ (σ289 36 k).toInt ∧ (σ289 36 k).toInt ≤ 349) := id I293
                        have h298 := h289
                        obtain ⟨q300, k299⟩ := h298
                        refine lv_goto (tgt := 189) hx hb dX1_grow_185 (by decide) ?_
                        refine jast hx hb hK hP hJ hA hS (jc_33 cI cL ad σ289 τ) (ja_33 cI cL ad σ289 τ _ _) (jin tx275 (by omega) (by omega)) dX1_grow_189 (fun σ301 H locs eσ301 hP hS => ?_)
                        obtain ⟨x302, ex302⟩ : ∃ y : Int32, y = x258 + 1 := ⟨_, rfl⟩
                        have tx302 : x302.toInt = x258.toInt + 1 := (jadd ex302 rfl jz_1 (by omega) (by omega)).trans (by omega)
                        refine lv_iinc (v := x302) (lv' := [(8, .int x302), (7, .int x255), (6, .int x252), (5, .int x234), (4, .int 1), (3, .int x8), (0, .ref (ad 31)), (1, .int a1), (2, .int a2)]) hx hb dX1_grow_190 hl (k := 0) rfl (by rw [ex302]; rfl) (by decide) rfl (fun ls hl => ?_)
                        refine lv_goto (tgt := 143) hx hb dX1_grow_193 (by decide) ?_
                        have z303 : (σ301 31 8).toInt = (σ289 31 8).toInt := (congrArg Int32.toInt (show σ301 31 8 = (σ289 31 8) from (congrFun (jnp 31 eσ301 (by decide)) 8)))
                        have w304 : ∀ k : Nat, k < 1400 → (-1) ≤ (σ301 33 k).toInt ∧ (σ301 33 k).toInt ≤ 350 := (by rw [eσ301]; exact jrr_up w296 (by omega) (by omega))
                        have w305 : ∀ k : Nat, k < 1024 → 0 ≤ (σ301 36 k).toInt ∧ (σ301 36 k).toInt ≤ 349 := (jrr_fr (jnp 36 eσ301 (by decide)) w297)
                        have I306 : jI31 σ301 := ⟨(by omega), w304, w305⟩
                        exact ihlp256 x302 σ301 _ _ ls (by have h90 := tx302; omega) (by have h90 := tx302; omega) (by have h90 := tx302; omega) (fun i hi => ((jnp i eσ301 (imp_94 i hi)).trans ((f291 i (imp_86 i hi)).trans (f264 i hi)))) (fun i hi => ((congrFun (jnp 31 eσ301 (by decide)) i).trans ((f292 i hi).trans (f265 i hi))))  I306 hP hS (lv_sub hl [0, 1, 2, 3, 4, 5, 6, 7, 8] rfl)
                exact lp256 1000000 0 σ238 _ _ ls (by have h90 := jz_0; omega) (by have h90 := jz_0; omega) (by have h90 := jz_0; omega) (fun _ _ => rfl) (fun _ _ => rfl)  p245 hP hS hl
          exact lp232 1000000 0 σ220 _ _ ls (by have h90 := jz_0; omega) (by have h90 := jz_0; omega) (by have h90 := jz_0; omega) (fun _ _ => rfl) (fun _ _ => rfl)  I224 hP hS hl
        · have kc210 := jeq c210 rfl jz_1
          refine lv_aload_n hx hb dX1_grow_57 rfl (lv_at hl 2 rfl) ?_
          refine lv_iload_n hx hb dX1_grow_58 rfl (lv_at hl 4 rfl) ?_
          refine jput (ty := .int) hx hb hts inlX1 tyX1 tyX1_ok nmX1 hown hK hP hJ hA hS (jc_31 cI cL ad σ τ) rfl (k := 10) (by decide) (Nat.le_of_ble_eq_true rfl) (jp_31_10 cI cL ad σ τ a2) (hts _ kw_28_9) (fun _ h9 => h9) rfl (by decide +kernel) rfl rfl dX1_grow_59 (fun σ307 H locs eσ307 hP hS => ?_)
          have I308 : jI31 σ307 := jI31_fr (jkp 8 eσ307 (by decide)) (jnp 33 eσ307 (by decide)) (jnp 36 eσ307 (by decide)) hI31
          exact hret σ307 τ _ _ _ _ ⟨rfl, (fun i hi => (jnp i eσ307 (imp_87 i hi))), (fun i hi => (jkp i eσ307 (imp_92 i hi))), I308, trivial⟩ hP hS dX1_grow_62
  · obtain ⟨q310, k309⟩ := h13
    have q310 := q310.symm
    subst q310
    refine lv_istore (lv' := [(4, .int 0), (3, .int x8), (0, .ref (ad 31)), (1, .int a1), (2, .int a2)]) hx hb dX1_grow_30 hl (by decide) rfl (fun ls hl => ?_)
    refine lv_aload_n hx hb dX1_grow_32 rfl (lv_at hl 2 rfl) ?_
    refine va_get (D := D) hx hb hts inlX1 hown hK hP 31 (jc_31 cI cL ad σ τ) rfl 9 (by decide) (hts _ kw_5_9) (fun _ h9 => h9) rfl dX1_grow_33 ?_
    refine lv_iload_n hx hb dX1_grow_36 rfl (lv_at hl 3 rfl) ?_
    refine lv_icmp_ne (tgt := 63) hx hb dX1_grow_37 (by decide) (fun c311 => ?_) (fun c311 => ?_)
    · have kc311 := jne c311 rfl t1
      refine lv_aload_n hx hb dX1_grow_63 rfl (lv_at hl 2 rfl) ?_
      refine lv_iload_n hx hb dX1_grow_64 rfl (lv_at hl 3 rfl) ?_
      refine jput (ty := .int) hx hb hts inlX1 tyX1 tyX1_ok nmX1 hown hK hP hJ hA hS (jc_31 cI cL ad σ τ) rfl (k := 9) (by decide) (Nat.le_of_ble_eq_true rfl) (jp_31_9 cI cL ad σ τ a1) (hts _ kw_5_9) (fun _ h9 => h9) rfl (by decide +kernel) rfl rfl dX1_grow_65 (fun σ312 H locs eσ312 hP hS => ?_)
      refine lv_aload_n hx hb dX1_grow_68 rfl (lv_at hl 2 rfl) ?_
      refine lv_iload_n hx hb dX1_grow_69 rfl (lv_at hl 4 rfl) ?_
      refine jput (ty := .int) hx hb hts inlX1 tyX1 tyX1_ok nmX1 hown hK hP hJ hA hS (jc_31 cI cL ad σ312 τ) rfl (k := 10) (by decide) (Nat.le_of_ble_eq_true rfl) (jp_31_10 cI cL ad σ312 τ a2) (hts _ kw_28_9) (fun _ h9 => h9) rfl (by decide +kernel) rfl rfl dX1_grow_70 (fun σ313 H locs eσ313 hP hS => ?_)
      refine lv_aload_n hx hb dX1_grow_73 rfl (lv_at hl 2 rfl) ?_
      refine lv_iload_n hx hb dX1_grow_74 rfl (lv_at hl 1 rfl) ?_
      refine jput (ty := .int) hx hb hts inlX1 tyX1 tyX1_ok nmX1 hown hK hP hJ hA hS (jc_31 cI cL ad σ313 τ) rfl (k := 11) (by decide) (Nat.le_of_ble_eq_true rfl) (jp_31_11 cI cL ad σ313 τ x8) (hts _ kw_28_7) (fun _ h9 => h9) rfl (by decide +kernel) rfl rfl dX1_grow_75 (fun σ314 H locs eσ314 hP hS => ?_)
      refine lv_aload_n hx hb dX1_grow_78 rfl (lv_at hl 2 rfl) ?_
      refine lv_iload hx hb dX1_grow_79 (lv_at hl 0 rfl) ?_
      refine jput (ty := .boolean) hx hb hts inlX1 tyX1 tyX1_ok nmX1 hown hK hP hJ hA hS (jc_31 cI cL ad σ314 τ) rfl (k := 12) (by decide) (Nat.le_of_ble_eq_true rfl) (jp_31_12 cI cL ad σ314 τ 0) (hts _ kw_28_8) (fun _ h9 => h9) rfl (by decide +kernel) rfl rfl dX1_grow_81 (fun σ315 H locs eσ315 hP hS => ?_)
      refine lv_aload_n hx hb dX1_grow_84 rfl (lv_at hl 2 rfl) ?_
      refine lv_iconst (v := 0) hx hb dX1_grow_85 (by decide) ?_
      refine jput (ty := .int) hx hb hts inlX1 tyX1 tyX1_ok nmX1 hown hK hP hJ hA hS (jc_31 cI cL ad σ315 τ) rfl (k := 8) (by decide) (Nat.le_of_ble_eq_true rfl) (jp_31_8 cI cL ad σ315 τ 0) (hts _ kw_27_22) (fun _ h9 => h9) rfl (by decide +kernel) rfl rfl dX1_grow_86 (fun σ316 H locs eσ316 hP hS => ?_)
      refine lv_aload_n hx hb dX1_grow_89 rfl (lv_at hl 2 rfl) ?_
      refine lv_iload_n hx hb dX1_grow_90 rfl (lv_at hl 3 rfl) ?_
      refine lv_iconst (v := 0) hx hb dX1_grow_91 (by decide) ?_
      have z317 : (σ316 31 8).toInt = 0 := ((congrArg Int32.toInt (show σ316 31 8 = 0 from (jsp eσ316))).trans jz_0)
      have w318 : ∀ k : Nat, k < 1400 → (-1) ≤ (σ316 33 k).toInt ∧ (σ316 33 k).toInt ≤ 350 := (jrr_fr (jnp 33 eσ316 (by decide)) (jrr_fr (jnp 33 eσ315 (by decide)) (jrr_fr (jnp 33 eσ314 (by decide)) (jrr_fr (jnp 33 eσ313 (by decide)) (jrr_fr (jnp 33 eσ312 (by decide)) w2)))))
      have w319 : ∀ k : Nat, k < 1024 → 0 ≤ (σ316 36 k).toInt ∧ (σ316 36 k).toInt ≤ 349 := (jrr_fr (jnp 36 eσ316 (by decide)) (jrr_fr (jnp 36 eσ315 (by decide)) (jrr_fr (jnp 36 eσ314 (by decide)) (jrr_fr (jnp 36 eσ313 (by decide)) (jrr_fr (jnp 36 eσ312 (by decide)) w3)))))
      have I320 : jI31 σ316 := ⟨(by omega), w318, w319⟩
      refine jcallV (As := [.int a1, .int 0]) (rest := []) ⟨hx, hb, hml, hown, hts⟩ hK hP hA hS hZ (c_X1_add_31 l D cI cL ad zz hJ σ316 τ a1 (A1) t1 0 (0) jz_0 I320) cw_RX1_111 (jc_31 cI cL ad σ316 τ) rfl ⟨Nat.le_of_ble_eq_true rfl, Nat.le_of_ble_eq_true rfl⟩ rfl rfl rfl hl.1 rfl (Nat.le_of_ble_eq_true rfl) dX1_grow_92 ⟨Nat.zero_le _, Nat.zero_le _⟩ (fun r322 σ321 τ321 H locs h321 hP hS => ?_)
      obtain ⟨rfl, f323, f324, I325, h321⟩ := h321
      obtain ⟨i327, w328, w329⟩ : (0 ≤ (σ321 31 8).toInt ∧ (σ321 31 8).toInt ≤ 350) ∧ (∀ k : Nat, k < 1400 → (-1) ≤ (σ321 33 k).toInt ∧ (σ321 33 k).toInt ≤ 350) ∧ (∀ k : Nat, k < 1024 → 0 ≤ (σ321 36 k).toInt ∧ (σ321 36 k).toInt ≤ 349) := id I325
      have h330 := h321
      obtain ⟨q332, k331⟩ := h330
      refine lv_pop hx hb dX1_grow_95 rfl ?_
      refine lv_iconst (v := 0) hx hb dX1_grow_96 (by decide) ?_
      refine lv_istore (lv' := [(5, .int 0), (4, .int 0), (3, .int x8), (0, .ref (ad 31)), (1, .int a1), (2, .int a2)]) hx hb dX1_grow_97 hl (by decide) rfl (fun ls hl => ?_)
      have lp333 : ∀ (n334 : Nat) (x335 : Int32) (σ339 : Nat → Nat → Int32) (H : Heap) (locs : List Loc) (ls : Array Slot), (-x335.toInt + 350 : Int) < n334 → 0 ≤ x335.toInt → x335.toInt ≤ 350 → (∀ i : Nat, (i < 31 ∨ 33 < i) ∧ (i < 36 ∨ 37 < i) → σ339 i = σ321 i) → (∀ k : Nat, (k < 8 ∨ 8 < k) → σ339 31 k = σ321 31 k) → jI31 σ339 → jH D cI cL ad σ339 τ H → va_S (jA ad) s.heap H locs → lv_has ls 9 [(5, .int x335), (4, .int 0), (3, .int x8), (0, .ref (ad 31)), (1, .int a1), (2, .int a2)] → W p l e ({ frames := 3, cells := 0, slots := 0, locals := 73 }) s m args below meth c H locs 0 0 Q (F0 m 99 ls []) := by
        intro n334
        induction n334 with
        | zero => intro x335 σ339 H locs ls h341 h342 h343; exact absurd h341 (by omega)
        | succ n334 ihlp333 =>
          intro x335 σ339 H locs ls h341 h342 h343 f344 f345 p346 hP hS hl
          obtain ⟨i347, w348, w349⟩ : (0 ≤ (σ339 31 8).toInt ∧ (σ339 31 8).toInt ≤ 350) ∧ (∀ k : Nat, k < 1400 → (-1) ≤ (σ339 33 k).toInt ∧ (σ339 33 k).toInt ≤ 350) ∧ (∀ k : Nat, k < 1024 → 0 ≤ (σ339 36 k).toInt ∧ (σ339 36 k).toInt ≤ 349) := id p346
          refine lv_iload hx hb dX1_grow_99 (lv_at hl 0 rfl) ?_
          refine lv_aload_n hx hb dX1_grow_101 rfl (lv_at hl 3 rfl) ?_
          refine va_get (D := D) hx hb hts inlX1 hown hK hP 31 (jc_31 cI cL ad σ339 τ) rfl 8 (by decide) (hts _ kw_27_22) (fun _ h9 => h9) rfl dX1_grow_102 ?_
          refine lv_icmp_ge (tgt := 202) hx hb dX1_grow_105 (by decide) (fun c350 => ?_) (fun c350 => ?_)
          · have kc350 := jle c350 rfl rfl
            exact hret σ339 τ _ _ _ _ ⟨rfl, (fun i hi => ((f344 i hi).trans ((f323 i (imp_86 i hi)).trans ((jnp i eσ316 (imp_87 i hi)).trans ((jnp i eσ315 (imp_87 i hi)).trans ((jnp i eσ314 (imp_87 i hi)).trans ((jnp i eσ313 (imp_87 i hi)).trans (jnp i eσ312 (imp_87 i hi))))))))), (fun i hi => ((f345 i (imp_88 i hi)).trans ((f324 i (imp_88 i hi)).trans ((jkp i eσ316 (imp_89 i hi)).trans ((jkp i eσ315 (imp_90 i hi)).trans ((jkp i eσ314 (imp_91 i hi)).trans ((jkp i eσ313 (imp_92 i hi)).trans (jkp i eσ312 (imp_93 i hi))))))))), p346, trivial⟩ hP hS dX1_grow_202
          · have kc350 := jnle c350 rfl rfl
            refine lv_iload hx hb dX1_grow_108 (lv_at hl 0 rfl) ?_
            refine lv_sipush (v := 350) hx hb dX1_grow_110 (by decide) ?_
            refine lv_icmp_ge (tgt := 202) hx hb dX1_grow_113 (by decide) (fun c => absurd (jle c jz_350 rfl) (by omega)) (fun c351 => ?_)
            have kc351 := jnle c351 jz_350 rfl
            refine lv_aload_n hx hb dX1_grow_116 rfl (lv_at hl 3 rfl) ?_
            refine va_get (D := D) hx hb hts inlX1 hown hK hP 31 (jc_31 cI cL ad σ339 τ) rfl 2 (by decide) (hts _ kw_5_3) (fun _ h9 => h9) rfl dX1_grow_117 ?_
            refine lv_iload hx hb dX1_grow_120 (lv_at hl 0 rfl) ?_
            refine jald hx hb hK hP (jc_32 cI cL ad σ339 τ) (jin rfl (by omega) (by omega)) dX1_grow_122 ?_
            refine lv_topi (fun x352 ex352 => ?_)
            refine lv_ldc (v := 134217727) hx hb hown (hts _ kw_28_10) dX1_grow_123 ?_
            refine lv_iand hx hb dX1_grow_125 ?_
            refine lv_topi (fun x353 ex353 => ?_)
            have gx353 := jrg (rfl : x353.toInt = x353.toInt)
            have g354 : 0 ≤ x353.toInt ∧ x353.toInt ≤ 134217727 := jmask ex353 27 (by decide) (by decide)
            refine lv_istore (lv' := [(6, .int x353), (5, .int x335), (4, .int 0), (3, .int x8), (0, .ref (ad 31)), (1, .int a1), (2, .int a2)]) hx hb dX1_grow_126 hl (by decide) rfl (fun ls hl => ?_)
            refine lv_aload_n hx hb dX1_grow_128 rfl (lv_at hl 4 rfl) ?_
            refine va_get (D := D) hx hb hts inlX1 hown hK hP 31 (jc_31 cI cL ad σ339 τ) rfl 2 (by decide) (hts _ kw_5_3) (fun _ h9 => h9) rfl dX1_grow_129 ?_
            refine lv_iload hx hb dX1_grow_132 (lv_at hl 1 rfl) ?_
            refine jald hx hb hK hP (jc_32 cI cL ad σ339 τ) (jin rfl (by omega) (by omega)) dX1_grow_134 ?_
            refine lv_topi (fun x355 ex355 => ?_)
            refine lv_bipush (v := 27) hx hb dX1_grow_135 (by decide) ?_
            refine lv_ishr hx hb dX1_grow_137 ?_
            refine lv_topi (fun x356 ex356 => ?_)
            have gx356 := jrg (rfl : x356.toInt = x356.toInt)
            refine lv_istore (lv' := [(7, .int x356), (6, .int x353), (5, .int x335), (4, .int 0), (3, .int x8), (0, .ref (ad 31)), (1, .int a1), (2, .int a2)]) hx hb dX1_grow_138 hl (by decide) rfl (fun ls hl => ?_)
            refine lv_iconst (v := 0) hx hb dX1_grow_140 (by decide) ?_
            refine lv_istore (lv' := [(8, .int 0), (7, .int x356), (6, .int x353), (5, .int x335), (4, .int 0), (3, .int x8), (0, .ref (ad 31)), (1, .int a1), (2, .int a2)]) hx hb dX1_grow_141 hl (by decide) rfl (fun ls hl => ?_)
            have lp357 : ∀ (n358 : Nat) (x359 : Int32) (σ360 : Nat → Nat → Int32) (H : Heap) (locs : List Loc) (ls : Array Slot), (-x359.toInt + 4 : Int) < n358 → 0 ≤ x359.toInt → x359.toInt ≤ 4 → (∀ i : Nat, (i < 31 ∨ 33 < i) ∧ (i < 36 ∨ 37 < i) → σ360 i = σ339 i) → (∀ k : Nat, (k < 8 ∨ 8 < k) → σ360 31 k = σ339 31 k) → jI31 σ360 → jH D cI cL ad σ360 τ H → va_S (jA ad) s.heap H locs → lv_has ls 9 [(8, .int x359), (7, .int x356), (6, .int x353), (5, .int x335), (4, .int 0), (3, .int x8), (0, .ref (ad 31)), (1, .int a1), (2, .int a2)] → W p l e ({ frames := 3, cells := 0, slots := 0, locals := 73 }) s m args below meth c H locs 0 0 Q (F0 m 143 ls []) := by
              intro n358
              induction n358 with
              | zero => intro x359 σ360 H locs ls h362 h363 h364; exact absurd h362 (by omega)
              | succ n358 ihlp357 =>
                intro x359 σ360 H locs ls h362 h363 h364 f365 f366 p367 hP hS hl
                obtain ⟨i368, w369, w370⟩ : (0 ≤ (σ360 31 8).toInt ∧ (σ360 31 8).toInt ≤ 350) ∧ (∀ k : Nat, k < 1400 → (-1) ≤ (σ360 33 k).toInt ∧ (σ360 33 k).toInt ≤ 350) ∧ (∀ k : Nat, k < 1024 → 0 ≤ (σ360 36 k).toInt ∧ (σ360 36 k).toInt ≤ 349) := id p367
                refine lv_iload hx hb dX1_grow_143 (lv_at hl 0 rfl) ?_
                refine lv_iconst (v := 4) hx hb dX1_grow_145 (by decide) ?_
                refine lv_icmp_ge (tgt := 196) hx hb dX1_grow_146 (by decide) (fun c371 => ?_) (fun c371 => ?_)
                · have kc371 := jle c371 jz_4 rfl
                  obtain ⟨x372, ex372⟩ : ∃ y : Int32, y = x335 + 1 := ⟨_, rfl⟩
                  have tx372 : x372.toInt = x335.toInt + 1 := (jadd ex372 rfl jz_1 (by omega) (by omega)).trans (by omega)
                  refine lv_iinc (v := x372) (lv' := [(5, .int x372), (8, .int x359), (7, .int x356), (6, .int x353), (4, .int 0), (3, .int x8), (0, .ref (ad 31)), (1, .int a1), (2, .int a2)]) hx hb dX1_grow_196 hl (k := 3) rfl (by rw [ex372]; rfl) (by decide) rfl (fun ls hl => ?_)
                  refine lv_goto (tgt := 99) hx hb dX1_grow_199 (by decide) ?_
                  exact ihlp333 x372 σ360 _ _ ls (by have h90 := tx372; omega) (by have h90 := tx372; omega) (by have h90 := tx372; omega) (fun i hi => ((f365 i hi).trans (f344 i hi))) (fun i hi => ((f366 i hi).trans (f345 i hi)))  p367 hP hS (lv_sub hl [0, 4, 5, 6, 7, 8] rfl)
                · have kc371 := jnle c371 jz_4 rfl
                  refine lv_aload_n hx hb dX1_grow_149 rfl (lv_at hl 6 rfl) ?_
                  refine va_get (D := D) hx hb hts inlX1 hown hK hP 31 (jc_31 cI cL ad σ360 τ) rfl 3 (by decide) (hts _ kw_5_4) (fun _ h9 => h9) rfl dX1_grow_150 ?_
                  refine lv_iload hx hb dX1_grow_153 (lv_at hl 3 rfl) ?_
                  refine lv_iconst (v := 4) hx hb dX1_grow_155 (by decide) ?_
                  have g373 := jrg (rfl : x335.toInt = x335.toInt)
                  refine lv_imul hx hb dX1_grow_156 ?_
                  refine lv_topi (fun x374 ex374 => ?_)
                  have tx374 : x374.toInt = 4 * x335.toInt := (jmul ex374 rfl jz_4 (by omega) (by omega)).trans (by omega)
                  refine lv_iload hx hb dX1_grow_157 (lv_at hl 0 rfl) ?_
                  have g375 := jrg (rfl : x359.toInt = x359.toInt)
                  refine lv_iadd hx hb dX1_grow_159 ?_
                  refine lv_topi (fun x376 ex376 => ?_)
                  have tx376 : x376.toInt = 4 * x335.toInt + x359.toInt := (jadd ex376 tx374 rfl (by omega) (by omega)).trans (by omega)
                  refine lv_iload hx hb dX1_grow_160 (lv_at hl 2 rfl) ?_
                  refine lv_iload hx hb dX1_grow_162 (lv_at hl 0 rfl) ?_
                  refine jcallS (As := [.int x353, .int x359]) (rest := [.int x376, .ref (ad 33)]) ⟨hx, hb, hml, hown, hts⟩ hK hP hA hS hZ (c_X0_mayBowl l D cI cL ad zz hJ σ360 τ x353 (x353.toInt) rfl x359 (x359.toInt) rfl) cw_RX1_115 ⟨Nat.le_of_ble_eq_true rfl, Nat.le_of_ble_eq_true rfl⟩ rfl rfl rfl hl.1 rfl (Nat.le_of_ble_eq_true rfl) dX1_grow_164 ⟨Nat.zero_le _, Nat.zero_le _⟩ (fun r378 σ377 τ377 H locs h377 hP hS => ?_)
                  obtain ⟨⟨rfl, rfl⟩, h377⟩ := h377
                  refine lv_if_eq (tgt := 188) hx hb dX1_grow_167 (by decide) (fun c379 => ?_) (fun c379 => ?_)
                  · have kc379 := jeq c379 rfl jz_0
                    refine lv_iconst (v := (-1)) hx hb dX1_grow_188 (by decide) ?_
                    refine jast hx hb hK hP hJ hA hS (jc_33 cI cL ad σ360 τ) (ja_33 cI cL ad σ360 τ _ _) (jin tx376 (by omega) (by omega)) dX1_grow_189 (fun σ380 H locs eσ380 hP hS => ?_)
                    obtain ⟨x381, ex381⟩ : ∃ y : Int32, y = x359 + 1 := ⟨_, rfl⟩
                    have tx381 : x381.toInt = x359.toInt + 1 := (jadd ex381 rfl jz_1 (by omega) (by omega)).trans (by omega)
                    refine lv_iinc (v := x381) (lv' := [(8, .int x381), (7, .int x356), (6, .int x353), (5, .int x335), (4, .int 0), (3, .int x8), (0, .ref (ad 31)), (1, .int a1), (2, .int a2)]) hx hb dX1_grow_190 hl (k := 0) rfl (by rw [ex381]; rfl) (by decide) rfl (fun ls hl => ?_)
                    refine lv_goto (tgt := 143) hx hb dX1_grow_193 (by decide) ?_
                    have z382 : (σ380 31 8).toInt = (σ360 31 8).toInt := (congrArg Int32.toInt (show σ380 31 8 = (σ360 31 8) from (congrFun (jnp 31 eσ380 (by decide)) 8)))
                    have w383 : ∀ k : Nat, k < 1400 → (-1) ≤ (σ380 33 k).toInt ∧ (σ380 33 k).toInt ≤ 350 := (by rw [eσ380]; exact jrr_up w369 (by have h9 := jz_m1; omega) (by have h9 := jz_m1; omega))
                    have w384 : ∀ k : Nat, k < 1024 → 0 ≤ (σ380 36 k).toInt ∧ (σ380 36 k).toInt ≤ 349 := (jrr_fr (jnp 36 eσ380 (by decide)) w370)
                    have I385 : jI31 σ380 := ⟨(by omega), w383, w384⟩
                    exact ihlp357 x381 σ380 _ _ ls (by have h90 := tx381; omega) (by have h90 := tx381; omega) (by have h90 := tx381; omega) (fun i hi => ((jnp i eσ380 (imp_94 i hi)).trans (f365 i hi))) (fun i hi => ((congrFun (jnp 31 eσ380 (by decide)) i).trans (f366 i hi)))  I385 hP hS (lv_sub hl [0, 1, 2, 3, 4, 5, 6, 7, 8] rfl)
                  · have kc379 := jne c379 rfl jz_0
                    refine lv_aload_n hx hb dX1_grow_170 rfl (lv_at hl 6 rfl) ?_
                    refine lv_iload hx hb dX1_grow_171 (lv_at hl 2 rfl) ?_
                    refine lv_iload hx hb dX1_grow_173 (lv_at hl 0 rfl) ?_
                    refine jcallS (As := [.int x353, .int x359]) (rest := [.ref (ad 31), .int x376, .ref (ad 33)]) ⟨hx, hb, hml, hown, hts⟩ hK hP hA hS hZ (c_X0_after l D cI cL ad zz hJ σ360 τ x353 (x353.toInt) rfl x359 (x359.toInt) rfl) cw_RX1_119 ⟨Nat.le_of_ble_eq_true rfl, Nat.le_of_ble_eq_true rfl⟩ rfl rfl rfl hl.1 rfl (Nat.le_of_ble_eq_true rfl) dX1_grow_175 ⟨Nat.zero_le _, Nat.zero_le _⟩ (fun r387 σ386 τ386 H locs h386 hP hS => ?_)
                    obtain ⟨⟨rfl, rfl⟩, h386⟩ := h386
                    refine lv_iload hx hb dX1_grow_178 (lv_at hl 1 rfl) ?_
                    refine lv_iconst (v := 1) hx hb dX1_grow_180 (by decide) ?_
                    have g388 := jrg (rfl : x356.toInt = x356.toInt)
                    refine lv_iadd hx hb dX1_grow_181 ?_
                    refine lv_topi (fun x389 ex389 => ?_)
                    have gx389 := jrg (rfl : x389.toInt = x389.toInt)
                    refine jcallV (As := [.int r387, .int x389]) (rest := [.int x376, .ref (ad 33)]) ⟨hx, hb, hml, hown, hts⟩ hK hP hA hS hZ (c_X1_add_31 l D cI cL ad zz hJ σ360 τ r387 (r387.toInt) rfl x389 (x389.toInt) rfl p367) cw_RX1_111 (jc_31 cI cL ad σ360 τ) rfl ⟨Nat.le_of_ble_eq_true rfl, Nat.le_of_ble_eq_true rfl⟩ rfl rfl rfl hl.1 rfl (Nat.le_of_ble_eq_true rfl) dX1_grow_182 ⟨Nat.zero_le _, Nat.zero_le _⟩ (fun r391 σ390 τ390 H locs h390 hP hS => ?_)
                    obtain ⟨rfl, f392, f393, I394, h390⟩ := h390
                    obtain ⟨i396, w397, w398⟩ : (0 ≤ (σ390 31 8).toInt ∧ (σ390 31 8).toInt ≤ 350) ∧ (∀ k : Nat, k < 1400 → (-1) ≤ (σ390 33 k).toInt ∧ (σ390 33 k).toInt ≤ 350) ∧ (∀ k : Nat, k < 1024 → 0 ≤ (σ390 36 k).toInt ∧ (σ390 36 k).toInt ≤ 349) := id I394
                    have h399 := h390
                    obtain ⟨q401, k400⟩ := h399
                    refine lv_goto (tgt := 189) hx hb dX1_grow_185 (by decide) ?_
                    refine jast hx hb hK hP hJ hA hS (jc_33 cI cL ad σ390 τ) (ja_33 cI cL ad σ390 τ _ _) (jin tx376 (by omega) (by omega)) dX1_grow_189 (fun σ402 H locs eσ402 hP hS => ?_)
                    obtain ⟨x403, ex403⟩ : ∃ y : Int32, y = x359 + 1 := ⟨_, rfl⟩
                    have tx403 : x403.toInt = x359.toInt + 1 := (jadd ex403 rfl jz_1 (by omega) (by omega)).trans (by omega)
                    refine lv_iinc (v := x403) (lv' := [(8, .int x403), (7, .int x356), (6, .int x353), (5, .int x335), (4, .int 0), (3, .int x8), (0, .ref (ad 31)), (1, .int a1), (2, .int a2)]) hx hb dX1_grow_190 hl (k := 0) rfl (by rw [ex403]; rfl) (by decide) rfl (fun ls hl => ?_)
                    refine lv_goto (tgt := 143) hx hb dX1_grow_193 (by decide) ?_
                    have z404 : (σ402 31 8).toInt = (σ390 31 8).toInt := (congrArg Int32.toInt (show σ402 31 8 = (σ390 31 8) from (congrFun (jnp 31 eσ402 (by decide)) 8)))
                    have w405 : ∀ k : Nat, k < 1400 → (-1) ≤ (σ402 33 k).toInt ∧ (σ402 33 k).toInt ≤ 350 := (by rw [eσ402]; exact jrr_up w397 (by omega) (by omega))
                    have w406 : ∀ k : Nat, k < 1024 → 0 ≤ (σ402 36 k).toInt ∧ (σ402 36 k).toInt ≤ 349 := (jrr_fr (jnp 36 eσ402 (by decide)) w398)
                    have I407 : jI31 σ402 := ⟨(by omega), w405, w406⟩
                    exact ihlp357 x403 σ402 _ _ ls (by have h90 := tx403; omega) (by have h90 := tx403; omega) (by have h90 := tx403; omega) (fun i hi => ((jnp i eσ402 (imp_94 i hi)).trans ((f392 i (imp_86 i hi)).trans (f365 i hi)))) (fun i hi => ((congrFun (jnp 31 eσ402 (by decide)) i).trans ((f393 i hi).trans (f366 i hi))))  I407 hP hS (lv_sub hl [0, 1, 2, 3, 4, 5, 6, 7, 8] rfl)
            exact lp357 1000000 0 σ339 _ _ ls (by have h90 := jz_0; omega) (by have h90 := jz_0; omega) (by have h90 := jz_0; omega) (fun _ _ => rfl) (fun _ _ => rfl)  p346 hP hS hl
      exact lp333 1000000 0 σ321 _ _ ls (by have h90 := jz_0; omega) (by have h90 := jz_0; omega) (by have h90 := jz_0; omega) (fun _ _ => rfl) (fun _ _ => rfl)  I325 hP hS hl
    · have kc311 := jeq c311 rfl t1
      refine lv_aload_n hx hb dX1_grow_40 rfl (lv_at hl 2 rfl) ?_
      refine va_get (D := D) hx hb hts inlX1 hown hK hP 31 (jc_31 cI cL ad σ τ) rfl 11 (by decide) (hts _ kw_28_7) (fun _ h9 => h9) rfl dX1_grow_41 ?_
      refine lv_iload_n hx hb dX1_grow_44 rfl (lv_at hl 1 rfl) ?_
      refine lv_icmp_ne (tgt := 63) hx hb dX1_grow_45 (by decide) (fun c408 => ?_) (fun c408 => ?_)
      · have kc408 := jne c408 rfl rfl
        refine lv_aload_n hx hb dX1_grow_63 rfl (lv_at hl 2 rfl) ?_
        refine lv_iload_n hx hb dX1_grow_64 rfl (lv_at hl 3 rfl) ?_
        refine jput (ty := .int) hx hb hts inlX1 tyX1 tyX1_ok nmX1 hown hK hP hJ hA hS (jc_31 cI cL ad σ τ) rfl (k := 9) (by decide) (Nat.le_of_ble_eq_true rfl) (jp_31_9 cI cL ad σ τ a1) (hts _ kw_5_9) (fun _ h9 => h9) rfl (by decide +kernel) rfl rfl dX1_grow_65 (fun σ409 H locs eσ409 hP hS => ?_)
        refine lv_aload_n hx hb dX1_grow_68 rfl (lv_at hl 2 rfl) ?_
        refine lv_iload_n hx hb dX1_grow_69 rfl (lv_at hl 4 rfl) ?_
        refine jput (ty := .int) hx hb hts inlX1 tyX1 tyX1_ok nmX1 hown hK hP hJ hA hS (jc_31 cI cL ad σ409 τ) rfl (k := 10) (by decide) (Nat.le_of_ble_eq_true rfl) (jp_31_10 cI cL ad σ409 τ a2) (hts _ kw_28_9) (fun _ h9 => h9) rfl (by decide +kernel) rfl rfl dX1_grow_70 (fun σ410 H locs eσ410 hP hS => ?_)
        refine lv_aload_n hx hb dX1_grow_73 rfl (lv_at hl 2 rfl) ?_
        refine lv_iload_n hx hb dX1_grow_74 rfl (lv_at hl 1 rfl) ?_
        refine jput (ty := .int) hx hb hts inlX1 tyX1 tyX1_ok nmX1 hown hK hP hJ hA hS (jc_31 cI cL ad σ410 τ) rfl (k := 11) (by decide) (Nat.le_of_ble_eq_true rfl) (jp_31_11 cI cL ad σ410 τ x8) (hts _ kw_28_7) (fun _ h9 => h9) rfl (by decide +kernel) rfl rfl dX1_grow_75 (fun σ411 H locs eσ411 hP hS => ?_)
        refine lv_aload_n hx hb dX1_grow_78 rfl (lv_at hl 2 rfl) ?_
        refine lv_iload hx hb dX1_grow_79 (lv_at hl 0 rfl) ?_
        refine jput (ty := .boolean) hx hb hts inlX1 tyX1 tyX1_ok nmX1 hown hK hP hJ hA hS (jc_31 cI cL ad σ411 τ) rfl (k := 12) (by decide) (Nat.le_of_ble_eq_true rfl) (jp_31_12 cI cL ad σ411 τ 0) (hts _ kw_28_8) (fun _ h9 => h9) rfl (by decide +kernel) rfl rfl dX1_grow_81 (fun σ412 H locs eσ412 hP hS => ?_)
        refine lv_aload_n hx hb dX1_grow_84 rfl (lv_at hl 2 rfl) ?_
        refine lv_iconst (v := 0) hx hb dX1_grow_85 (by decide) ?_
        refine jput (ty := .int) hx hb hts inlX1 tyX1 tyX1_ok nmX1 hown hK hP hJ hA hS (jc_31 cI cL ad σ412 τ) rfl (k := 8) (by decide) (Nat.le_of_ble_eq_true rfl) (jp_31_8 cI cL ad σ412 τ 0) (hts _ kw_27_22) (fun _ h9 => h9) rfl (by decide +kernel) rfl rfl dX1_grow_86 (fun σ413 H locs eσ413 hP hS => ?_)
        refine lv_aload_n hx hb dX1_grow_89 rfl (lv_at hl 2 rfl) ?_
        refine lv_iload_n hx hb dX1_grow_90 rfl (lv_at hl 3 rfl) ?_
        refine lv_iconst (v := 0) hx hb dX1_grow_91 (by decide) ?_
        have z414 : (σ413 31 8).toInt = 0 := ((congrArg Int32.toInt (show σ413 31 8 = 0 from (jsp eσ413))).trans jz_0)
        have w415 : ∀ k : Nat, k < 1400 → (-1) ≤ (σ413 33 k).toInt ∧ (σ413 33 k).toInt ≤ 350 := (jrr_fr (jnp 33 eσ413 (by decide)) (jrr_fr (jnp 33 eσ412 (by decide)) (jrr_fr (jnp 33 eσ411 (by decide)) (jrr_fr (jnp 33 eσ410 (by decide)) (jrr_fr (jnp 33 eσ409 (by decide)) w2)))))
        have w416 : ∀ k : Nat, k < 1024 → 0 ≤ (σ413 36 k).toInt ∧ (σ413 36 k).toInt ≤ 349 := (jrr_fr (jnp 36 eσ413 (by decide)) (jrr_fr (jnp 36 eσ412 (by decide)) (jrr_fr (jnp 36 eσ411 (by decide)) (jrr_fr (jnp 36 eσ410 (by decide)) (jrr_fr (jnp 36 eσ409 (by decide)) w3)))))
        have I417 : jI31 σ413 := ⟨(by omega), w415, w416⟩
        refine jcallV (As := [.int a1, .int 0]) (rest := []) ⟨hx, hb, hml, hown, hts⟩ hK hP hA hS hZ (c_X1_add_31 l D cI cL ad zz hJ σ413 τ a1 (A1) t1 0 (0) jz_0 I417) cw_RX1_111 (jc_31 cI cL ad σ413 τ) rfl ⟨Nat.le_of_ble_eq_true rfl, Nat.le_of_ble_eq_true rfl⟩ rfl rfl rfl hl.1 rfl (Nat.le_of_ble_eq_true rfl) dX1_grow_92 ⟨Nat.zero_le _, Nat.zero_le _⟩ (fun r419 σ418 τ418 H locs h418 hP hS => ?_)
        obtain ⟨rfl, f420, f421, I422, h418⟩ := h418
        obtain ⟨i424, w425, w426⟩ : (0 ≤ (σ418 31 8).toInt ∧ (σ418 31 8).toInt ≤ 350) ∧ (∀ k : Nat, k < 1400 → (-1) ≤ (σ418 33 k).toInt ∧ (σ418 33 k).toInt ≤ 350) ∧ (∀ k : Nat, k < 1024 → 0 ≤ (σ418 36 k).toInt ∧ (σ418 36 k).toInt ≤ 349) := id I422
        have h427 := h418
        obtain ⟨q429, k428⟩ := h427
        refine lv_pop hx hb dX1_grow_95 rfl ?_
        refine lv_iconst (v := 0) hx hb dX1_grow_96 (by decide) ?_
        refine lv_istore (lv' := [(5, .int 0), (4, .int 0), (3, .int x8), (0, .ref (ad 31)), (1, .int a1), (2, .int a2)]) hx hb dX1_grow_97 hl (by decide) rfl (fun ls hl => ?_)
        have lp430 : ∀ (n431 : Nat) (x432 : Int32) (σ436 : Nat → Nat → Int32) (H : Heap) (locs : List Loc) (ls : Array Slot), (-x432.toInt + 350 : Int) < n431 → 0 ≤ x432.toInt → x432.toInt ≤ 350 → (∀ i : Nat, (i < 31 ∨ 33 < i) ∧ (i < 36 ∨ 37 < i) → σ436 i = σ418 i) → (∀ k : Nat, (k < 8 ∨ 8 < k) → σ436 31 k = σ418 31 k) → jI31 σ436 → jH D cI cL ad σ436 τ H → va_S (jA ad) s.heap H locs → lv_has ls 9 [(5, .int x432), (4, .int 0), (3, .int x8), (0, .ref (ad 31)), (1, .int a1), (2, .int a2)] → W p l e ({ frames := 3, cells := 0, slots := 0, locals := 73 }) s m args below meth c H locs 0 0 Q (F0 m 99 ls []) := by
          intro n431
          induction n431 with
          | zero => intro x432 σ436 H locs ls h438 h439 h440; exact absurd h438 (by omega)
          | succ n431 ihlp430 =>
            intro x432 σ436 H locs ls h438 h439 h440 f441 f442 p443 hP hS hl
            obtain ⟨i444, w445, w446⟩ : (0 ≤ (σ436 31 8).toInt ∧ (σ436 31 8).toInt ≤ 350) ∧ (∀ k : Nat, k < 1400 → (-1) ≤ (σ436 33 k).toInt ∧ (σ436 33 k).toInt ≤ 350) ∧ (∀ k : Nat, k < 1024 → 0 ≤ (σ436 36 k).toInt ∧ (σ436 36 k).toInt ≤ 349) := id p443
            refine lv_iload hx hb dX1_grow_99 (lv_at hl 0 rfl) ?_
            refine lv_aload_n hx hb dX1_grow_101 rfl (lv_at hl 3 rfl) ?_
            refine va_get (D := D) hx hb hts inlX1 hown hK hP 31 (jc_31 cI cL ad σ436 τ) rfl 8 (by decide) (hts _ kw_27_22) (fun _ h9 => h9) rfl dX1_grow_102 ?_
            refine lv_icmp_ge (tgt := 202) hx hb dX1_grow_105 (by decide) (fun c447 => ?_) (fun c447 => ?_)
            · have kc447 := jle c447 rfl rfl
              exact hret σ436 τ _ _ _ _ ⟨rfl, (fun i hi => ((f441 i hi).trans ((f420 i (imp_86 i hi)).trans ((jnp i eσ413 (imp_87 i hi)).trans ((jnp i eσ412 (imp_87 i hi)).trans ((jnp i eσ411 (imp_87 i hi)).trans ((jnp i eσ410 (imp_87 i hi)).trans (jnp i eσ409 (imp_87 i hi))))))))), (fun i hi => ((f442 i (imp_88 i hi)).trans ((f421 i (imp_88 i hi)).trans ((jkp i eσ413 (imp_89 i hi)).trans ((jkp i eσ412 (imp_90 i hi)).trans ((jkp i eσ411 (imp_91 i hi)).trans ((jkp i eσ410 (imp_92 i hi)).trans (jkp i eσ409 (imp_93 i hi))))))))), p443, trivial⟩ hP hS dX1_grow_202
            · have kc447 := jnle c447 rfl rfl
              refine lv_iload hx hb dX1_grow_108 (lv_at hl 0 rfl) ?_
              refine lv_sipush (v := 350) hx hb dX1_grow_110 (by decide) ?_
              refine lv_icmp_ge (tgt := 202) hx hb dX1_grow_113 (by decide) (fun c => absurd (jle c jz_350 rfl) (by omega)) (fun c448 => ?_)
              have kc448 := jnle c448 jz_350 rfl
              refine lv_aload_n hx hb dX1_grow_116 rfl (lv_at hl 3 rfl) ?_
              refine va_get (D := D) hx hb hts inlX1 hown hK hP 31 (jc_31 cI cL ad σ436 τ) rfl 2 (by decide) (hts _ kw_5_3) (fun _ h9 => h9) rfl dX1_grow_117 ?_
              refine lv_iload hx hb dX1_grow_120 (lv_at hl 0 rfl) ?_
              refine jald hx hb hK hP (jc_32 cI cL ad σ436 τ) (jin rfl (by omega) (by omega)) dX1_grow_122 ?_
              refine lv_topi (fun x449 ex449 => ?_)
              refine lv_ldc (v := 134217727) hx hb hown (hts _ kw_28_10) dX1_grow_123 ?_
              refine lv_iand hx hb dX1_grow_125 ?_
              refine lv_topi (fun x450 ex450 => ?_)
              have gx450 := jrg (rfl : x450.toInt = x450.toInt)
              have g451 : 0 ≤ x450.toInt ∧ x450.toInt ≤ 134217727 := jmask ex450 27 (by decide) (by decide)
              refine lv_istore (lv' := [(6, .int x450), (5, .int x432), (4, .int 0), (3, .int x8), (0, .ref (ad 31)), (1, .int a1), (2, .int a2)]) hx hb dX1_grow_126 hl (by decide) rfl (fun ls hl => ?_)
              refine lv_aload_n hx hb dX1_grow_128 rfl (lv_at hl 4 rfl) ?_
              refine va_get (D := D) hx hb hts inlX1 hown hK hP 31 (jc_31 cI cL ad σ436 τ) rfl 2 (by decide) (hts _ kw_5_3) (fun _ h9 => h9) rfl dX1_grow_129 ?_
              refine lv_iload hx hb dX1_grow_132 (lv_at hl 1 rfl) ?_
              refine jald hx hb hK hP (jc_32 cI cL ad σ436 τ) (jin rfl (by omega) (by omega)) dX1_grow_134 ?_
              refine lv_topi (fun x452 ex452 => ?_)
              refine lv_bipush (v := 27) hx hb dX1_grow_135 (by decide) ?_
              refine lv_ishr hx hb dX1_grow_137 ?_
              refine lv_topi (fun x453 ex453 => ?_)
              have gx453 := jrg (rfl : x453.toInt = x453.toInt)
              refine lv_istore (lv' := [(7, .int x453), (6, .int x450), (5, .int x432), (4, .int 0), (3, .int x8), (0, .ref (ad 31)), (1, .int a1), (2, .int a2)]) hx hb dX1_grow_138 hl (by decide) rfl (fun ls hl => ?_)
              refine lv_iconst (v := 0) hx hb dX1_grow_140 (by decide) ?_
              refine lv_istore (lv' := [(8, .int 0), (7, .int x453), (6, .int x450), (5, .int x432), (4, .int 0), (3, .int x8), (0, .ref (ad 31)), (1, .int a1), (2, .int a2)]) hx hb dX1_grow_141 hl (by decide) rfl (fun ls hl => ?_)
              have lp454 : ∀ (n455 : Nat) (x456 : Int32) (σ457 : Nat → Nat → Int32) (H : Heap) (locs : List Loc) (ls : Array Slot), (-x456.toInt + 4 : Int) < n455 → 0 ≤ x456.toInt → x456.toInt ≤ 4 → (∀ i : Nat, (i < 31 ∨ 33 < i) ∧ (i < 36 ∨ 37 < i) → σ457 i = σ436 i) → (∀ k : Nat, (k < 8 ∨ 8 < k) → σ457 31 k = σ436 31 k) → jI31 σ457 → jH D cI cL ad σ457 τ H → va_S (jA ad) s.heap H locs → lv_has ls 9 [(8, .int x456), (7, .int x453), (6, .int x450), (5, .int x432), (4, .int 0), (3, .int x8), (0, .ref (ad 31)), (1, .int a1), (2, .int a2)] → W p l e ({ frames := 3, cells := 0, slots := 0, locals := 73 }) s m args below meth c H locs 0 0 Q (F0 m 143 ls []) := by
                intro n455
                induction n455 with
                | zero => intro x456 σ457 H locs ls h459 h460 h461; exact absurd h459 (by omega)
                | succ n455 ihlp454 =>
                  intro x456 σ457 H locs ls h459 h460 h461 f462 f463 p464 hP hS hl
                  obtain ⟨i465, w466, w467⟩ : (0 ≤ (σ457 31 8).toInt ∧ (σ457 31 8).toInt ≤ 350) ∧ (∀ k : Nat, k < 1400 → (-1) ≤ (σ457 33 k).toInt ∧ (σ457 33 k).toInt ≤ 350) ∧ (∀ k : Nat, k < 1024 → 0 ≤ (σ457 36 k).toInt ∧ (σ457 36 k).toInt ≤ 349) := id p464
                  refine lv_iload hx hb dX1_grow_143 (lv_at hl 0 rfl) ?_
                  refine lv_iconst (v := 4) hx hb dX1_grow_145 (by decide) ?_
                  refine lv_icmp_ge (tgt := 196) hx hb dX1_grow_146 (by decide) (fun c468 => ?_) (fun c468 => ?_)
                  · have kc468 := jle c468 jz_4 rfl
                    obtain ⟨x469, ex469⟩ : ∃ y : Int32, y = x432 + 1 := ⟨_, rfl⟩
                    have tx469 : x469.toInt = x432.toInt + 1 := (jadd ex469 rfl jz_1 (by omega) (by omega)).trans (by omega)
                    refine lv_iinc (v := x469) (lv' := [(5, .int x469), (8, .int x456), (7, .int x453), (6, .int x450), (4, .int 0), (3, .int x8), (0, .ref (ad 31)), (1, .int a1), (2, .int a2)]) hx hb dX1_grow_196 hl (k := 3) rfl (by rw [ex469]; rfl) (by decide) rfl (fun ls hl => ?_)
                    refine lv_goto (tgt := 99) hx hb dX1_grow_199 (by decide) ?_
                    exact ihlp430 x469 σ457 _ _ ls (by have h90 := tx469; omega) (by have h90 := tx469; omega) (by have h90 := tx469; omega) (fun i hi => ((f462 i hi).trans (f441 i hi))) (fun i hi => ((f463 i hi).trans (f442 i hi)))  p464 hP hS (lv_sub hl [0, 4, 5, 6, 7, 8] rfl)
                  · have kc468 := jnle c468 jz_4 rfl
                    refine lv_aload_n hx hb dX1_grow_149 rfl (lv_at hl 6 rfl) ?_
                    refine va_get (D := D) hx hb hts inlX1 hown hK hP 31 (jc_31 cI cL ad σ457 τ) rfl 3 (by decide) (hts _ kw_5_4) (fun _ h9 => h9) rfl dX1_grow_150 ?_
                    refine lv_iload hx hb dX1_grow_153 (lv_at hl 3 rfl) ?_
                    refine lv_iconst (v := 4) hx hb dX1_grow_155 (by decide) ?_
                    have g470 := jrg (rfl : x432.toInt = x432.toInt)
                    refine lv_imul hx hb dX1_grow_156 ?_
                    refine lv_topi (fun x471 ex471 => ?_)
                    have tx471 : x471.toInt = 4 * x432.toInt := (jmul ex471 rfl jz_4 (by omega) (by omega)).trans (by omega)
                    refine lv_iload hx hb dX1_grow_157 (lv_at hl 0 rfl) ?_
                    have g472 := jrg (rfl : x456.toInt = x456.toInt)
                    refine lv_iadd hx hb dX1_grow_159 ?_
                    refine lv_topi (fun x473 ex473 => ?_)
                    have tx473 : x473.toInt = 4 * x432.toInt + x456.toInt := (jadd ex473 tx471 rfl (by omega) (by omega)).trans (by omega)
                    refine lv_iload hx hb dX1_grow_160 (lv_at hl 2 rfl) ?_
                    refine lv_iload hx hb dX1_grow_162 (lv_at hl 0 rfl) ?_
                    refine jcallS (As := [.int x450, .int x456]) (rest := [.int x473, .ref (ad 33)]) ⟨hx, hb, hml, hown, hts⟩ hK hP hA hS hZ (c_X0_mayBowl l D cI cL ad zz hJ σ457 τ x450 (x450.toInt) rfl x456 (x456.toInt) rfl) cw_RX1_115 ⟨Nat.le_of_ble_eq_true rfl, Nat.le_of_ble_eq_true rfl⟩ rfl rfl rfl hl.1 rfl (Nat.le_of_ble_eq_true rfl) dX1_grow_164 ⟨Nat.zero_le _, Nat.zero_le _⟩ (fun r475 σ474 τ474 H locs h474 hP hS => ?_)
                    obtain ⟨⟨rfl, rfl⟩, h474⟩ := h474
                    refine lv_if_eq (tgt := 188) hx hb dX1_grow_167 (by decide) (fun c476 => ?_) (fun c476 => ?_)
                    · have kc476 := jeq c476 rfl jz_0
                      refine lv_iconst (v := (-1)) hx hb dX1_grow_188 (by decide) ?_
                      refine jast hx hb hK hP hJ hA hS (jc_33 cI cL ad σ457 τ) (ja_33 cI cL ad σ457 τ _ _) (jin tx473 (by omega) (by omega)) dX1_grow_189 (fun σ477 H locs eσ477 hP hS => ?_)
                      obtain ⟨x478, ex478⟩ : ∃ y : Int32, y = x456 + 1 := ⟨_, rfl⟩
                      have tx478 : x478.toInt = x456.toInt + 1 := (jadd ex478 rfl jz_1 (by omega) (by omega)).trans (by omega)
                      refine lv_iinc (v := x478) (lv' := [(8, .int x478), (7, .int x453), (6, .int x450), (5, .int x432), (4, .int 0), (3, .int x8), (0, .ref (ad 31)), (1, .int a1), (2, .int a2)]) hx hb dX1_grow_190 hl (k := 0) rfl (by rw [ex478]; rfl) (by decide) rfl (fun ls hl => ?_)
                      refine lv_goto (tgt := 143) hx hb dX1_grow_193 (by decide) ?_
                      have z479 : (σ477 31 8).toInt = (σ457 31 8).toInt := (congrArg Int32.toInt (show σ477 31 8 = (σ457 31 8) from (congrFun (jnp 31 eσ477 (by decide)) 8)))
                      have w480 : ∀ k : Nat, k < 1400 → (-1) ≤ (σ477 33 k).toInt ∧ (σ477 33 k).toInt ≤ 350 := (by rw [eσ477]; exact jrr_up w466 (by have h9 := jz_m1; omega) (by have h9 := jz_m1; omega))
                      have w481 : ∀ k : Nat, k < 1024 → 0 ≤ (σ477 36 k).toInt ∧ (σ477 36 k).toInt ≤ 349 := (jrr_fr (jnp 36 eσ477 (by decide)) w467)
                      have I482 : jI31 σ477 := ⟨(by omega), w480, w481⟩
                      exact ihlp454 x478 σ477 _ _ ls (by have h90 := tx478; omega) (by have h90 := tx478; omega) (by have h90 := tx478; omega) (fun i hi => ((jnp i eσ477 (imp_94 i hi)).trans (f462 i hi))) (fun i hi => ((congrFun (jnp 31 eσ477 (by decide)) i).trans (f463 i hi)))  I482 hP hS (lv_sub hl [0, 1, 2, 3, 4, 5, 6, 7, 8] rfl)
                    · have kc476 := jne c476 rfl jz_0
                      refine lv_aload_n hx hb dX1_grow_170 rfl (lv_at hl 6 rfl) ?_
                      refine lv_iload hx hb dX1_grow_171 (lv_at hl 2 rfl) ?_
                      refine lv_iload hx hb dX1_grow_173 (lv_at hl 0 rfl) ?_
                      refine jcallS (As := [.int x450, .int x456]) (rest := [.ref (ad 31), .int x473, .ref (ad 33)]) ⟨hx, hb, hml, hown, hts⟩ hK hP hA hS hZ (c_X0_after l D cI cL ad zz hJ σ457 τ x450 (x450.toInt) rfl x456 (x456.toInt) rfl) cw_RX1_119 ⟨Nat.le_of_ble_eq_true rfl, Nat.le_of_ble_eq_true rfl⟩ rfl rfl rfl hl.1 rfl (Nat.le_of_ble_eq_true rfl) dX1_grow_175 ⟨Nat.zero_le _, Nat.zero_le _⟩ (fun r484 σ483 τ483 H locs h483 hP hS => ?_)
                      obtain ⟨⟨rfl, rfl⟩, h483⟩ := h483
                      refine lv_iload hx hb dX1_grow_178 (lv_at hl 1 rfl) ?_
                      refine lv_iconst (v := 1) hx hb dX1_grow_180 (by decide) ?_
                      have g485 := jrg (rfl : x453.toInt = x453.toInt)
                      refine lv_iadd hx hb dX1_grow_181 ?_
                      refine lv_topi (fun x486 ex486 => ?_)
                      have gx486 := jrg (rfl : x486.toInt = x486.toInt)
                      refine jcallV (As := [.int r484, .int x486]) (rest := [.int x473, .ref (ad 33)]) ⟨hx, hb, hml, hown, hts⟩ hK hP hA hS hZ (c_X1_add_31 l D cI cL ad zz hJ σ457 τ r484 (r484.toInt) rfl x486 (x486.toInt) rfl p464) cw_RX1_111 (jc_31 cI cL ad σ457 τ) rfl ⟨Nat.le_of_ble_eq_true rfl, Nat.le_of_ble_eq_true rfl⟩ rfl rfl rfl hl.1 rfl (Nat.le_of_ble_eq_true rfl) dX1_grow_182 ⟨Nat.zero_le _, Nat.zero_le _⟩ (fun r488 σ487 τ487 H locs h487 hP hS => ?_)
                      obtain ⟨rfl, f489, f490, I491, h487⟩ := h487
                      obtain ⟨i493, w494, w495⟩ : (0 ≤ (σ487 31 8).toInt ∧ (σ487 31 8).toInt ≤ 350) ∧ (∀ k : Nat, k < 1400 → (-1) ≤ (σ487 33 k).toInt ∧ (σ487 33 k).toInt ≤ 350) ∧ (∀ k : Nat, k < 1024 → 0 ≤ (σ487 36 k).toInt ∧ (σ487 36 k).toInt ≤ 349) := id I491
                      have h496 := h487
                      obtain ⟨q498, k497⟩ := h496
                      refine lv_goto (tgt := 189) hx hb dX1_grow_185 (by decide) ?_
                      refine jast hx hb hK hP hJ hA hS (jc_33 cI cL ad σ487 τ) (ja_33 cI cL ad σ487 τ _ _) (jin tx473 (by omega) (by omega)) dX1_grow_189 (fun σ499 H locs eσ499 hP hS => ?_)
                      obtain ⟨x500, ex500⟩ : ∃ y : Int32, y = x456 + 1 := ⟨_, rfl⟩
                      have tx500 : x500.toInt = x456.toInt + 1 := (jadd ex500 rfl jz_1 (by omega) (by omega)).trans (by omega)
                      refine lv_iinc (v := x500) (lv' := [(8, .int x500), (7, .int x453), (6, .int x450), (5, .int x432), (4, .int 0), (3, .int x8), (0, .ref (ad 31)), (1, .int a1), (2, .int a2)]) hx hb dX1_grow_190 hl (k := 0) rfl (by rw [ex500]; rfl) (by decide) rfl (fun ls hl => ?_)
                      refine lv_goto (tgt := 143) hx hb dX1_grow_193 (by decide) ?_
                      have z501 : (σ499 31 8).toInt = (σ487 31 8).toInt := (congrArg Int32.toInt (show σ499 31 8 = (σ487 31 8) from (congrFun (jnp 31 eσ499 (by decide)) 8)))
                      have w502 : ∀ k : Nat, k < 1400 → (-1) ≤ (σ499 33 k).toInt ∧ (σ499 33 k).toInt ≤ 350 := (by rw [eσ499]; exact jrr_up w494 (by omega) (by omega))
                      have w503 : ∀ k : Nat, k < 1024 → 0 ≤ (σ499 36 k).toInt ∧ (σ499 36 k).toInt ≤ 349 := (jrr_fr (jnp 36 eσ499 (by decide)) w495)
                      have I504 : jI31 σ499 := ⟨(by omega), w502, w503⟩
                      exact ihlp454 x500 σ499 _ _ ls (by have h90 := tx500; omega) (by have h90 := tx500; omega) (by have h90 := tx500; omega) (fun i hi => ((jnp i eσ499 (imp_94 i hi)).trans ((f489 i (imp_86 i hi)).trans (f462 i hi)))) (fun i hi => ((congrFun (jnp 31 eσ499 (by decide)) i).trans ((f490 i hi).trans (f463 i hi))))  I504 hP hS (lv_sub hl [0, 1, 2, 3, 4, 5, 6, 7, 8] rfl)
              exact lp454 1000000 0 σ436 _ _ ls (by have h90 := jz_0; omega) (by have h90 := jz_0; omega) (by have h90 := jz_0; omega) (fun _ _ => rfl) (fun _ _ => rfl)  p443 hP hS hl
        exact lp430 1000000 0 σ418 _ _ ls (by have h90 := jz_0; omega) (by have h90 := jz_0; omega) (by have h90 := jz_0; omega) (fun _ _ => rfl) (fun _ _ => rfl)  I422 hP hS hl
      · have kc408 := jeq c408 rfl rfl
        refine lv_aload_n hx hb dX1_grow_48 rfl (lv_at hl 2 rfl) ?_
        refine va_get (D := D) hx hb hts inlX1 hown hK hP 31 (jc_31 cI cL ad σ τ) rfl 12 (by decide) (hts _ kw_28_8) (fun _ h9 => h9) rfl dX1_grow_49 ?_
        refine lv_iload hx hb dX1_grow_52 (lv_at hl 0 rfl) ?_
        refine lv_icmp_ne (tgt := 63) hx hb dX1_grow_54 (by decide) (fun c505 => ?_) (fun c505 => ?_)
        · have kc505 := jne c505 rfl jz_0
          refine lv_aload_n hx hb dX1_grow_63 rfl (lv_at hl 2 rfl) ?_
          refine lv_iload_n hx hb dX1_grow_64 rfl (lv_at hl 3 rfl) ?_
          refine jput (ty := .int) hx hb hts inlX1 tyX1 tyX1_ok nmX1 hown hK hP hJ hA hS (jc_31 cI cL ad σ τ) rfl (k := 9) (by decide) (Nat.le_of_ble_eq_true rfl) (jp_31_9 cI cL ad σ τ a1) (hts _ kw_5_9) (fun _ h9 => h9) rfl (by decide +kernel) rfl rfl dX1_grow_65 (fun σ506 H locs eσ506 hP hS => ?_)
          refine lv_aload_n hx hb dX1_grow_68 rfl (lv_at hl 2 rfl) ?_
          refine lv_iload_n hx hb dX1_grow_69 rfl (lv_at hl 4 rfl) ?_
          refine jput (ty := .int) hx hb hts inlX1 tyX1 tyX1_ok nmX1 hown hK hP hJ hA hS (jc_31 cI cL ad σ506 τ) rfl (k := 10) (by decide) (Nat.le_of_ble_eq_true rfl) (jp_31_10 cI cL ad σ506 τ a2) (hts _ kw_28_9) (fun _ h9 => h9) rfl (by decide +kernel) rfl rfl dX1_grow_70 (fun σ507 H locs eσ507 hP hS => ?_)
          refine lv_aload_n hx hb dX1_grow_73 rfl (lv_at hl 2 rfl) ?_
          refine lv_iload_n hx hb dX1_grow_74 rfl (lv_at hl 1 rfl) ?_
          refine jput (ty := .int) hx hb hts inlX1 tyX1 tyX1_ok nmX1 hown hK hP hJ hA hS (jc_31 cI cL ad σ507 τ) rfl (k := 11) (by decide) (Nat.le_of_ble_eq_true rfl) (jp_31_11 cI cL ad σ507 τ x8) (hts _ kw_28_7) (fun _ h9 => h9) rfl (by decide +kernel) rfl rfl dX1_grow_75 (fun σ508 H locs eσ508 hP hS => ?_)
          refine lv_aload_n hx hb dX1_grow_78 rfl (lv_at hl 2 rfl) ?_
          refine lv_iload hx hb dX1_grow_79 (lv_at hl 0 rfl) ?_
          refine jput (ty := .boolean) hx hb hts inlX1 tyX1 tyX1_ok nmX1 hown hK hP hJ hA hS (jc_31 cI cL ad σ508 τ) rfl (k := 12) (by decide) (Nat.le_of_ble_eq_true rfl) (jp_31_12 cI cL ad σ508 τ 0) (hts _ kw_28_8) (fun _ h9 => h9) rfl (by decide +kernel) rfl rfl dX1_grow_81 (fun σ509 H locs eσ509 hP hS => ?_)
          refine lv_aload_n hx hb dX1_grow_84 rfl (lv_at hl 2 rfl) ?_
          refine lv_iconst (v := 0) hx hb dX1_grow_85 (by decide) ?_
          refine jput (ty := .int) hx hb hts inlX1 tyX1 tyX1_ok nmX1 hown hK hP hJ hA hS (jc_31 cI cL ad σ509 τ) rfl (k := 8) (by decide) (Nat.le_of_ble_eq_true rfl) (jp_31_8 cI cL ad σ509 τ 0) (hts _ kw_27_22) (fun _ h9 => h9) rfl (by decide +kernel) rfl rfl dX1_grow_86 (fun σ510 H locs eσ510 hP hS => ?_)
          refine lv_aload_n hx hb dX1_grow_89 rfl (lv_at hl 2 rfl) ?_
          refine lv_iload_n hx hb dX1_grow_90 rfl (lv_at hl 3 rfl) ?_
          refine lv_iconst (v := 0) hx hb dX1_grow_91 (by decide) ?_
          have z511 : (σ510 31 8).toInt = 0 := ((congrArg Int32.toInt (show σ510 31 8 = 0 from (jsp eσ510))).trans jz_0)
          have w512 : ∀ k : Nat, k < 1400 → (-1) ≤ (σ510 33 k).toInt ∧ (σ510 33 k).toInt ≤ 350 := (jrr_fr (jnp 33 eσ510 (by decide)) (jrr_fr (jnp 33 eσ509 (by decide)) (jrr_fr (jnp 33 eσ508 (by decide)) (jrr_fr (jnp 33 eσ507 (by decide)) (jrr_fr (jnp 33 eσ506 (by decide)) w2)))))
          have w513 : ∀ k : Nat, k < 1024 → 0 ≤ (σ510 36 k).toInt ∧ (σ510 36 k).toInt ≤ 349 := (jrr_fr (jnp 36 eσ510 (by decide)) (jrr_fr (jnp 36 eσ509 (by decide)) (jrr_fr (jnp 36 eσ508 (by decide)) (jrr_fr (jnp 36 eσ507 (by decide)) (jrr_fr (jnp 36 eσ506 (by decide)) w3)))))
          have I514 : jI31 σ510 := ⟨(by omega), w512, w513⟩
          refine jcallV (As := [.int a1, .int 0]) (rest := []) ⟨hx, hb, hml, hown, hts⟩ hK hP hA hS hZ (c_X1_add_31 l D cI cL ad zz hJ σ510 τ a1 (A1) t1 0 (0) jz_0 I514) cw_RX1_111 (jc_31 cI cL ad σ510 τ) rfl ⟨Nat.le_of_ble_eq_true rfl, Nat.le_of_ble_eq_true rfl⟩ rfl rfl rfl hl.1 rfl (Nat.le_of_ble_eq_true rfl) dX1_grow_92 ⟨Nat.zero_le _, Nat.zero_le _⟩ (fun r516 σ515 τ515 H locs h515 hP hS => ?_)
          obtain ⟨rfl, f517, f518, I519, h515⟩ := h515
          obtain ⟨i521, w522, w523⟩ : (0 ≤ (σ515 31 8).toInt ∧ (σ515 31 8).toInt ≤ 350) ∧ (∀ k : Nat, k < 1400 → (-1) ≤ (σ515 33 k).toInt ∧ (σ515 33 k).toInt ≤ 350) ∧ (∀ k : Nat, k < 1024 → 0 ≤ (σ515 36 k).toInt ∧ (σ515 36 k).toInt ≤ 349) := id I519
          have h524 := h515
          obtain ⟨q526, k525⟩ := h524
          refine lv_pop hx hb dX1_grow_95 rfl ?_
          refine lv_iconst (v := 0) hx hb dX1_grow_96 (by decide) ?_
          refine lv_istore (lv' := [(5, .int 0), (4, .int 0), (3, .int x8), (0, .ref (ad 31)), (1, .int a1), (2, .int a2)]) hx hb dX1_grow_97 hl (by decide) rfl (fun ls hl => ?_)
          have lp527 : ∀ (n528 : Nat) (x529 : Int32) (σ533 : Nat → Nat → Int32) (H : Heap) (locs : List Loc) (ls : Array Slot), (-x529.toInt + 350 : Int) < n528 → 0 ≤ x529.toInt → x529.toInt ≤ 350 → (∀ i : Nat, (i < 31 ∨ 33 < i) ∧ (i < 36 ∨ 37 < i) → σ533 i = σ515 i) → (∀ k : Nat, (k < 8 ∨ 8 < k) → σ533 31 k = σ515 31 k) → jI31 σ533 → jH D cI cL ad σ533 τ H → va_S (jA ad) s.heap H locs → lv_has ls 9 [(5, .int x529), (4, .int 0), (3, .int x8), (0, .ref (ad 31)), (1, .int a1), (2, .int a2)] → W p l e ({ frames := 3, cells := 0, slots := 0, locals := 73 }) s m args below meth c H locs 0 0 Q (F0 m 99 ls []) := by
            intro n528
            induction n528 with
            | zero => intro x529 σ533 H locs ls h535 h536 h537; exact absurd h535 (by omega)
            | succ n528 ihlp527 =>
              intro x529 σ533 H locs ls h535 h536 h537 f538 f539 p540 hP hS hl
              obtain ⟨i541, w542, w543⟩ : (0 ≤ (σ533 31 8).toInt ∧ (σ533 31 8).toInt ≤ 350) ∧ (∀ k : Nat, k < 1400 → (-1) ≤ (σ533 33 k).toInt ∧ (σ533 33 k).toInt ≤ 350) ∧ (∀ k : Nat, k < 1024 → 0 ≤ (σ533 36 k).toInt ∧ (σ533 36 k).toInt ≤ 349) := id p540
              refine lv_iload hx hb dX1_grow_99 (lv_at hl 0 rfl) ?_
              refine lv_aload_n hx hb dX1_grow_101 rfl (lv_at hl 3 rfl) ?_
              refine va_get (D := D) hx hb hts inlX1 hown hK hP 31 (jc_31 cI cL ad σ533 τ) rfl 8 (by decide) (hts _ kw_27_22) (fun _ h9 => h9) rfl dX1_grow_102 ?_
              refine lv_icmp_ge (tgt := 202) hx hb dX1_grow_105 (by decide) (fun c544 => ?_) (fun c544 => ?_)
              · have kc544 := jle c544 rfl rfl
                exact hret σ533 τ _ _ _ _ ⟨rfl, (fun i hi => ((f538 i hi).trans ((f517 i (imp_86 i hi)).trans ((jnp i eσ510 (imp_87 i hi)).trans ((jnp i eσ509 (imp_87 i hi)).trans ((jnp i eσ508 (imp_87 i hi)).trans ((jnp i eσ507 (imp_87 i hi)).trans (jnp i eσ506 (imp_87 i hi))))))))), (fun i hi => ((f539 i (imp_88 i hi)).trans ((f518 i (imp_88 i hi)).trans ((jkp i eσ510 (imp_89 i hi)).trans ((jkp i eσ509 (imp_90 i hi)).trans ((jkp i eσ508 (imp_91 i hi)).trans ((jkp i eσ507 (imp_92 i hi)).trans (jkp i eσ506 (imp_93 i hi))))))))), p540, trivial⟩ hP hS dX1_grow_202
              · have kc544 := jnle c544 rfl rfl
                refine lv_iload hx hb dX1_grow_108 (lv_at hl 0 rfl) ?_
                refine lv_sipush (v := 350) hx hb dX1_grow_110 (by decide) ?_
                refine lv_icmp_ge (tgt := 202) hx hb dX1_grow_113 (by decide) (fun c => absurd (jle c jz_350 rfl) (by omega)) (fun c545 => ?_)
                have kc545 := jnle c545 jz_350 rfl
                refine lv_aload_n hx hb dX1_grow_116 rfl (lv_at hl 3 rfl) ?_
                refine va_get (D := D) hx hb hts inlX1 hown hK hP 31 (jc_31 cI cL ad σ533 τ) rfl 2 (by decide) (hts _ kw_5_3) (fun _ h9 => h9) rfl dX1_grow_117 ?_
                refine lv_iload hx hb dX1_grow_120 (lv_at hl 0 rfl) ?_
                refine jald hx hb hK hP (jc_32 cI cL ad σ533 τ) (jin rfl (by omega) (by omega)) dX1_grow_122 ?_
                refine lv_topi (fun x546 ex546 => ?_)
                refine lv_ldc (v := 134217727) hx hb hown (hts _ kw_28_10) dX1_grow_123 ?_
                refine lv_iand hx hb dX1_grow_125 ?_
                refine lv_topi (fun x547 ex547 => ?_)
                have gx547 := jrg (rfl : x547.toInt = x547.toInt)
                have g548 : 0 ≤ x547.toInt ∧ x547.toInt ≤ 134217727 := jmask ex547 27 (by decide) (by decide)
                refine lv_istore (lv' := [(6, .int x547), (5, .int x529), (4, .int 0), (3, .int x8), (0, .ref (ad 31)), (1, .int a1), (2, .int a2)]) hx hb dX1_grow_126 hl (by decide) rfl (fun ls hl => ?_)
                refine lv_aload_n hx hb dX1_grow_128 rfl (lv_at hl 4 rfl) ?_
                refine va_get (D := D) hx hb hts inlX1 hown hK hP 31 (jc_31 cI cL ad σ533 τ) rfl 2 (by decide) (hts _ kw_5_3) (fun _ h9 => h9) rfl dX1_grow_129 ?_
                refine lv_iload hx hb dX1_grow_132 (lv_at hl 1 rfl) ?_
                refine jald hx hb hK hP (jc_32 cI cL ad σ533 τ) (jin rfl (by omega) (by omega)) dX1_grow_134 ?_
                refine lv_topi (fun x549 ex549 => ?_)
                refine lv_bipush (v := 27) hx hb dX1_grow_135 (by decide) ?_
                refine lv_ishr hx hb dX1_grow_137 ?_
                refine lv_topi (fun x550 ex550 => ?_)
                have gx550 := jrg (rfl : x550.toInt = x550.toInt)
                refine lv_istore (lv' := [(7, .int x550), (6, .int x547), (5, .int x529), (4, .int 0), (3, .int x8), (0, .ref (ad 31)), (1, .int a1), (2, .int a2)]) hx hb dX1_grow_138 hl (by decide) rfl (fun ls hl => ?_)
                refine lv_iconst (v := 0) hx hb dX1_grow_140 (by decide) ?_
                refine lv_istore (lv' := [(8, .int 0), (7, .int x550), (6, .int x547), (5, .int x529), (4, .int 0), (3, .int x8), (0, .ref (ad 31)), (1, .int a1), (2, .int a2)]) hx hb dX1_grow_141 hl (by decide) rfl (fun ls hl => ?_)
                have lp551 : ∀ (n552 : Nat) (x553 : Int32) (σ554 : Nat → Nat → Int32) (H : Heap) (locs : List Loc) (ls : Array Slot), (-x553.toInt + 4 : Int) < n552 → 0 ≤ x553.toInt → x553.toInt ≤ 4 → (∀ i : Nat, (i < 31 ∨ 33 < i) ∧ (i < 36 ∨ 37 < i) → σ554 i = σ533 i) → (∀ k : Nat, (k < 8 ∨ 8 < k) → σ554 31 k = σ533 31 k) → jI31 σ554 → jH D cI cL ad σ554 τ H → va_S (jA ad) s.heap H locs → lv_has ls 9 [(8, .int x553), (7, .int x550), (6, .int x547), (5, .int x529), (4, .int 0), (3, .int x8), (0, .ref (ad 31)), (1, .int a1), (2, .int a2)] → W p l e ({ frames := 3, cells := 0, slots := 0, locals := 73 }) s m args below meth c H locs 0 0 Q (F0 m 143 ls []) := by
                  intro n552
                  induction n552 with
                  | zero => intro x553 σ554 H locs ls h556 h557 h558; exact absurd h556 (by omega)
                  | succ n552 ihlp551 =>
                    intro x553 σ554 H locs ls h556 h557 h558 f559 f560 p561 hP hS hl
                    obtain ⟨i562, w563, w564⟩ : (0 ≤ (σ554 31 8).toInt ∧ (σ554 31 8).toInt ≤ 350) ∧ (∀ k : Nat, k < 1400 → (-1) ≤ (σ554 33 k).toInt ∧ (σ554 33 k).toInt ≤ 350) ∧ (∀ k : Nat, k < 1024 → 0 ≤ (σ554 36 k).toInt ∧ (σ554 36 k).toInt ≤ 349) := id p561
                    refine lv_iload hx hb dX1_grow_143 (lv_at hl 0 rfl) ?_
                    refine lv_iconst (v := 4) hx hb dX1_grow_145 (by decide) ?_
                    refine lv_icmp_ge (tgt := 196) hx hb dX1_grow_146 (by decide) (fun c565 => ?_) (fun c565 => ?_)
                    · have kc565 := jle c565 jz_4 rfl
                      obtain ⟨x566, ex566⟩ : ∃ y : Int32, y = x529 + 1 := ⟨_, rfl⟩
                      have tx566 : x566.toInt = x529.toInt + 1 := (jadd ex566 rfl jz_1 (by omega) (by omega)).trans (by omega)
                      refine lv_iinc (v := x566) (lv' := [(5, .int x566), (8, .int x553), (7, .int x550), (6, .int x547), (4, .int 0), (3, .int x8), (0, .ref (ad 31)), (1, .int a1), (2, .int a2)]) hx hb dX1_grow_196 hl (k := 3) rfl (by rw [ex566]; rfl) (by decide) rfl (fun ls hl => ?_)
                      refine lv_goto (tgt := 99) hx hb dX1_grow_199 (by decide) ?_
                      exact ihlp527 x566 σ554 _ _ ls (by have h90 := tx566; omega) (by have h90 := tx566; omega) (by have h90 := tx566; omega) (fun i hi => ((f559 i hi).trans (f538 i hi))) (fun i hi => ((f560 i hi).trans (f539 i hi)))  p561 hP hS (lv_sub hl [0, 4, 5, 6, 7, 8] rfl)
                    · have kc565 := jnle c565 jz_4 rfl
                      refine lv_aload_n hx hb dX1_grow_149 rfl (lv_at hl 6 rfl) ?_
                      refine va_get (D := D) hx hb hts inlX1 hown hK hP 31 (jc_31 cI cL ad σ554 τ) rfl 3 (by decide) (hts _ kw_5_4) (fun _ h9 => h9) rfl dX1_grow_150 ?_
                      refine lv_iload hx hb dX1_grow_153 (lv_at hl 3 rfl) ?_
                      refine lv_iconst (v := 4) hx hb dX1_grow_155 (by decide) ?_
                      have g567 := jrg (rfl : x529.toInt = x529.toInt)
                      refine lv_imul hx hb dX1_grow_156 ?_
                      refine lv_topi (fun x568 ex568 => ?_)
                      have tx568 : x568.toInt = 4 * x529.toInt := (jmul ex568 rfl jz_4 (by omega) (by omega)).trans (by omega)
                      refine lv_iload hx hb dX1_grow_157 (lv_at hl 0 rfl) ?_
                      have g569 := jrg (rfl : x553.toInt = x553.toInt)
                      refine lv_iadd hx hb dX1_grow_159 ?_
                      refine lv_topi (fun x570 ex570 => ?_)
                      have tx570 : x570.toInt = 4 * x529.toInt + x553.toInt := (jadd ex570 tx568 rfl (by omega) (by omega)).trans (by omega)
                      refine lv_iload hx hb dX1_grow_160 (lv_at hl 2 rfl) ?_
                      refine lv_iload hx hb dX1_grow_162 (lv_at hl 0 rfl) ?_
                      refine jcallS (As := [.int x547, .int x553]) (rest := [.int x570, .ref (ad 33)]) ⟨hx, hb, hml, hown, hts⟩ hK hP hA hS hZ (c_X0_mayBowl l D cI cL ad zz hJ σ554 τ x547 (x547.toInt) rfl x553 (x553.toInt) rfl) cw_RX1_115 ⟨Nat.le_of_ble_eq_true rfl, Nat.le_of_ble_eq_true rfl⟩ rfl rfl rfl hl.1 rfl (Nat.le_of_ble_eq_true rfl) dX1_grow_164 ⟨Nat.zero_le _, Nat.zero_le _⟩ (fun r572 σ571 τ571 H locs h571 hP hS => ?_)
                      obtain ⟨⟨rfl, rfl⟩, h571⟩ := h571
                      refine lv_if_eq (tgt := 188) hx hb dX1_grow_167 (by decide) (fun c573 => ?_) (fun c573 => ?_)
                      · have kc573 := jeq c573 rfl jz_0
                        refine lv_iconst (v := (-1)) hx hb dX1_grow_188 (by decide) ?_
                        refine jast hx hb hK hP hJ hA hS (jc_33 cI cL ad σ554 τ) (ja_33 cI cL ad σ554 τ _ _) (jin tx570 (by omega) (by omega)) dX1_grow_189 (fun σ574 H locs eσ574 hP hS => ?_)
                        obtain ⟨x575, ex575⟩ : ∃ y : Int32, y = x553 + 1 := ⟨_, rfl⟩
                        have tx575 : x575.toInt = x553.toInt + 1 := (jadd ex575 rfl jz_1 (by omega) (by omega)).trans (by omega)
                        refine lv_iinc (v := x575) (lv' := [(8, .int x575), (7, .int x550), (6, .int x547), (5, .int x529), (4, .int 0), (3, .int x8), (0, .ref (ad 31)), (1, .int a1), (2, .int a2)]) hx hb dX1_grow_190 hl (k := 0) rfl (by rw [ex575]; rfl) (by decide) rfl (fun ls hl => ?_)
                        refine lv_goto (tgt := 143) hx hb dX1_grow_193 (by decide) ?_
                        have z576 : (σ574 31 8).toInt = (σ554 31 8).toInt := (congrArg Int32.toInt (show σ574 31 8 = (σ554 31 8) from (congrFun (jnp 31 eσ574 (by decide)) 8)))
                        have w577 : ∀ k : Nat, k < 1400 → (-1) ≤ (σ574 33 k).toInt ∧ (σ574 33 k).toInt ≤ 350 := (by rw [eσ574]; exact jrr_up w563 (by have h9 := jz_m1; omega) (by have h9 := jz_m1; omega))
                        have w578 : ∀ k : Nat, k < 1024 → 0 ≤ (σ574 36 k).toInt ∧ (σ574 36 k).toInt ≤ 349 := (jrr_fr (jnp 36 eσ574 (by decide)) w564)
                        have I579 : jI31 σ574 := ⟨(by omega), w577, w578⟩
                        exact ihlp551 x575 σ574 _ _ ls (by have h90 := tx575; omega) (by have h90 := tx575; omega) (by have h90 := tx575; omega) (fun i hi => ((jnp i eσ574 (imp_94 i hi)).trans (f559 i hi))) (fun i hi => ((congrFun (jnp 31 eσ574 (by decide)) i).trans (f560 i hi)))  I579 hP hS (lv_sub hl [0, 1, 2, 3, 4, 5, 6, 7, 8] rfl)
                      · have kc573 := jne c573 rfl jz_0
                        refine lv_aload_n hx hb dX1_grow_170 rfl (lv_at hl 6 rfl) ?_
                        refine lv_iload hx hb dX1_grow_171 (lv_at hl 2 rfl) ?_
                        refine lv_iload hx hb dX1_grow_173 (lv_at hl 0 rfl) ?_
                        refine jcallS (As := [.int x547, .int x553]) (rest := [.ref (ad 31), .int x570, .ref (ad 33)]) ⟨hx, hb, hml, hown, hts⟩ hK hP hA hS hZ (c_X0_after l D cI cL ad zz hJ σ554 τ x547 (x547.toInt) rfl x553 (x553.toInt) rfl) cw_RX1_119 ⟨Nat.le_of_ble_eq_true rfl, Nat.le_of_ble_eq_true rfl⟩ rfl rfl rfl hl.1 rfl (Nat.le_of_ble_eq_true rfl) dX1_grow_175 ⟨Nat.zero_le _, Nat.zero_le _⟩ (fun r581 σ580 τ580 H locs h580 hP hS => ?_)
                        obtain ⟨⟨rfl, rfl⟩, h580⟩ := h580
                        refine lv_iload hx hb dX1_grow_178 (lv_at hl 1 rfl) ?_
                        refine lv_iconst (v := 1) hx hb dX1_grow_180 (by decide) ?_
                        have g582 := jrg (rfl : x550.toInt = x550.toInt)
                        refine lv_iadd hx hb dX1_grow_181 ?_
                        refine lv_topi (fun x583 ex583 => ?_)
                        have gx583 := jrg (rfl : x583.toInt = x583.toInt)
                        refine jcallV (As := [.int r581, .int x583]) (rest := [.int x570, .ref (ad 33)]) ⟨hx, hb, hml, hown, hts⟩ hK hP hA hS hZ (c_X1_add_31 l D cI cL ad zz hJ σ554 τ r581 (r581.toInt) rfl x583 (x583.toInt) rfl p561) cw_RX1_111 (jc_31 cI cL ad σ554 τ) rfl ⟨Nat.le_of_ble_eq_true rfl, Nat.le_of_ble_eq_true rfl⟩ rfl rfl rfl hl.1 rfl (Nat.le_of_ble_eq_true rfl) dX1_grow_182 ⟨Nat.zero_le _, Nat.zero_le _⟩ (fun r585 σ584 τ584 H locs h584 hP hS => ?_)
                        obtain ⟨rfl, f586, f587, I588, h584⟩ := h584
                        obtain ⟨i590, w591, w592⟩ : (0 ≤ (σ584 31 8).toInt ∧ (σ584 31 8).toInt ≤ 350) ∧ (∀ k : Nat, k < 1400 → (-1) ≤ (σ584 33 k).toInt ∧ (σ584 33 k).toInt ≤ 350) ∧ (∀ k : Nat, k < 1024 → 0 ≤ (σ584 36 k).toInt ∧ (σ584 36 k).toInt ≤ 349) := id I588
                        have h593 := h584
                        obtain ⟨q595, k594⟩ := h593
                        refine lv_goto (tgt := 189) hx hb dX1_grow_185 (by decide) ?_
                        refine jast hx hb hK hP hJ hA hS (jc_33 cI cL ad σ584 τ) (ja_33 cI cL ad σ584 τ _ _) (jin tx570 (by omega) (by omega)) dX1_grow_189 (fun σ596 H locs eσ596 hP hS => ?_)
                        obtain ⟨x597, ex597⟩ : ∃ y : Int32, y = x553 + 1 := ⟨_, rfl⟩
                        have tx597 : x597.toInt = x553.toInt + 1 := (jadd ex597 rfl jz_1 (by omega) (by omega)).trans (by omega)
                        refine lv_iinc (v := x597) (lv' := [(8, .int x597), (7, .int x550), (6, .int x547), (5, .int x529), (4, .int 0), (3, .int x8), (0, .ref (ad 31)), (1, .int a1), (2, .int a2)]) hx hb dX1_grow_190 hl (k := 0) rfl (by rw [ex597]; rfl) (by decide) rfl (fun ls hl => ?_)
                        refine lv_goto (tgt := 143) hx hb dX1_grow_193 (by decide) ?_
                        have z598 : (σ596 31 8).toInt = (σ584 31 8).toInt := (congrArg Int32.toInt (show σ596 31 8 = (σ584 31 8) from (congrFun (jnp 31 eσ596 (by decide)) 8)))
                        have w599 : ∀ k : Nat, k < 1400 → (-1) ≤ (σ596 33 k).toInt ∧ (σ596 33 k).toInt ≤ 350 := (by rw [eσ596]; exact jrr_up w591 (by omega) (by omega))
                        have w600 : ∀ k : Nat, k < 1024 → 0 ≤ (σ596 36 k).toInt ∧ (σ596 36 k).toInt ≤ 349 := (jrr_fr (jnp 36 eσ596 (by decide)) w592)
                        have I601 : jI31 σ596 := ⟨(by omega), w599, w600⟩
                        exact ihlp551 x597 σ596 _ _ ls (by have h90 := tx597; omega) (by have h90 := tx597; omega) (by have h90 := tx597; omega) (fun i hi => ((jnp i eσ596 (imp_94 i hi)).trans ((f586 i (imp_86 i hi)).trans (f559 i hi)))) (fun i hi => ((congrFun (jnp 31 eσ596 (by decide)) i).trans ((f587 i hi).trans (f560 i hi))))  I601 hP hS (lv_sub hl [0, 1, 2, 3, 4, 5, 6, 7, 8] rfl)
                exact lp551 1000000 0 σ533 _ _ ls (by have h90 := jz_0; omega) (by have h90 := jz_0; omega) (by have h90 := jz_0; omega) (fun _ _ => rfl) (fun _ _ => rfl)  p540 hP hS hl
          exact lp527 1000000 0 σ515 _ _ ls (by have h90 := jz_0; omega) (by have h90 := jz_0; omega) (by have h90 := jz_0; omega) (fun _ _ => rfl) (fun _ _ => rfl)  I519 hP hS hl
        · have kc505 := jeq c505 rfl jz_0
          refine lv_aload_n hx hb dX1_grow_57 rfl (lv_at hl 2 rfl) ?_
          refine lv_iload_n hx hb dX1_grow_58 rfl (lv_at hl 4 rfl) ?_
          refine jput (ty := .int) hx hb hts inlX1 tyX1 tyX1_ok nmX1 hown hK hP hJ hA hS (jc_31 cI cL ad σ τ) rfl (k := 10) (by decide) (Nat.le_of_ble_eq_true rfl) (jp_31_10 cI cL ad σ τ a2) (hts _ kw_28_9) (fun _ h9 => h9) rfl (by decide +kernel) rfl rfl dX1_grow_59 (fun σ602 H locs eσ602 hP hS => ?_)
          have I603 : jI31 σ602 := jI31_fr (jkp 8 eσ602 (by decide)) (jnp 33 eσ602 (by decide)) (jnp 36 eσ602 (by decide)) hI31
          exact hret σ602 τ _ _ _ _ ⟨rfl, (fun i hi => (jnp i eσ602 (imp_87 i hi))), (fun i hi => (jkp i eσ602 (imp_92 i hi))), I603, trivial⟩ hP hS dX1_grow_62
set_option maxHeartbeats 4000000 in
set_option maxRecDepth 100000 in
theorem c_X1_judge_31 (l : Launch) (D : va_G) (cI cL : ClassId) (ad zz : Nat → Nat) (hJ : jD ad) (σ : Nat → Nat → Int32) (τ : Nat → Nat → Int64) (a1 : Int32) (A1 : Int) (t1 : a1.toInt = A1) (a3 : Int32) (A3 : Int) (t3 : a3.toInt = A3) (a4 : Int32) (A4 : Int) (t4 : a4.toInt = A4) (hI16 : jI16 σ) (hI22 : jI22 σ) (hI31 : jI31 σ) (hp0 : 0 ≤ A1 ∧ A1 ≤ 349) : jMv l yX1_judge cX1_judge 18 none ({ frames := 3, cells := 0, slots := 0, locals := 76 }) D cI cL ad zz [.ref (ad 31), .int a1, .ref (ad 17), .int a3, .int a4] σ τ (fun σ' τ' => τ = τ' ∧ (∀ i : Nat, (i < 24 ∨ 25 < i) ∧ (i < 29 ∨ 30 < i) ∧ (i < 34 ∨ 35 < i) → σ' i = σ i) ∧ True) := by
  refine jMv.of hJ (by decide +kernel) rfl (Nat.le_of_ble_eq_true rfl) ?_
  intro p e s m args below meth c Q ls hC hret hl hP
  obtain ⟨hx, hb, hr, hml, hown, hts, hK, -, hlocks, hZ⟩ := hC
  have hown : s.vm.findClass RX1 = some m.cls := hown
  have hS : va_S (jA ad) s.heap s.heap [] := va_S.rf
  have hA : ∀ q, jA ad q → jA ad q := fun _ h => h
  have hl : lv_has ls 18 [(0, .ref (ad 31)), (1, .int a1), (2, .ref (ad 17)), (3, .int a3), (4, .int a4)] := hl
  have g1 := jrg t1
  have g3 := jrg t3
  have g4 := jrg t4
  obtain ⟨i1, i2, i3, w4⟩ : (1 ≤ (σ 16 0).toInt ∧ (σ 16 0).toInt ≤ 8) ∧ (1 ≤ (σ 16 1).toInt ∧ (σ 16 1).toInt ≤ 12) ∧ (0 ≤ (σ 16 2).toInt ∧ (σ 16 2).toInt ≤ 999) ∧ (∀ k : Nat, k < 8 → 0 ≤ (σ 17 k).toInt ∧ (σ 17 k).toInt ≤ 3) := id hI16
  obtain ⟨i5, w6, w7⟩ : (0 ≤ (σ 31 8).toInt ∧ (σ 31 8).toInt ≤ 350) ∧ (∀ k : Nat, k < 1400 → (-1) ≤ (σ 33 k).toInt ∧ (σ 33 k).toInt ≤ 350) ∧ (∀ k : Nat, k < 1024 → 0 ≤ (σ 36 k).toInt ∧ (σ 36 k).toInt ≤ 349) := id hI31
  refine lv_aload_n hx hb dX1_judge_0 rfl (lv_at hl 0 rfl) ?_
  refine va_get (D := D) hx hb hts inlX1 hown hK hP 31 (jc_31 cI cL ad σ τ) rfl 2 (by decide) (hts _ kw_5_3) (fun _ h9 => h9) rfl dX1_judge_1 ?_
  refine lv_iload_n hx hb dX1_judge_4 rfl (lv_at hl 1 rfl) ?_
  refine jald hx hb hK hP (jc_32 cI cL ad σ τ) (jin t1 (by omega) (by omega)) dX1_judge_5 ?_
  refine lv_topi (fun x8 ex8 => ?_)
  refine lv_ldc (v := 134217727) hx hb hown (hts _ kw_28_10) dX1_judge_6 ?_
  refine lv_iand hx hb dX1_judge_8 ?_
  refine lv_topi (fun x9 ex9 => ?_)
  have gx9 := jrg (rfl : x9.toInt = x9.toInt)
  have g10 : 0 ≤ x9.toInt ∧ x9.toInt ≤ 134217727 := jmask ex9 27 (by decide) (by decide)
  refine lv_istore (lv' := [(5, .int x9), (0, .ref (ad 31)), (1, .int a1), (2, .ref (ad 17)), (3, .int a3), (4, .int a4)]) hx hb dX1_judge_9 hl (by decide) rfl (fun ls hl => ?_)
  refine lv_aload_n hx hb dX1_judge_11 rfl (lv_at hl 1 rfl) ?_
  refine va_get (D := D) hx hb hts inlX1 hown hK hP 31 (jc_31 cI cL ad σ τ) rfl 2 (by decide) (hts _ kw_5_3) (fun _ h9 => h9) rfl dX1_judge_12 ?_
  refine lv_iload_n hx hb dX1_judge_15 rfl (lv_at hl 2 rfl) ?_
  refine jald hx hb hK hP (jc_32 cI cL ad σ τ) (jin t1 (by omega) (by omega)) dX1_judge_16 ?_
  refine lv_topi (fun x11 ex11 => ?_)
  refine lv_bipush (v := 27) hx hb dX1_judge_17 (by decide) ?_
  refine lv_ishr hx hb dX1_judge_19 ?_
  refine lv_topi (fun x12 ex12 => ?_)
  have gx12 := jrg (rfl : x12.toInt = x12.toInt)
  refine lv_istore (lv' := [(6, .int x12), (5, .int x9), (0, .ref (ad 31)), (1, .int a1), (2, .ref (ad 17)), (3, .int a3), (4, .int a4)]) hx hb dX1_judge_20 hl (by decide) rfl (fun ls hl => ?_)
  refine lv_iload_n hx hb dX1_judge_22 rfl (lv_at hl 3 rfl) ?_
  refine lv_bipush (v := 9) hx hb dX1_judge_23 (by decide) ?_
  refine lv_imul hx hb dX1_judge_25 ?_
  refine lv_topi (fun x13 ex13 => ?_)
  have tx13 : x13.toInt = 9 * A1 := (jmul ex13 t1 jz_9 (by omega) (by omega)).trans (by omega)
  refine lv_istore (lv' := [(7, .int x13), (6, .int x12), (5, .int x9), (0, .ref (ad 31)), (1, .int a1), (2, .ref (ad 17)), (3, .int a3), (4, .int a4)]) hx hb dX1_judge_26 hl (by decide) rfl (fun ls hl => ?_)
  refine lv_iconst (v := 0) hx hb dX1_judge_28 (by decide) ?_
  refine lv_iload_n hx hb dX1_judge_29 rfl (lv_at hl 6 rfl) ?_
  refine va_mmax hx hb (hml.trans hl.1.symm) hown (hts _ kw_28_5) (hts _ kw_21_0) (hts _ kw_21_1) (hts _ kw_21_2) (Nat.le_of_ble_eq_true rfl) (Nat.le_of_ble_eq_true rfl) (Nat.le_of_ble_eq_true rfl) (Nat.le_of_ble_eq_true rfl) dX1_judge_30 ?_
  refine lv_topi (fun x14 ex14 => ?_)
  have g15 := jmax ex14 jz_0 t3
  refine lv_istore (lv' := [(8, .int x14), (7, .int x13), (6, .int x12), (5, .int x9), (0, .ref (ad 31)), (1, .int a1), (2, .ref (ad 17)), (3, .int a3), (4, .int a4)]) hx hb dX1_judge_33 hl (by decide) rfl (fun ls hl => ?_)
  refine lv_iload hx hb dX1_judge_35 (lv_at hl 8 rfl) ?_
  refine lv_aload_n hx hb dX1_judge_37 rfl (lv_at hl 6 rfl) ?_
  refine jalen (v := 8) hx hb hK hP (jc_17 cI cL ad σ τ) (by decide) dX1_judge_38 ?_
  refine lv_iconst (v := 1) hx hb dX1_judge_39 (by decide) ?_
  refine lv_isub hx hb dX1_judge_40 ?_
  refine jtopr (y := 7) (by decide) ?_
  refine va_mmin hx hb (hml.trans hl.1.symm) hown (hts _ kw_28_4) (hts _ kw_22_11) (hts _ kw_21_1) (hts _ kw_22_12) (Nat.le_of_ble_eq_true rfl) (Nat.le_of_ble_eq_true rfl) (Nat.le_of_ble_eq_true rfl) (Nat.le_of_ble_eq_true rfl) dX1_judge_41 ?_
  refine lv_topi (fun x16 ex16 => ?_)
  have g17 := jmin ex16 t4 jz_7
  refine lv_iload_n hx hb dX1_judge_44 rfl (lv_at hl 7 rfl) ?_
  refine lv_iconst (v := 1) hx hb dX1_judge_45 (by decide) ?_
  refine lv_iadd hx hb dX1_judge_46 ?_
  refine lv_topi (fun x18 ex18 => ?_)
  have gx18 := jrg (rfl : x18.toInt = x18.toInt)
  refine lv_iload hx hb dX1_judge_47 (lv_at hl 2 rfl) ?_
  have g19 := jrg (rfl : x18.toInt = x18.toInt)
  have g20 := jrg (rfl : x12.toInt = x12.toInt)
  refine lv_iadd hx hb dX1_judge_49 ?_
  refine lv_topi (fun x21 ex21 => ?_)
  have gx21 := jrg (rfl : x21.toInt = x21.toInt)
  refine va_mmin hx hb (hml.trans hl.1.symm) hown (hts _ kw_28_4) (hts _ kw_22_11) (hts _ kw_21_1) (hts _ kw_22_12) (Nat.le_of_ble_eq_true rfl) (Nat.le_of_ble_eq_true rfl) (Nat.le_of_ble_eq_true rfl) (Nat.le_of_ble_eq_true rfl) dX1_judge_50 ?_
  refine lv_topi (fun x22 ex22 => ?_)
  have g23 := jmin ex22 rfl rfl
  refine lv_istore (lv' := [(9, .int x22), (8, .int x14), (7, .int x13), (6, .int x12), (5, .int x9), (0, .ref (ad 31)), (1, .int a1), (2, .ref (ad 17)), (3, .int a3), (4, .int a4)]) hx hb dX1_judge_53 hl (by decide) rfl (fun ls hl => ?_)
  refine lv_iload hx hb dX1_judge_55 (lv_at hl 1 rfl) ?_
  refine lv_istore (lv' := [(10, .int x14), (9, .int x22), (8, .int x14), (7, .int x13), (6, .int x12), (5, .int x9), (0, .ref (ad 31)), (1, .int a1), (2, .ref (ad 17)), (3, .int a3), (4, .int a4)]) hx hb dX1_judge_57 hl (by decide) rfl (fun ls hl => ?_)
  have lp24 : ∀ (n25 : Nat) (x26 : Int32) (σ27 : Nat → Nat → Int32) (H : Heap) (locs : List Loc) (ls : Array Slot), (-x26.toInt + 3000000000 : Int) < n25 → 0 ≤ x26.toInt → (∀ i : Nat, (i < 34 ∨ 35 < i) → σ27 i = σ i) → jH D cI cL ad σ27 τ H → va_S (jA ad) s.heap H locs → lv_has ls 18 [(10, .int x26), (9, .int x22), (8, .int x14), (7, .int x13), (6, .int x12), (5, .int x9), (0, .ref (ad 31)), (1, .int a1), (2, .ref (ad 17)), (3, .int a3), (4, .int a4)] → W p l e ({ frames := 3, cells := 0, slots := 0, locals := 76 }) s m args below meth c H locs 0 0 Q (F0 m 59 ls []) := by
    intro n25
    induction n25 with
    | zero => intro x26 σ27 H locs ls h29 h30; have gx26 := jrg (rfl : x26.toInt = x26.toInt); exact absurd h29 (by omega)
    | succ n25 ihlp24 =>
      intro x26 σ27 H locs ls h29 h30 f31 hP hS hl
      have gx26 := jrg (rfl : x26.toInt = x26.toInt)
      refine lv_iload hx hb dX1_judge_59 (lv_at hl 0 rfl) ?_
      refine lv_iload hx hb dX1_judge_61 (lv_at hl 1 rfl) ?_
      refine lv_icmp_gt (tgt := 94) hx hb dX1_judge_63 (by decide) (fun c32 => ?_) (fun c32 => ?_)
      · have kc32 := jlt c32 rfl rfl
        refine lv_aload_n hx hb dX1_judge_94 rfl (lv_at hl 6 rfl) ?_
        refine va_get (D := D) hx hb hts inlX1 hown hK hP 31 (jc_31 cI cL ad σ27 τ) rfl 4 (by decide) (hts _ kw_5_5) (fun _ h9 => h9) rfl dX1_judge_95 ?_
        refine lv_iload hx hb dX1_judge_98 (lv_at hl 3 rfl) ?_
        refine lv_aload_n hx hb dX1_judge_100 rfl (lv_at hl 6 rfl) ?_
        refine va_get (D := D) hx hb hts inlX1 hown hK hP 31 (jc_31 cI cL ad σ27 τ) rfl 1 (by decide) (hts _ kw_5_11) (fun _ h9 => h9) rfl dX1_judge_101 ?_
        refine va_get (D := D) hx hb hts inlX6 hown hK hP 16 (jc_16 cI cL ad σ27 τ) rfl 0 (by decide) (hts _ kw_27_17) (fun _ h9 => h9) rfl dX1_judge_104 ?_
        have m33 : σ27 16 0 = (σ 16 0) := (congrFun (f31 16 (by decide)) 0)
        refine jtopr m33 ?_
        have g34 := jrg (rfl : (σ 16 0).toInt = (σ 16 0).toInt)
        refine lv_iadd hx hb dX1_judge_107 ?_
        refine lv_topi (fun x35 ex35 => ?_)
        have tx35 : x35.toInt = 9 * A1 + (σ 16 0).toInt := (jadd ex35 tx13 rfl (by omega) (by omega)).trans (by omega)
        refine lv_iconst (v := 0) hx hb dX1_judge_108 (by decide) ?_
        refine jast hx hb hK hP hJ hA hS (jc_34 cI cL ad σ27 τ) (ja_34 cI cL ad σ27 τ _ _) (jin tx35 (by omega) (by omega)) dX1_judge_109 (fun σ36 H locs eσ36 hP hS => ?_)
        refine lv_iconst (v := 0) hx hb dX1_judge_110 (by decide) ?_
        refine lv_istore (lv' := [(10, .int 0), (9, .int x22), (8, .int x14), (7, .int x13), (6, .int x12), (5, .int x9), (0, .ref (ad 31)), (1, .int a1), (2, .ref (ad 17)), (3, .int a3), (4, .int a4)]) hx hb dX1_judge_111 hl (by decide) rfl (fun ls hl => ?_)
        have lp37 : ∀ (n38 : Nat) (x39 : Int32) (σ47 : Nat → Nat → Int32) (H : Heap) (locs : List Loc) (ls : Array Slot), (-x39.toInt + 4 : Int) < n38 → 0 ≤ x39.toInt → x39.toInt ≤ 4 → (∀ i : Nat, (i < 24 ∨ 25 < i) ∧ (i < 29 ∨ 30 < i) ∧ (i < 34 ∨ 35 < i) → σ47 i = σ36 i) → jH D cI cL ad σ47 τ H → va_S (jA ad) s.heap H locs → lv_has ls 18 [(10, .int x39), (9, .int x22), (8, .int x14), (7, .int x13), (6, .int x12), (5, .int x9), (0, .ref (ad 31)), (1, .int a1), (2, .ref (ad 17)), (3, .int a3), (4, .int a4)] → W p l e ({ frames := 3, cells := 0, slots := 0, locals := 76 }) s m args below meth c H locs 0 0 Q (F0 m 113 ls []) := by
          intro n38
          induction n38 with
          | zero => intro x39 σ47 H locs ls h49 h50 h51; exact absurd h49 (by omega)
          | succ n38 ihlp37 =>
            intro x39 σ47 H locs ls h49 h50 h51 f52 hP hS hl
            refine lv_iload hx hb dX1_judge_113 (lv_at hl 0 rfl) ?_
            refine lv_iconst (v := 4) hx hb dX1_judge_115 (by decide) ?_
            refine lv_icmp_ge (tgt := 316) hx hb dX1_judge_116 (by decide) (fun c53 => ?_) (fun c53 => ?_)
            · have kc53 := jle c53 jz_4 rfl
              exact hret σ47 τ _ _ _ _ ⟨rfl, (fun i hi => ((f52 i hi).trans ((jnp i eσ36 (imp_95 i hi)).trans (f31 i (imp_96 i hi))))), trivial⟩ hP hS dX1_judge_316
            · have kc53 := jnle c53 jz_4 rfl
              refine lv_aload_n hx hb dX1_judge_119 rfl (lv_at hl 6 rfl) ?_
              refine va_get (D := D) hx hb hts inlX1 hown hK hP 31 (jc_31 cI cL ad σ47 τ) rfl 3 (by decide) (hts _ kw_5_4) (fun _ h9 => h9) rfl dX1_judge_120 ?_
              refine lv_iload_n hx hb dX1_judge_123 rfl (lv_at hl 7 rfl) ?_
              refine lv_iconst (v := 4) hx hb dX1_judge_124 (by decide) ?_
              refine lv_imul hx hb dX1_judge_125 ?_
              refine lv_topi (fun x54 ex54 => ?_)
              have tx54 : x54.toInt = 4 * A1 := (jmul ex54 t1 jz_4 (by omega) (by omega)).trans (by omega)
              refine lv_iload hx hb dX1_judge_126 (lv_at hl 0 rfl) ?_
              have g55 := jrg (rfl : x39.toInt = x39.toInt)
              refine lv_iadd hx hb dX1_judge_128 ?_
              refine lv_topi (fun x56 ex56 => ?_)
              have tx56 : x56.toInt = 4 * A1 + x39.toInt := (jadd ex56 tx54 rfl (by omega) (by omega)).trans (by omega)
              refine jald hx hb hK hP (jc_33 cI cL ad σ47 τ) (jin tx56 (by omega) (by omega)) dX1_judge_129 ?_
              have w57 : ∀ k : Nat, k < 1400 → (-1) ≤ (σ47 33 k).toInt ∧ (σ47 33 k).toInt ≤ 350 := (jrr_fr (f52 33 (by decide)) (jrr_fr (jnp 33 eσ36 (by decide)) (jrr_fr (f31 33 (by decide)) w6)))
              have g58 := w57 _ (jnat (x := x56) tx56 (n := 1400) (by omega) (by decide))
              refine lv_topi (fun x59 ex59 => ?_)
              rw [← ex59] at g58
              refine lv_bipush (v := 9) hx hb dX1_judge_130 (by decide) ?_
              have g60 := jrg (rfl : x59.toInt = x59.toInt)
              refine lv_imul hx hb dX1_judge_132 ?_
              refine lv_topi (fun x61 ex61 => ?_)
              have tx61 : x61.toInt = 9 * x59.toInt := (jmul ex61 rfl jz_9 (by omega) (by omega)).trans (by omega)
              refine lv_istore (lv' := [(11, .int x61), (10, .int x39), (9, .int x22), (8, .int x14), (7, .int x13), (6, .int x12), (5, .int x9), (0, .ref (ad 31)), (1, .int a1), (2, .ref (ad 17)), (3, .int a3), (4, .int a4)]) hx hb dX1_judge_133 hl (by decide) rfl (fun ls hl => ?_)
              refine lv_iload hx hb dX1_judge_135 (lv_at hl 0 rfl) ?_
              refine lv_if_ge (tgt := 143) hx hb dX1_judge_137 (by decide) (fun c62 => ?_) (fun c62 => ?_)
              · have kc62 := jle c62 jz_0 tx61
                refine lv_iload hx hb dX1_judge_143 (lv_at hl 6 rfl) ?_
                refine lv_iload hx hb dX1_judge_145 (lv_at hl 1 rfl) ?_
                refine jcallS (As := [.int x9, .int x39]) (rest := []) ⟨hx, hb, hml, hown, hts⟩ hK hP hA hS hZ (c_X0_steps l D cI cL ad zz hJ σ47 τ x9 (x9.toInt) rfl x39 (x39.toInt) rfl) cw_RX1_136 ⟨Nat.le_of_ble_eq_true rfl, Nat.le_of_ble_eq_true rfl⟩ rfl rfl rfl hl.1 rfl (Nat.le_of_ble_eq_true rfl) dX1_judge_147 ⟨Nat.zero_le _, Nat.zero_le _⟩ (fun r64 σ63 τ63 H locs h63 hP hS => ?_)
                obtain ⟨⟨rfl, rfl⟩, h63⟩ := h63
                refine lv_istore (lv' := [(12, .int r64), (11, .int x61), (10, .int x39), (9, .int x22), (8, .int x14), (7, .int x13), (6, .int x12), (5, .int x9), (0, .ref (ad 31)), (1, .int a1), (2, .ref (ad 17)), (3, .int a3), (4, .int a4)]) hx hb dX1_judge_150 hl (by decide) rfl (fun ls hl => ?_)
                refine lv_iload hx hb dX1_judge_152 (lv_at hl 7 rfl) ?_
                refine lv_iload hx hb dX1_judge_154 (lv_at hl 2 rfl) ?_
                refine jcallS (As := [.int x9, .int x39]) (rest := []) ⟨hx, hb, hml, hown, hts⟩ hK hP hA hS hZ (c_X0_left l D cI cL ad zz hJ σ47 τ x9 (x9.toInt) rfl x39 (x39.toInt) rfl) cw_RX1_123 ⟨Nat.le_of_ble_eq_true rfl, Nat.le_of_ble_eq_true rfl⟩ rfl rfl rfl hl.1 rfl (Nat.le_of_ble_eq_true rfl) dX1_judge_156 ⟨Nat.zero_le _, Nat.zero_le _⟩ (fun r66 σ65 τ65 H locs h65 hP hS => ?_)
                obtain ⟨⟨rfl, rfl⟩, h65⟩ := h65
                refine lv_istore (lv' := [(13, .int r66), (12, .int r64), (11, .int x61), (10, .int x39), (9, .int x22), (8, .int x14), (7, .int x13), (6, .int x12), (5, .int x9), (0, .ref (ad 31)), (1, .int a1), (2, .ref (ad 17)), (3, .int a3), (4, .int a4)]) hx hb dX1_judge_159 hl (by decide) rfl (fun ls hl => ?_)
                refine lv_iload hx hb dX1_judge_161 (lv_at hl 5 rfl) ?_
                refine lv_istore (lv' := [(14, .int x14), (13, .int r66), (12, .int r64), (11, .int x61), (10, .int x39), (9, .int x22), (8, .int x14), (7, .int x13), (6, .int x12), (5, .int x9), (0, .ref (ad 31)), (1, .int a1), (2, .ref (ad 17)), (3, .int a3), (4, .int a4)]) hx hb dX1_judge_163 hl (by decide) rfl (fun ls hl => ?_)
                have lp67 : ∀ (n68 : Nat) (x69 : Int32) (σ73 : Nat → Nat → Int32) (H : Heap) (locs : List Loc) (ls : Array Slot), (-x69.toInt + 3000000000 : Int) < n68 → 0 ≤ x69.toInt → (∀ i : Nat, (i < 24 ∨ 25 < i) ∧ (i < 29 ∨ 30 < i) ∧ (i < 34 ∨ 35 < i) → σ73 i = σ47 i) → jH D cI cL ad σ73 τ H → va_S (jA ad) s.heap H locs → lv_has ls 18 [(14, .int x69), (13, .int r66), (12, .int r64), (11, .int x61), (10, .int x39), (9, .int x22), (8, .int x14), (7, .int x13), (6, .int x12), (5, .int x9), (0, .ref (ad 31)), (1, .int a1), (2, .ref (ad 17)), (3, .int a3), (4, .int a4)] → W p l e ({ frames := 3, cells := 0, slots := 0, locals := 76 }) s m args below meth c H locs 0 0 Q (F0 m 165 ls []) := by
                  intro n68
                  induction n68 with
                  | zero => intro x69 σ73 H locs ls h75 h76; have gx69 := jrg (rfl : x69.toInt = x69.toInt); exact absurd h75 (by omega)
                  | succ n68 ihlp67 =>
                    intro x69 σ73 H locs ls h75 h76 f77 hP hS hl
                    have gx69 := jrg (rfl : x69.toInt = x69.toInt)
                    refine lv_iload hx hb dX1_judge_165 (lv_at hl 0 rfl) ?_
                    refine lv_iload hx hb dX1_judge_167 (lv_at hl 5 rfl) ?_
                    refine lv_icmp_gt (tgt := 310) hx hb dX1_judge_169 (by decide) (fun c78 => ?_) (fun c78 => ?_)
                    · have kc78 := jlt c78 rfl rfl
                      obtain ⟨x79, ex79⟩ : ∃ y : Int32, y = x39 + 1 := ⟨_, rfl⟩
                      have tx79 : x79.toInt = x39.toInt + 1 := (jadd ex79 rfl jz_1 (by omega) (by omega)).trans (by omega)
                      refine lv_iinc (v := x79) (lv' := [(10, .int x79), (14, .int x69), (13, .int r66), (12, .int r64), (11, .int x61), (9, .int x22), (8, .int x14), (7, .int x13), (6, .int x12), (5, .int x9), (0, .ref (ad 31)), (1, .int a1), (2, .ref (ad 17)), (3, .int a3), (4, .int a4)]) hx hb dX1_judge_310 hl (k := 4) rfl (by rw [ex79]; rfl) (by decide) rfl (fun ls hl => ?_)
                      refine lv_goto (tgt := 113) hx hb dX1_judge_313 (by decide) ?_
                      exact ihlp37 x79 σ73 _ _ ls (by have h90 := tx79; omega) (by have h90 := tx79; omega) (by have h90 := tx79; omega) (fun i hi => ((f77 i hi).trans (f52 i hi)))    hP hS (lv_sub hl [0, 5, 6, 7, 8, 9, 10, 11, 12, 13, 14] rfl)
                    · have kc78 := jnlt c78 rfl rfl
                      refine lv_aload_n hx hb dX1_judge_172 rfl (lv_at hl 10 rfl) ?_
                      refine va_get (D := D) hx hb hts inlX1 hown hK hP 31 (jc_31 cI cL ad σ73 τ) rfl 0 (by decide) (hts _ kw_5_10) (fun _ h9 => h9) rfl dX1_judge_173 ?_
                      refine lv_iload hx hb dX1_judge_176 (lv_at hl 4 rfl) ?_
                      refine lv_aload_n hx hb dX1_judge_178 rfl (lv_at hl 12 rfl) ?_
                      refine lv_iload hx hb dX1_judge_179 (lv_at hl 0 rfl) ?_
                      refine jald hx hb hK hP (jc_17 cI cL ad σ73 τ) (jin rfl (by omega) (by omega)) dX1_judge_181 ?_
                      have w80 : ∀ k : Nat, k < 8 → 0 ≤ (σ73 17 k).toInt ∧ (σ73 17 k).toInt ≤ 3 := (jrr_fr (f77 17 (by decide)) (jrr_fr (f52 17 (by decide)) (jrr_fr (jnp 17 eσ36 (by decide)) (jrr_fr (f31 17 (by decide)) w4))))
                      have g81 := w80 _ (jnat (x := x69) rfl (n := 8) (by omega) (by decide))
                      refine lv_topi (fun x82 ex82 => ?_)
                      rw [← ex82] at g81
                      refine lv_iload hx hb dX1_judge_182 (lv_at hl 2 rfl) ?_
                      refine jcallV (As := [.int x39, .int x82, .int r64]) (rest := []) ⟨hx, hb, hml, hown, hts⟩ hK hP hA hS hZ (c_X5_runsOf_26 l D cI cL ad zz hJ σ73 τ x39 (x39.toInt) rfl x82 (x82.toInt) rfl r64 (r64.toInt) rfl) cw_RX1_139 (jc_26 cI cL ad σ73 τ) rfl ⟨Nat.le_of_ble_eq_true rfl, Nat.le_of_ble_eq_true rfl⟩ rfl rfl rfl hl.1 rfl (Nat.le_of_ble_eq_true rfl) dX1_judge_184 ⟨Nat.zero_le _, Nat.zero_le _⟩ (fun r84 σ83 τ83 H locs h83 hP hS => ?_)
                      obtain ⟨⟨rfl, rfl⟩, h83⟩ := h83
                      refine lv_istore (lv' := [(15, .int r84), (14, .int x69), (13, .int r66), (12, .int r64), (11, .int x61), (10, .int x39), (9, .int x22), (8, .int x14), (7, .int x13), (6, .int x12), (5, .int x9), (0, .ref (ad 31)), (1, .int a1), (2, .ref (ad 17)), (3, .int a3), (4, .int a4)]) hx hb dX1_judge_187 hl (by decide) rfl (fun ls hl => ?_)
                      refine lv_aload_n hx hb dX1_judge_189 rfl (lv_at hl 11 rfl) ?_
                      refine va_get (D := D) hx hb hts inlX1 hown hK hP 31 (jc_31 cI cL ad σ73 τ) rfl 0 (by decide) (hts _ kw_5_10) (fun _ h9 => h9) rfl dX1_judge_190 ?_
                      refine lv_iload hx hb dX1_judge_193 (lv_at hl 5 rfl) ?_
                      refine lv_aload_n hx hb dX1_judge_195 rfl (lv_at hl 13 rfl) ?_
                      refine lv_iload hx hb dX1_judge_196 (lv_at hl 1 rfl) ?_
                      refine jald hx hb hK hP (jc_17 cI cL ad σ73 τ) (jin rfl (by omega) (by omega)) dX1_judge_198 ?_
                      have g85 := w80 _ (jnat (x := x69) rfl (n := 8) (by omega) (by decide))
                      refine lv_topi (fun x86 ex86 => ?_)
                      rw [← ex86] at g85
                      refine lv_iload hx hb dX1_judge_199 (lv_at hl 3 rfl) ?_
                      refine lv_iload hx hb dX1_judge_201 (lv_at hl 2 rfl) ?_
                      refine lv_aload_n hx hb dX1_judge_203 rfl (lv_at hl 11 rfl) ?_
                      refine va_get (D := D) hx hb hts inlX1 hown hK hP 31 (jc_31 cI cL ad σ73 τ) rfl 10 (by decide) (hts _ kw_28_9) (fun _ h9 => h9) rfl dX1_judge_204 ?_
                      have m87 : σ73 31 10 = (σ 31 10) := ((congrFun (f77 31 (by decide)) 10).trans ((congrFun (f52 31 (by decide)) 10).trans ((congrFun (jnp 31 eσ36 (by decide)) 10).trans (congrFun (f31 31 (by decide)) 10))))
                      refine jtopr m87 ?_
                      refine lv_iload hx hb dX1_judge_207 (lv_at hl 9 rfl) ?_
                      have g88 := jrg (rfl : (σ 31 10).toInt = (σ 31 10).toInt)
                      refine lv_iadd hx hb dX1_judge_209 ?_
                      refine lv_topi (fun x89 ex89 => ?_)
                      have gx89 := jrg (rfl : x89.toInt = x89.toInt)
                      refine lv_iload hx hb dX1_judge_210 (lv_at hl 1 rfl) ?_
                      have I90 : jI22 σ73 := jI22_fr ((congrFun (f77 22 (by decide)) 0).trans ((congrFun (f52 22 (by decide)) 0).trans ((congrFun (jnp 22 eσ36 (by decide)) 0).trans (congrFun (f31 22 (by decide)) 0)))) ((f77 23 (by decide)).trans ((f52 23 (by decide)).trans ((jnp 23 eσ36 (by decide)).trans (f31 23 (by decide))))) hI22
                      refine jcallV (As := [.int x39, .int x86, .int r64, .int r66, .int x89, .int x69]) (rest := []) ⟨hx, hb, hml, hown, hts⟩ hK hP hA hS hZ (c_X5_outOf_26 l D cI cL ad zz hJ σ73 τ x39 (x39.toInt) rfl x86 (x86.toInt) rfl r64 (r64.toInt) rfl r66 (r66.toInt) rfl x89 (x89.toInt) rfl x69 (x69.toInt) rfl I90) cw_RX1_142 (jc_26 cI cL ad σ73 τ) rfl ⟨Nat.le_of_ble_eq_true rfl, Nat.le_of_ble_eq_true rfl⟩ rfl rfl rfl hl.1 rfl (Nat.le_of_ble_eq_true rfl) dX1_judge_212 ⟨Nat.zero_le _, Nat.zero_le _⟩ (fun r92 σ91 τ91 H locs h91 hP hS => ?_)
                      obtain ⟨rfl, f93, h91⟩ := h91
                      refine lv_istore (lv' := [(16, .int r92), (15, .int r84), (14, .int x69), (13, .int r66), (12, .int r64), (11, .int x61), (10, .int x39), (9, .int x22), (8, .int x14), (7, .int x13), (6, .int x12), (5, .int x9), (0, .ref (ad 31)), (1, .int a1), (2, .ref (ad 17)), (3, .int a3), (4, .int a4)]) hx hb dX1_judge_215 hl (by decide) rfl (fun ls hl => ?_)
                      refine lv_aload_n hx hb dX1_judge_217 rfl (lv_at hl 12 rfl) ?_
                      refine va_get (D := D) hx hb hts inlX1 hown hK hP 31 (jc_31 cI cL ad σ91 τ) rfl 1 (by decide) (hts _ kw_5_11) (fun _ h9 => h9) rfl dX1_judge_218 ?_
                      refine lv_iload hx hb dX1_judge_221 (lv_at hl 1 rfl) ?_
                      refine lv_iload hx hb dX1_judge_223 (lv_at hl 0 rfl) ?_
                      refine lv_aload_n hx hb dX1_judge_225 rfl (lv_at hl 12 rfl) ?_
                      refine va_get (D := D) hx hb hts inlX1 hown hK hP 31 (jc_31 cI cL ad σ91 τ) rfl 4 (by decide) (hts _ kw_5_5) (fun _ h9 => h9) rfl dX1_judge_226 ?_
                      refine lv_iload hx hb dX1_judge_229 (lv_at hl 5 rfl) ?_
                      refine lv_iload hx hb dX1_judge_231 (lv_at hl 2 rfl) ?_
                      have g95 := jrg (rfl : x69.toInt = x69.toInt)
                      refine lv_iadd hx hb dX1_judge_233 ?_
                      refine lv_topi (fun x96 ex96 => ?_)
                      have tx96 : x96.toInt = 9 * x59.toInt + x69.toInt := (jadd ex96 tx61 rfl (by omega) (by omega)).trans (by omega)
                      refine lv_iconst (v := 1) hx hb dX1_judge_234 (by decide) ?_
                      refine lv_iadd hx hb dX1_judge_235 ?_
                      refine lv_topi (fun x97 ex97 => ?_)
                      have tx97 : x97.toInt = 9 * x59.toInt + x69.toInt + 1 := (jadd ex97 tx96 jz_1 (by omega) (by omega)).trans (by omega)
                      refine jald hx hb hK hP (jc_34 cI cL ad σ91 τ) (jin tx97 (by omega) (by omega)) dX1_judge_236 ?_
                      refine lv_topi (fun x98 ex98 => ?_)
                      refine lv_aload_n hx hb dX1_judge_237 rfl (lv_at hl 12 rfl) ?_
                      refine va_get (D := D) hx hb hts inlX1 hown hK hP 31 (jc_31 cI cL ad σ91 τ) rfl 4 (by decide) (hts _ kw_5_5) (fun _ h9 => h9) rfl dX1_judge_238 ?_
                      refine lv_iload hx hb dX1_judge_241 (lv_at hl 5 rfl) ?_
                      refine lv_iload hx hb dX1_judge_243 (lv_at hl 2 rfl) ?_
                      refine lv_iadd hx hb dX1_judge_245 ?_
                      refine lv_topi (fun x99 ex99 => ?_)
                      have tx99 : x99.toInt = 9 * x59.toInt + x69.toInt := (jadd ex99 tx61 rfl (by omega) (by omega)).trans (by omega)
                      refine jald hx hb hK hP (jc_34 cI cL ad σ91 τ) (jin tx99 (by omega) (by omega)) dX1_judge_246 ?_
                      refine lv_topi (fun x100 ex100 => ?_)
                      refine jcallV (As := [.int r84, .int r92, .int x98, .int x100]) (rest := []) ⟨hx, hb, hml, hown, hts⟩ hK hP hA hS hZ (c_X6_meanOf_16 l D cI cL ad zz hJ σ91 τ r84 (r84.toInt) rfl r92 (r92.toInt) rfl x98 (x98.toInt) rfl x100 (x100.toInt) rfl) cw_RX1_146 (jc_16 cI cL ad σ91 τ) rfl ⟨Nat.le_of_ble_eq_true rfl, Nat.le_of_ble_eq_true rfl⟩ rfl rfl rfl hl.1 rfl (Nat.le_of_ble_eq_true rfl) dX1_judge_247 ⟨Nat.zero_le _, Nat.zero_le _⟩ (fun r102 σ101 τ101 H locs h101 hP hS => ?_)
                      obtain ⟨⟨rfl, rfl⟩, h101⟩ := h101
                      refine lv_istore (lv' := [(17, .int r102), (16, .int r92), (15, .int r84), (14, .int x69), (13, .int r66), (12, .int r64), (11, .int x61), (10, .int x39), (9, .int x22), (8, .int x14), (7, .int x13), (6, .int x12), (5, .int x9), (0, .ref (ad 31)), (1, .int a1), (2, .ref (ad 17)), (3, .int a3), (4, .int a4)]) hx hb dX1_judge_250 hl (by decide) rfl (fun ls hl => ?_)
                      refine lv_aload_n hx hb dX1_judge_252 rfl (lv_at hl 13 rfl) ?_
                      refine va_get (D := D) hx hb hts inlX1 hown hK hP 31 (jc_31 cI cL ad σ91 τ) rfl 5 (by decide) (hts _ kw_5_6) (fun _ h9 => h9) rfl dX1_judge_253 ?_
                      refine lv_iload hx hb dX1_judge_256 (lv_at hl 10 rfl) ?_
                      refine lv_iload hx hb dX1_judge_258 (lv_at hl 3 rfl) ?_
                      refine lv_iadd hx hb dX1_judge_260 ?_
                      refine lv_topi (fun x103 ex103 => ?_)
                      have tx103 : x103.toInt = 9 * A1 + x69.toInt := (jadd ex103 tx13 rfl (by omega) (by omega)).trans (by omega)
                      refine jald hx hb hK hP (jc_35 cI cL ad σ91 τ) (jin tx103 (by omega) (by omega)) dX1_judge_261 ?_
                      refine lv_topi (fun x104 ex104 => ?_)
                      refine lv_if_lt (tgt := 280) hx hb dX1_judge_262 (by decide) (fun c105 => ?_) (fun c105 => ?_)
                      · have kc105 := jlt c105 rfl jz_0
                        refine lv_aload_n hx hb dX1_judge_280 rfl (lv_at hl 13 rfl) ?_
                        refine va_get (D := D) hx hb hts inlX1 hown hK hP 31 (jc_31 cI cL ad σ91 τ) rfl 4 (by decide) (hts _ kw_5_5) (fun _ h9 => h9) rfl dX1_judge_281 ?_
                        refine lv_iload hx hb dX1_judge_284 (lv_at hl 10 rfl) ?_
                        refine lv_iload hx hb dX1_judge_286 (lv_at hl 3 rfl) ?_
                        refine lv_iadd hx hb dX1_judge_288 ?_
                        refine lv_topi (fun x106 ex106 => ?_)
                        have tx106 : x106.toInt = 9 * A1 + x69.toInt := (jadd ex106 tx13 rfl (by omega) (by omega)).trans (by omega)
                        refine lv_iload hx hb dX1_judge_289 (lv_at hl 0 rfl) ?_
                        refine jast hx hb hK hP hJ hA hS (jc_34 cI cL ad σ91 τ) (ja_34 cI cL ad σ91 τ _ _) (jin tx106 (by omega) (by omega)) dX1_judge_291 (fun σ107 H locs eσ107 hP hS => ?_)
                        refine lv_aload_n hx hb dX1_judge_292 rfl (lv_at hl 13 rfl) ?_
                        refine va_get (D := D) hx hb hts inlX1 hown hK hP 31 (jc_31 cI cL ad σ107 τ) rfl 5 (by decide) (hts _ kw_5_6) (fun _ h9 => h9) rfl dX1_judge_293 ?_
                        refine lv_iload hx hb dX1_judge_296 (lv_at hl 10 rfl) ?_
                        refine lv_iload hx hb dX1_judge_298 (lv_at hl 3 rfl) ?_
                        refine lv_iadd hx hb dX1_judge_300 ?_
                        refine lv_topi (fun x108 ex108 => ?_)
                        have tx108 : x108.toInt = 9 * A1 + x69.toInt := (jadd ex108 tx13 rfl (by omega) (by omega)).trans (by omega)
                        refine lv_iload hx hb dX1_judge_301 (lv_at hl 7 rfl) ?_
                        refine jast hx hb hK hP hJ hA hS (jc_35 cI cL ad σ107 τ) (ja_35 cI cL ad σ107 τ _ _) (jin tx108 (by omega) (by omega)) dX1_judge_303 (fun σ109 H locs eσ109 hP hS => ?_)
                        obtain ⟨x110, ex110⟩ : ∃ y : Int32, y = x69 + 1 := ⟨_, rfl⟩
                        have tx110 : x110.toInt = x69.toInt + 1 := (jadd ex110 rfl jz_1 (by omega) (by omega)).trans (by omega)
                        refine lv_iinc (v := x110) (lv' := [(14, .int x110), (17, .int r102), (16, .int r92), (15, .int r84), (13, .int r66), (12, .int r64), (11, .int x61), (10, .int x39), (9, .int x22), (8, .int x14), (7, .int x13), (6, .int x12), (5, .int x9), (0, .ref (ad 31)), (1, .int a1), (2, .ref (ad 17)), (3, .int a3), (4, .int a4)]) hx hb dX1_judge_304 hl (k := 3) rfl (by rw [ex110]; rfl) (by decide) rfl (fun ls hl => ?_)
                        refine lv_goto (tgt := 165) hx hb dX1_judge_307 (by decide) ?_
                        exact ihlp67 x110 σ109 _ _ ls (by have h90 := tx110; omega) (by have h90 := tx110; omega) (fun i hi => ((jnp i eσ109 (imp_97 i hi)).trans ((jnp i eσ107 (imp_95 i hi)).trans ((f93 i (imp_98 i hi)).trans (f77 i hi)))))    hP hS (lv_sub hl [0, 4, 5, 6, 7, 8, 9, 10, 11, 12, 13, 14, 15, 16, 17] rfl)
                      · have kc105 := jnlt c105 rfl jz_0
                        refine lv_iload hx hb dX1_judge_265 (lv_at hl 0 rfl) ?_
                        refine lv_aload_n hx hb dX1_judge_267 rfl (lv_at hl 13 rfl) ?_
                        refine va_get (D := D) hx hb hts inlX1 hown hK hP 31 (jc_31 cI cL ad σ91 τ) rfl 4 (by decide) (hts _ kw_5_5) (fun _ h9 => h9) rfl dX1_judge_268 ?_
                        refine lv_iload hx hb dX1_judge_271 (lv_at hl 10 rfl) ?_
                        refine lv_iload hx hb dX1_judge_273 (lv_at hl 3 rfl) ?_
                        refine lv_iadd hx hb dX1_judge_275 ?_
                        refine lv_topi (fun x111 ex111 => ?_)
                        have tx111 : x111.toInt = 9 * A1 + x69.toInt := (jadd ex111 tx13 rfl (by omega) (by omega)).trans (by omega)
                        refine jald hx hb hK hP (jc_34 cI cL ad σ91 τ) (jin tx111 (by omega) (by omega)) dX1_judge_276 ?_
                        refine lv_topi (fun x112 ex112 => ?_)
                        refine lv_icmp_ge (tgt := 304) hx hb dX1_judge_277 (by decide) (fun c113 => ?_) (fun c113 => ?_)
                        · have kc113 := jle c113 rfl rfl
                          obtain ⟨x114, ex114⟩ : ∃ y : Int32, y = x69 + 1 := ⟨_, rfl⟩
                          have tx114 : x114.toInt = x69.toInt + 1 := (jadd ex114 rfl jz_1 (by omega) (by omega)).trans (by omega)
                          refine lv_iinc (v := x114) (lv' := [(14, .int x114), (17, .int r102), (16, .int r92), (15, .int r84), (13, .int r66), (12, .int r64), (11, .int x61), (10, .int x39), (9, .int x22), (8, .int x14), (7, .int x13), (6, .int x12), (5, .int x9), (0, .ref (ad 31)), (1, .int a1), (2, .ref (ad 17)), (3, .int a3), (4, .int a4)]) hx hb dX1_judge_304 hl (k := 3) rfl (by rw [ex114]; rfl) (by decide) rfl (fun ls hl => ?_)
                          refine lv_goto (tgt := 165) hx hb dX1_judge_307 (by decide) ?_
                          exact ihlp67 x114 σ91 _ _ ls (by have h90 := tx114; omega) (by have h90 := tx114; omega) (fun i hi => ((f93 i (imp_98 i hi)).trans (f77 i hi)))    hP hS (lv_sub hl [0, 4, 5, 6, 7, 8, 9, 10, 11, 12, 13, 14, 15, 16, 17] rfl)
                        · have kc113 := jnle c113 rfl rfl
                          refine lv_aload_n hx hb dX1_judge_280 rfl (lv_at hl 13 rfl) ?_
                          refine va_get (D := D) hx hb hts inlX1 hown hK hP 31 (jc_31 cI cL ad σ91 τ) rfl 4 (by decide) (hts _ kw_5_5) (fun _ h9 => h9) rfl dX1_judge_281 ?_
                          refine lv_iload hx hb dX1_judge_284 (lv_at hl 10 rfl) ?_
                          refine lv_iload hx hb dX1_judge_286 (lv_at hl 3 rfl) ?_
                          refine lv_iadd hx hb dX1_judge_288 ?_
                          refine lv_topi (fun x115 ex115 => ?_)
                          have tx115 : x115.toInt = 9 * A1 + x69.toInt := (jadd ex115 tx13 rfl (by omega) (by omega)).trans (by omega)
                          refine lv_iload hx hb dX1_judge_289 (lv_at hl 0 rfl) ?_
                          refine jast hx hb hK hP hJ hA hS (jc_34 cI cL ad σ91 τ) (ja_34 cI cL ad σ91 τ _ _) (jin tx115 (by omega) (by omega)) dX1_judge_291 (fun σ116 H locs eσ116 hP hS => ?_)
                          refine lv_aload_n hx hb dX1_judge_292 rfl (lv_at hl 13 rfl) ?_
                          refine va_get (D := D) hx hb hts inlX1 hown hK hP 31 (jc_31 cI cL ad σ116 τ) rfl 5 (by decide) (hts _ kw_5_6) (fun _ h9 => h9) rfl dX1_judge_293 ?_
                          refine lv_iload hx hb dX1_judge_296 (lv_at hl 10 rfl) ?_
                          refine lv_iload hx hb dX1_judge_298 (lv_at hl 3 rfl) ?_
                          refine lv_iadd hx hb dX1_judge_300 ?_
                          refine lv_topi (fun x117 ex117 => ?_)
                          have tx117 : x117.toInt = 9 * A1 + x69.toInt := (jadd ex117 tx13 rfl (by omega) (by omega)).trans (by omega)
                          refine lv_iload hx hb dX1_judge_301 (lv_at hl 7 rfl) ?_
                          refine jast hx hb hK hP hJ hA hS (jc_35 cI cL ad σ116 τ) (ja_35 cI cL ad σ116 τ _ _) (jin tx117 (by omega) (by omega)) dX1_judge_303 (fun σ118 H locs eσ118 hP hS => ?_)
                          obtain ⟨x119, ex119⟩ : ∃ y : Int32, y = x69 + 1 := ⟨_, rfl⟩
                          have tx119 : x119.toInt = x69.toInt + 1 := (jadd ex119 rfl jz_1 (by omega) (by omega)).trans (by omega)
                          refine lv_iinc (v := x119) (lv' := [(14, .int x119), (17, .int r102), (16, .int r92), (15, .int r84), (13, .int r66), (12, .int r64), (11, .int x61), (10, .int x39), (9, .int x22), (8, .int x14), (7, .int x13), (6, .int x12), (5, .int x9), (0, .ref (ad 31)), (1, .int a1), (2, .ref (ad 17)), (3, .int a3), (4, .int a4)]) hx hb dX1_judge_304 hl (k := 3) rfl (by rw [ex119]; rfl) (by decide) rfl (fun ls hl => ?_)
                          refine lv_goto (tgt := 165) hx hb dX1_judge_307 (by decide) ?_
                          exact ihlp67 x119 σ118 _ _ ls (by have h90 := tx119; omega) (by have h90 := tx119; omega) (fun i hi => ((jnp i eσ118 (imp_97 i hi)).trans ((jnp i eσ116 (imp_95 i hi)).trans ((f93 i (imp_98 i hi)).trans (f77 i hi)))))    hP hS (lv_sub hl [0, 4, 5, 6, 7, 8, 9, 10, 11, 12, 13, 14, 15, 16, 17] rfl)
                exact lp67 3000000001 x14 σ47 _ _ ls (by omega) (by omega) (fun _ _ => rfl)   hP hS hl
              · have kc62 := jnle c62 jz_0 tx61
                refine lv_goto (tgt := 310) hx hb dX1_judge_140 (by decide) ?_
                obtain ⟨x120, ex120⟩ : ∃ y : Int32, y = x39 + 1 := ⟨_, rfl⟩
                have tx120 : x120.toInt = x39.toInt + 1 := (jadd ex120 rfl jz_1 (by omega) (by omega)).trans (by omega)
                refine lv_iinc (v := x120) (lv' := [(10, .int x120), (11, .int x61), (9, .int x22), (8, .int x14), (7, .int x13), (6, .int x12), (5, .int x9), (0, .ref (ad 31)), (1, .int a1), (2, .ref (ad 17)), (3, .int a3), (4, .int a4)]) hx hb dX1_judge_310 hl (k := 1) rfl (by rw [ex120]; rfl) (by decide) rfl (fun ls hl => ?_)
                refine lv_goto (tgt := 113) hx hb dX1_judge_313 (by decide) ?_
                exact ihlp37 x120 σ47 _ _ ls (by have h90 := tx120; omega) (by have h90 := tx120; omega) (by have h90 := tx120; omega) (fun i hi => (f52 i hi))    hP hS (lv_sub hl [0, 2, 3, 4, 5, 6, 7, 8, 9, 10, 11] rfl)
        exact lp37 1000000 0 σ36 _ _ ls (by have h90 := jz_0; omega) (by have h90 := jz_0; omega) (by have h90 := jz_0; omega) (fun _ _ => rfl)   hP hS hl
      · have kc32 := jnlt c32 rfl rfl
        refine lv_aload_n hx hb dX1_judge_66 rfl (lv_at hl 6 rfl) ?_
        refine va_get (D := D) hx hb hts inlX1 hown hK hP 31 (jc_31 cI cL ad σ27 τ) rfl 4 (by decide) (hts _ kw_5_5) (fun _ h9 => h9) rfl dX1_judge_67 ?_
        refine lv_iload hx hb dX1_judge_70 (lv_at hl 3 rfl) ?_
        refine lv_iload hx hb dX1_judge_72 (lv_at hl 0 rfl) ?_
        have g121 := jrg (rfl : x26.toInt = x26.toInt)
        refine lv_iadd hx hb dX1_judge_74 ?_
        refine lv_topi (fun x122 ex122 => ?_)
        have tx122 : x122.toInt = 9 * A1 + x26.toInt := (jadd ex122 tx13 rfl (by omega) (by omega)).trans (by omega)
        refine lv_iconst (v := 0) hx hb dX1_judge_75 (by decide) ?_
        refine jast hx hb hK hP hJ hA hS (jc_34 cI cL ad σ27 τ) (ja_34 cI cL ad σ27 τ _ _) (jin tx122 (by omega) (by omega)) dX1_judge_76 (fun σ123 H locs eσ123 hP hS => ?_)
        refine lv_aload_n hx hb dX1_judge_77 rfl (lv_at hl 6 rfl) ?_
        refine va_get (D := D) hx hb hts inlX1 hown hK hP 31 (jc_31 cI cL ad σ123 τ) rfl 5 (by decide) (hts _ kw_5_6) (fun _ h9 => h9) rfl dX1_judge_78 ?_
        refine lv_iload hx hb dX1_judge_81 (lv_at hl 3 rfl) ?_
        refine lv_iload hx hb dX1_judge_83 (lv_at hl 0 rfl) ?_
        refine lv_iadd hx hb dX1_judge_85 ?_
        refine lv_topi (fun x124 ex124 => ?_)
        have tx124 : x124.toInt = 9 * A1 + x26.toInt := (jadd ex124 tx13 rfl (by omega) (by omega)).trans (by omega)
        refine lv_iconst (v := (-1)) hx hb dX1_judge_86 (by decide) ?_
        refine jast hx hb hK hP hJ hA hS (jc_35 cI cL ad σ123 τ) (ja_35 cI cL ad σ123 τ _ _) (jin tx124 (by omega) (by omega)) dX1_judge_87 (fun σ125 H locs eσ125 hP hS => ?_)
        obtain ⟨x126, ex126⟩ : ∃ y : Int32, y = x26 + 1 := ⟨_, rfl⟩
        have tx126 : x126.toInt = x26.toInt + 1 := (jadd ex126 rfl jz_1 (by omega) (by omega)).trans (by omega)
        refine lv_iinc (v := x126) (lv' := [(10, .int x126), (9, .int x22), (8, .int x14), (7, .int x13), (6, .int x12), (5, .int x9), (0, .ref (ad 31)), (1, .int a1), (2, .ref (ad 17)), (3, .int a3), (4, .int a4)]) hx hb dX1_judge_88 hl (k := 0) rfl (by rw [ex126]; rfl) (by decide) rfl (fun ls hl => ?_)
        refine lv_goto (tgt := 59) hx hb dX1_judge_91 (by decide) ?_
        exact ihlp24 x126 σ125 _ _ ls (by have h90 := tx126; omega) (by have h90 := tx126; omega) (fun i hi => ((jnp i eσ125 (imp_99 i hi)).trans ((jnp i eσ123 (imp_100 i hi)).trans (f31 i hi))))    hP hS (lv_sub hl [0, 1, 2, 3, 4, 5, 6, 7, 8, 9, 10] rfl)
  exact lp24 3000000001 x14 σ _ _ ls (by omega) (by omega) (fun _ _ => rfl)   hP hS hl
set_option maxHeartbeats 4000000 in
set_option maxRecDepth 100000 in
theorem c_X1_seekFor_31 (l : Launch) (D : va_G) (cI cL : ClassId) (ad zz : Nat → Nat) (hJ : jD ad) (σ : Nat → Nat → Int32) (τ : Nat → Nat → Int64) (a2 : Int32) (A2 : Int) (t2 : a2.toInt = A2) (a3 : Int32) (A3 : Int) (t3 : a3.toInt = A3) (a4 : Int32) (A4 : Int) (t4 : a4.toInt = A4) (a5 : Int32) (A5 : Int) (t5 : a5.toInt = A5) (hI16 : jI16 σ) (hI22 : jI22 σ) (hI31 : jI31 σ) : jMv l yX1_seekFor cX1_seekFor 7 none ({ frames := 4, cells := 0, slots := 0, locals := 113 }) D cI cL ad zz [.ref (ad 31), .ref (ad 17), .int a2, .int a3, .int a4, .int a5] σ τ (fun σ' τ' => τ = τ' ∧ (∀ i : Nat, (i < 24 ∨ 25 < i) ∧ (i < 29 ∨ 37 < i) → σ' i = σ i) ∧ (∀ k : Nat, (k < 8 ∨ 8 < k) ∧ (k < 9 ∨ 9 < k) ∧ (k < 10 ∨ 10 < k) ∧ (k < 11 ∨ 11 < k) ∧ (k < 12 ∨ 12 < k) → σ' 31 k = σ 31 k) ∧ (jI31 σ') ∧ True) := by
  refine jMv.of hJ (by decide +kernel) rfl (Nat.le_of_ble_eq_true rfl) ?_
  intro p e s m args below meth c Q ls hC hret hl hP
  obtain ⟨hx, hb, hr, hml, hown, hts, hK, -, hlocks, hZ⟩ := hC
  have hown : s.vm.findClass RX1 = some m.cls := hown
  have hS : va_S (jA ad) s.heap s.heap [] := va_S.rf
  have hA : ∀ q, jA ad q → jA ad q := fun _ h => h
  have hl : lv_has ls 7 [(0, .ref (ad 31)), (1, .ref (ad 17)), (2, .int a2), (3, .int a3), (4, .int a4), (5, .int a5)] := hl
  have g2 := jrg t2
  have g3 := jrg t3
  have g4 := jrg t4
  have g5 := jrg t5
  obtain ⟨i1, w2, w3⟩ : (0 ≤ (σ 31 8).toInt ∧ (σ 31 8).toInt ≤ 350) ∧ (∀ k : Nat, k < 1400 → (-1) ≤ (σ 33 k).toInt ∧ (σ 33 k).toInt ≤ 350) ∧ (∀ k : Nat, k < 1024 → 0 ≤ (σ 36 k).toInt ∧ (σ 36 k).toInt ≤ 349) := id hI31
  refine lv_aload_n hx hb dX1_seekFor_0 rfl (lv_at hl 0 rfl) ?_
  refine lv_iload_n hx hb dX1_seekFor_1 rfl (lv_at hl 2 rfl) ?_
  refine lv_iload_n hx hb dX1_seekFor_2 rfl (lv_at hl 3 rfl) ?_
  refine jcallVv (As := [.int a2, .int a3]) (rest := []) ⟨hx, hb, hml, hown, hts⟩ hK hP hA hS hZ (c_X1_grow_31 l D cI cL ad zz hJ σ τ a2 (A2) t2 a3 (A3) t3 hI31) cw_RX1_54 (jc_31 cI cL ad σ τ) rfl ⟨Nat.le_of_ble_eq_true rfl, Nat.le_of_ble_eq_true rfl⟩ rfl rfl rfl hl.1 rfl (Nat.le_of_ble_eq_true rfl) dX1_seekFor_3 ⟨Nat.zero_le _, Nat.zero_le _⟩ (fun σ4 τ4 H locs h4 hP hS => ?_)
  obtain ⟨rfl, f6, f7, I8, h4⟩ := h4
  obtain ⟨i10, w11, w12⟩ : (0 ≤ (σ4 31 8).toInt ∧ (σ4 31 8).toInt ≤ 350) ∧ (∀ k : Nat, k < 1400 → (-1) ≤ (σ4 33 k).toInt ∧ (σ4 33 k).toInt ≤ 350) ∧ (∀ k : Nat, k < 1024 → 0 ≤ (σ4 36 k).toInt ∧ (σ4 36 k).toInt ≤ 349) := id I8
  refine lv_aload_n hx hb dX1_seekFor_6 rfl (lv_at hl 0 rfl) ?_
  refine va_get (D := D) hx hb hts inlX1 hown hK hP 31 (jc_31 cI cL ad σ4 τ) rfl 8 (by decide) (hts _ kw_27_22) (fun _ h9 => h9) rfl dX1_seekFor_7 ?_
  refine lv_iconst (v := 1) hx hb dX1_seekFor_10 (by decide) ?_
  have g13 := jrg (rfl : (σ4 31 8).toInt = (σ4 31 8).toInt)
  refine lv_isub hx hb dX1_seekFor_11 ?_
  refine lv_topi (fun x14 ex14 => ?_)
  have tx14 : x14.toInt = (σ4 31 8).toInt - 1 := (jsub ex14 rfl jz_1 (by omega) (by omega)).trans (by omega)
  refine lv_istore (lv' := [(6, .int x14), (0, .ref (ad 31)), (1, .ref (ad 17)), (2, .int a2), (3, .int a3), (4, .int a4), (5, .int a5)]) hx hb dX1_seekFor_12 hl (by decide) rfl (fun ls hl => ?_)
  have lp15 : ∀ (n16 : Nat) (x17 : Int32) (σ18 : Nat → Nat → Int32) (H : Heap) (locs : List Loc) (ls : Array Slot), (x17.toInt + 1 : Int) < n16 → (-1) ≤ x17.toInt → x17.toInt ≤ 349 → (∀ i : Nat, (i < 24 ∨ 25 < i) ∧ (i < 29 ∨ 30 < i) ∧ (i < 34 ∨ 35 < i) → σ18 i = σ4 i) → jH D cI cL ad σ18 τ H → va_S (jA ad) s.heap H locs → lv_has ls 7 [(6, .int x17), (0, .ref (ad 31)), (1, .ref (ad 17)), (2, .int a2), (3, .int a3), (4, .int a4), (5, .int a5)] → W p l e ({ frames := 4, cells := 0, slots := 0, locals := 113 }) s m args below meth c H locs 0 0 Q (F0 m 14 ls []) := by
    intro n16
    induction n16 with
    | zero => intro x17 σ18 H locs ls h20 h21 h22; exact absurd h20 (by omega)
    | succ n16 ihlp15 =>
      intro x17 σ18 H locs ls h20 h21 h22 f23 hP hS hl
      refine lv_iload hx hb dX1_seekFor_14 (lv_at hl 0 rfl) ?_
      refine lv_if_lt (tgt := 36) hx hb dX1_seekFor_16 (by decide) (fun c24 => ?_) (fun c24 => ?_)
      · have kc24 := jlt c24 rfl jz_0
        have I25 : jI31 σ18 := jI31_fr (congrFun (f23 31 (by decide)) 8) (f23 33 (by decide)) (f23 36 (by decide)) I8
        exact hret σ18 τ _ _ _ _ ⟨rfl, (fun i hi => ((f23 i (imp_101 i hi)).trans (f6 i (imp_102 i hi)))), (fun i hi => ((congrFun (f23 31 (by decide)) i).trans (f7 i hi))), I25, trivial⟩ hP hS dX1_seekFor_36
      · have kc24 := jnlt c24 rfl jz_0
        refine lv_aload_n hx hb dX1_seekFor_19 rfl (lv_at hl 1 rfl) ?_
        refine lv_iload hx hb dX1_seekFor_20 (lv_at hl 0 rfl) ?_
        refine lv_aload_n hx hb dX1_seekFor_22 rfl (lv_at hl 2 rfl) ?_
        refine lv_iload hx hb dX1_seekFor_23 (lv_at hl 5 rfl) ?_
        refine lv_iload hx hb dX1_seekFor_25 (lv_at hl 6 rfl) ?_
        have I26 : jI16 σ18 := jI16_fr ((congrFun (f23 16 (by decide)) 0).trans (congrFun (f6 16 (by decide)) 0)) ((congrFun (f23 16 (by decide)) 1).trans (congrFun (f6 16 (by decide)) 1)) ((congrFun (f23 16 (by decide)) 2).trans (congrFun (f6 16 (by decide)) 2)) ((f23 17 (by decide)).trans (f6 17 (by decide))) hI16
        have I27 : jI22 σ18 := jI22_fr ((congrFun (f23 22 (by decide)) 0).trans (congrFun (f6 22 (by decide)) 0)) ((f23 23 (by decide)).trans (f6 23 (by decide))) hI22
        have I28 : jI31 σ18 := jI31_fr (congrFun (f23 31 (by decide)) 8) (f23 33 (by decide)) (f23 36 (by decide)) I8
        refine jcallVv (As := [.int x17, .ref (ad 17), .int a4, .int a5]) (rest := []) ⟨hx, hb, hml, hown, hts⟩ hK hP hA hS hZ (c_X1_judge_31 l D cI cL ad zz hJ σ18 τ x17 (x17.toInt) rfl a4 (A4) t4 a5 (A5) t5 I26 I27 I28 (by omega)) cw_RX1_61 (jc_31 cI cL ad σ18 τ) rfl ⟨Nat.le_of_ble_eq_true rfl, Nat.le_of_ble_eq_true rfl⟩ rfl rfl rfl hl.1 rfl (Nat.le_of_ble_eq_true rfl) dX1_seekFor_27 ⟨Nat.zero_le _, Nat.zero_le _⟩ (fun σ29 τ29 H locs h29 hP hS => ?_)
        obtain ⟨rfl, f31, h29⟩ := h29
        obtain ⟨x33, ex33⟩ : ∃ y : Int32, y = x17 + (-1) := ⟨_, rfl⟩
        have tx33 : x33.toInt = x17.toInt - 1 := (jadd ex33 rfl jz_m1 (by omega) (by omega)).trans (by omega)
        refine lv_iinc (v := x33) (lv' := [(6, .int x33), (0, .ref (ad 31)), (1, .ref (ad 17)), (2, .int a2), (3, .int a3), (4, .int a4), (5, .int a5)]) hx hb dX1_seekFor_30 hl (k := 0) rfl (by rw [ex33]; rfl) (by decide) rfl (fun ls hl => ?_)
        refine lv_goto (tgt := 14) hx hb dX1_seekFor_33 (by decide) ?_
        exact ihlp15 x33 σ29 _ _ ls (by have h90 := tx33; omega) (by have h90 := tx33; omega) (by have h90 := tx33; omega) (fun i hi => ((f31 i hi).trans (f23 i hi)))    hP hS (lv_sub hl [0, 1, 2, 3, 4, 5, 6] rfl)
  exact lp15 1000000 x14 σ4 _ _ ls (by have h90 := tx14; omega) (by have h90 := tx14; omega) (by have h90 := tx14; omega) (fun _ _ => rfl)   hP hS hl
set_option maxHeartbeats 4000000 in
set_option maxRecDepth 100000 in
theorem c_X1_judge_31_v1 (l : Launch) (D : va_G) (cI cL : ClassId) (ad zz : Nat → Nat) (hJ : jD ad) (σ : Nat → Nat → Int32) (τ : Nat → Nat → Int64) (a1 : Int32) (A1 : Int) (t1 : a1.toInt = A1) (a3 : Int32) (A3 : Int) (t3 : a3.toInt = A3) (a4 : Int32) (A4 : Int) (t4 : a4.toInt = A4) (hI16 : jI16 σ) (hI22 : jI22 σ) (hI31 : jI31 σ) (hp0 : 0 ≤ A1 ∧ A1 ≤ 349) : jMv l yX1_judge cX1_judge 18 none ({ frames := 3, cells := 0, slots := 0, locals := 76 }) D cI cL ad zz [.ref (ad 31), .int a1, .ref (ad 1), .int a3, .int a4] σ τ (fun σ' τ' => τ = τ' ∧ (∀ i : Nat, (i < 24 ∨ 25 < i) ∧ (i < 29 ∨ 30 < i) ∧ (i < 34 ∨ 35 < i) → σ' i = σ i) ∧ True) := by
  refine jMv.of hJ (by decide +kernel) rfl (Nat.le_of_ble_eq_true rfl) ?_
  intro p e s m args below meth c Q ls hC hret hl hP
  obtain ⟨hx, hb, hr, hml, hown, hts, hK, -, hlocks, hZ⟩ := hC
  have hown : s.vm.findClass RX1 = some m.cls := hown
  have hS : va_S (jA ad) s.heap s.heap [] := va_S.rf
  have hA : ∀ q, jA ad q → jA ad q := fun _ h => h
  have hl : lv_has ls 18 [(0, .ref (ad 31)), (1, .int a1), (2, .ref (ad 1)), (3, .int a3), (4, .int a4)] := hl
  have g1 := jrg t1
  have g3 := jrg t3
  have g4 := jrg t4
  obtain ⟨i1, i2, i3, w4⟩ : (1 ≤ (σ 16 0).toInt ∧ (σ 16 0).toInt ≤ 8) ∧ (1 ≤ (σ 16 1).toInt ∧ (σ 16 1).toInt ≤ 12) ∧ (0 ≤ (σ 16 2).toInt ∧ (σ 16 2).toInt ≤ 999) ∧ (∀ k : Nat, k < 8 → 0 ≤ (σ 17 k).toInt ∧ (σ 17 k).toInt ≤ 3) := id hI16
  obtain ⟨i5, w6, w7⟩ : (0 ≤ (σ 31 8).toInt ∧ (σ 31 8).toInt ≤ 350) ∧ (∀ k : Nat, k < 1400 → (-1) ≤ (σ 33 k).toInt ∧ (σ 33 k).toInt ≤ 350) ∧ (∀ k : Nat, k < 1024 → 0 ≤ (σ 36 k).toInt ∧ (σ 36 k).toInt ≤ 349) := id hI31
  refine lv_aload_n hx hb dX1_judge_0 rfl (lv_at hl 0 rfl) ?_
  refine va_get (D := D) hx hb hts inlX1 hown hK hP 31 (jc_31 cI cL ad σ τ) rfl 2 (by decide) (hts _ kw_5_3) (fun _ h9 => h9) rfl dX1_judge_1 ?_
  refine lv_iload_n hx hb dX1_judge_4 rfl (lv_at hl 1 rfl) ?_
  refine jald hx hb hK hP (jc_32 cI cL ad σ τ) (jin t1 (by omega) (by omega)) dX1_judge_5 ?_
  refine lv_topi (fun x8 ex8 => ?_)
  refine lv_ldc (v := 134217727) hx hb hown (hts _ kw_28_10) dX1_judge_6 ?_
  refine lv_iand hx hb dX1_judge_8 ?_
  refine lv_topi (fun x9 ex9 => ?_)
  have gx9 := jrg (rfl : x9.toInt = x9.toInt)
  have g10 : 0 ≤ x9.toInt ∧ x9.toInt ≤ 134217727 := jmask ex9 27 (by decide) (by decide)
  refine lv_istore (lv' := [(5, .int x9), (0, .ref (ad 31)), (1, .int a1), (2, .ref (ad 1)), (3, .int a3), (4, .int a4)]) hx hb dX1_judge_9 hl (by decide) rfl (fun ls hl => ?_)
  refine lv_aload_n hx hb dX1_judge_11 rfl (lv_at hl 1 rfl) ?_
  refine va_get (D := D) hx hb hts inlX1 hown hK hP 31 (jc_31 cI cL ad σ τ) rfl 2 (by decide) (hts _ kw_5_3) (fun _ h9 => h9) rfl dX1_judge_12 ?_
  refine lv_iload_n hx hb dX1_judge_15 rfl (lv_at hl 2 rfl) ?_
  refine jald hx hb hK hP (jc_32 cI cL ad σ τ) (jin t1 (by omega) (by omega)) dX1_judge_16 ?_
  refine lv_topi (fun x11 ex11 => ?_)
  refine lv_bipush (v := 27) hx hb dX1_judge_17 (by decide) ?_
  refine lv_ishr hx hb dX1_judge_19 ?_
  refine lv_topi (fun x12 ex12 => ?_)
  have gx12 := jrg (rfl : x12.toInt = x12.toInt)
  refine lv_istore (lv' := [(6, .int x12), (5, .int x9), (0, .ref (ad 31)), (1, .int a1), (2, .ref (ad 1)), (3, .int a3), (4, .int a4)]) hx hb dX1_judge_20 hl (by decide) rfl (fun ls hl => ?_)
  refine lv_iload_n hx hb dX1_judge_22 rfl (lv_at hl 3 rfl) ?_
  refine lv_bipush (v := 9) hx hb dX1_judge_23 (by decide) ?_
  refine lv_imul hx hb dX1_judge_25 ?_
  refine lv_topi (fun x13 ex13 => ?_)
  have tx13 : x13.toInt = 9 * A1 := (jmul ex13 t1 jz_9 (by omega) (by omega)).trans (by omega)
  refine lv_istore (lv' := [(7, .int x13), (6, .int x12), (5, .int x9), (0, .ref (ad 31)), (1, .int a1), (2, .ref (ad 1)), (3, .int a3), (4, .int a4)]) hx hb dX1_judge_26 hl (by decide) rfl (fun ls hl => ?_)
  refine lv_iconst (v := 0) hx hb dX1_judge_28 (by decide) ?_
  refine lv_iload_n hx hb dX1_judge_29 rfl (lv_at hl 6 rfl) ?_
  refine va_mmax hx hb (hml.trans hl.1.symm) hown (hts _ kw_28_5) (hts _ kw_21_0) (hts _ kw_21_1) (hts _ kw_21_2) (Nat.le_of_ble_eq_true rfl) (Nat.le_of_ble_eq_true rfl) (Nat.le_of_ble_eq_true rfl) (Nat.le_of_ble_eq_true rfl) dX1_judge_30 ?_
  refine lv_topi (fun x14 ex14 => ?_)
  have g15 := jmax ex14 jz_0 t3
  refine lv_istore (lv' := [(8, .int x14), (7, .int x13), (6, .int x12), (5, .int x9), (0, .ref (ad 31)), (1, .int a1), (2, .ref (ad 1)), (3, .int a3), (4, .int a4)]) hx hb dX1_judge_33 hl (by decide) rfl (fun ls hl => ?_)
  refine lv_iload hx hb dX1_judge_35 (lv_at hl 8 rfl) ?_
  refine lv_aload_n hx hb dX1_judge_37 rfl (lv_at hl 6 rfl) ?_
  refine jalen (v := 8) hx hb hK hP (jc_1 cI cL ad σ τ) (by decide) dX1_judge_38 ?_
  refine lv_iconst (v := 1) hx hb dX1_judge_39 (by decide) ?_
  refine lv_isub hx hb dX1_judge_40 ?_
  refine jtopr (y := 7) (by decide) ?_
  refine va_mmin hx hb (hml.trans hl.1.symm) hown (hts _ kw_28_4) (hts _ kw_22_11) (hts _ kw_21_1) (hts _ kw_22_12) (Nat.le_of_ble_eq_true rfl) (Nat.le_of_ble_eq_true rfl) (Nat.le_of_ble_eq_true rfl) (Nat.le_of_ble_eq_true rfl) dX1_judge_41 ?_
  refine lv_topi (fun x16 ex16 => ?_)
  have g17 := jmin ex16 t4 jz_7
  refine lv_iload_n hx hb dX1_judge_44 rfl (lv_at hl 7 rfl) ?_
  refine lv_iconst (v := 1) hx hb dX1_judge_45 (by decide) ?_
  refine lv_iadd hx hb dX1_judge_46 ?_
  refine lv_topi (fun x18 ex18 => ?_)
  have gx18 := jrg (rfl : x18.toInt = x18.toInt)
  refine lv_iload hx hb dX1_judge_47 (lv_at hl 2 rfl) ?_
  have g19 := jrg (rfl : x18.toInt = x18.toInt)
  have g20 := jrg (rfl : x12.toInt = x12.toInt)
  refine lv_iadd hx hb dX1_judge_49 ?_
  refine lv_topi (fun x21 ex21 => ?_)
  have gx21 := jrg (rfl : x21.toInt = x21.toInt)
  refine va_mmin hx hb (hml.trans hl.1.symm) hown (hts _ kw_28_4) (hts _ kw_22_11) (hts _ kw_21_1) (hts _ kw_22_12) (Nat.le_of_ble_eq_true rfl) (Nat.le_of_ble_eq_true rfl) (Nat.le_of_ble_eq_true rfl) (Nat.le_of_ble_eq_true rfl) dX1_judge_50 ?_
  refine lv_topi (fun x22 ex22 => ?_)
  have g23 := jmin ex22 rfl rfl
  refine lv_istore (lv' := [(9, .int x22), (8, .int x14), (7, .int x13), (6, .int x12), (5, .int x9), (0, .ref (ad 31)), (1, .int a1), (2, .ref (ad 1)), (3, .int a3), (4, .int a4)]) hx hb dX1_judge_53 hl (by decide) rfl (fun ls hl => ?_)
  refine lv_iload hx hb dX1_judge_55 (lv_at hl 1 rfl) ?_
  refine lv_istore (lv' := [(10, .int x14), (9, .int x22), (8, .int x14), (7, .int x13), (6, .int x12), (5, .int x9), (0, .ref (ad 31)), (1, .int a1), (2, .ref (ad 1)), (3, .int a3), (4, .int a4)]) hx hb dX1_judge_57 hl (by decide) rfl (fun ls hl => ?_)
  have lp24 : ∀ (n25 : Nat) (x26 : Int32) (σ27 : Nat → Nat → Int32) (H : Heap) (locs : List Loc) (ls : Array Slot), (-x26.toInt + 3000000000 : Int) < n25 → 0 ≤ x26.toInt → (∀ i : Nat, (i < 34 ∨ 35 < i) → σ27 i = σ i) → jH D cI cL ad σ27 τ H → va_S (jA ad) s.heap H locs → lv_has ls 18 [(10, .int x26), (9, .int x22), (8, .int x14), (7, .int x13), (6, .int x12), (5, .int x9), (0, .ref (ad 31)), (1, .int a1), (2, .ref (ad 1)), (3, .int a3), (4, .int a4)] → W p l e ({ frames := 3, cells := 0, slots := 0, locals := 76 }) s m args below meth c H locs 0 0 Q (F0 m 59 ls []) := by
    intro n25
    induction n25 with
    | zero => intro x26 σ27 H locs ls h29 h30; have gx26 := jrg (rfl : x26.toInt = x26.toInt); exact absurd h29 (by omega)
    | succ n25 ihlp24 =>
      intro x26 σ27 H locs ls h29 h30 f31 hP hS hl
      have gx26 := jrg (rfl : x26.toInt = x26.toInt)
      refine lv_iload hx hb dX1_judge_59 (lv_at hl 0 rfl) ?_
      refine lv_iload hx hb dX1_judge_61 (lv_at hl 1 rfl) ?_
      refine lv_icmp_gt (tgt := 94) hx hb dX1_judge_63 (by decide) (fun c32 => ?_) (fun c32 => ?_)
      · have kc32 := jlt c32 rfl rfl
        refine lv_aload_n hx hb dX1_judge_94 rfl (lv_at hl 6 rfl) ?_
        refine va_get (D := D) hx hb hts inlX1 hown hK hP 31 (jc_31 cI cL ad σ27 τ) rfl 4 (by decide) (hts _ kw_5_5) (fun _ h9 => h9) rfl dX1_judge_95 ?_
        refine lv_iload hx hb dX1_judge_98 (lv_at hl 3 rfl) ?_
        refine lv_aload_n hx hb dX1_judge_100 rfl (lv_at hl 6 rfl) ?_
        refine va_get (D := D) hx hb hts inlX1 hown hK hP 31 (jc_31 cI cL ad σ27 τ) rfl 1 (by decide) (hts _ kw_5_11) (fun _ h9 => h9) rfl dX1_judge_101 ?_
        refine va_get (D := D) hx hb hts inlX6 hown hK hP 16 (jc_16 cI cL ad σ27 τ) rfl 0 (by decide) (hts _ kw_27_17) (fun _ h9 => h9) rfl dX1_judge_104 ?_
        have m33 : σ27 16 0 = (σ 16 0) := (congrFun (f31 16 (by decide)) 0)
        refine jtopr m33 ?_
        have g34 := jrg (rfl : (σ 16 0).toInt = (σ 16 0).toInt)
        refine lv_iadd hx hb dX1_judge_107 ?_
        refine lv_topi (fun x35 ex35 => ?_)
        have tx35 : x35.toInt = 9 * A1 + (σ 16 0).toInt := (jadd ex35 tx13 rfl (by omega) (by omega)).trans (by omega)
        refine lv_iconst (v := 0) hx hb dX1_judge_108 (by decide) ?_
        refine jast hx hb hK hP hJ hA hS (jc_34 cI cL ad σ27 τ) (ja_34 cI cL ad σ27 τ _ _) (jin tx35 (by omega) (by omega)) dX1_judge_109 (fun σ36 H locs eσ36 hP hS => ?_)
        refine lv_iconst (v := 0) hx hb dX1_judge_110 (by decide) ?_
        refine lv_istore (lv' := [(10, .int 0), (9, .int x22), (8, .int x14), (7, .int x13), (6, .int x12), (5, .int x9), (0, .ref (ad 31)), (1, .int a1), (2, .ref (ad 1)), (3, .int a3), (4, .int a4)]) hx hb dX1_judge_111 hl (by decide) rfl (fun ls hl => ?_)
        have lp37 : ∀ (n38 : Nat) (x39 : Int32) (σ47 : Nat → Nat → Int32) (H : Heap) (locs : List Loc) (ls : Array Slot), (-x39.toInt + 4 : Int) < n38 → 0 ≤ x39.toInt → x39.toInt ≤ 4 → (∀ i : Nat, (i < 24 ∨ 25 < i) ∧ (i < 29 ∨ 30 < i) ∧ (i < 34 ∨ 35 < i) → σ47 i = σ36 i) → jH D cI cL ad σ47 τ H → va_S (jA ad) s.heap H locs → lv_has ls 18 [(10, .int x39), (9, .int x22), (8, .int x14), (7, .int x13), (6, .int x12), (5, .int x9), (0, .ref (ad 31)), (1, .int a1), (2, .ref (ad 1)), (3, .int a3), (4, .int a4)] → W p l e ({ frames := 3, cells := 0, slots := 0, locals := 76 }) s m args below meth c H locs 0 0 Q (F0 m 113 ls []) := by
          intro n38
          induction n38 with
          | zero => intro x39 σ47 H locs ls h49 h50 h51; exact absurd h49 (by omega)
          | succ n38 ihlp37 =>
            intro x39 σ47 H locs ls h49 h50 h51 f52 hP hS hl
            refine lv_iload hx hb dX1_judge_113 (lv_at hl 0 rfl) ?_
            refine lv_iconst (v := 4) hx hb dX1_judge_115 (by decide) ?_
            refine lv_icmp_ge (tgt := 316) hx hb dX1_judge_116 (by decide) (fun c53 => ?_) (fun c53 => ?_)
            · have kc53 := jle c53 jz_4 rfl
              exact hret σ47 τ _ _ _ _ ⟨rfl, (fun i hi => ((f52 i hi).trans ((jnp i eσ36 (imp_95 i hi)).trans (f31 i (imp_96 i hi))))), trivial⟩ hP hS dX1_judge_316
            · have kc53 := jnle c53 jz_4 rfl
              refine lv_aload_n hx hb dX1_judge_119 rfl (lv_at hl 6 rfl) ?_
              refine va_get (D := D) hx hb hts inlX1 hown hK hP 31 (jc_31 cI cL ad σ47 τ) rfl 3 (by decide) (hts _ kw_5_4) (fun _ h9 => h9) rfl dX1_judge_120 ?_
              refine lv_iload_n hx hb dX1_judge_123 rfl (lv_at hl 7 rfl) ?_
              refine lv_iconst (v := 4) hx hb dX1_judge_124 (by decide) ?_
              refine lv_imul hx hb dX1_judge_125 ?_
              refine lv_topi (fun x54 ex54 => ?_)
              have tx54 : x54.toInt = 4 * A1 := (jmul ex54 t1 jz_4 (by omega) (by omega)).trans (by omega)
              refine lv_iload hx hb dX1_judge_126 (lv_at hl 0 rfl) ?_
              have g55 := jrg (rfl : x39.toInt = x39.toInt)
              refine lv_iadd hx hb dX1_judge_128 ?_
              refine lv_topi (fun x56 ex56 => ?_)
              have tx56 : x56.toInt = 4 * A1 + x39.toInt := (jadd ex56 tx54 rfl (by omega) (by omega)).trans (by omega)
              refine jald hx hb hK hP (jc_33 cI cL ad σ47 τ) (jin tx56 (by omega) (by omega)) dX1_judge_129 ?_
              have w57 : ∀ k : Nat, k < 1400 → (-1) ≤ (σ47 33 k).toInt ∧ (σ47 33 k).toInt ≤ 350 := (jrr_fr (f52 33 (by decide)) (jrr_fr (jnp 33 eσ36 (by decide)) (jrr_fr (f31 33 (by decide)) w6)))
              have g58 := w57 _ (jnat (x := x56) tx56 (n := 1400) (by omega) (by decide))
              refine lv_topi (fun x59 ex59 => ?_)
              rw [← ex59] at g58
              refine lv_bipush (v := 9) hx hb dX1_judge_130 (by decide) ?_
              have g60 := jrg (rfl : x59.toInt = x59.toInt)
              refine lv_imul hx hb dX1_judge_132 ?_
              refine lv_topi (fun x61 ex61 => ?_)
              have tx61 : x61.toInt = 9 * x59.toInt := (jmul ex61 rfl jz_9 (by omega) (by omega)).trans (by omega)
              refine lv_istore (lv' := [(11, .int x61), (10, .int x39), (9, .int x22), (8, .int x14), (7, .int x13), (6, .int x12), (5, .int x9), (0, .ref (ad 31)), (1, .int a1), (2, .ref (ad 1)), (3, .int a3), (4, .int a4)]) hx hb dX1_judge_133 hl (by decide) rfl (fun ls hl => ?_)
              refine lv_iload hx hb dX1_judge_135 (lv_at hl 0 rfl) ?_
              refine lv_if_ge (tgt := 143) hx hb dX1_judge_137 (by decide) (fun c62 => ?_) (fun c62 => ?_)
              · have kc62 := jle c62 jz_0 tx61
                refine lv_iload hx hb dX1_judge_143 (lv_at hl 6 rfl) ?_
                refine lv_iload hx hb dX1_judge_145 (lv_at hl 1 rfl) ?_
                refine jcallS (As := [.int x9, .int x39]) (rest := []) ⟨hx, hb, hml, hown, hts⟩ hK hP hA hS hZ (c_X0_steps l D cI cL ad zz hJ σ47 τ x9 (x9.toInt) rfl x39 (x39.toInt) rfl) cw_RX1_136 ⟨Nat.le_of_ble_eq_true rfl, Nat.le_of_ble_eq_true rfl⟩ rfl rfl rfl hl.1 rfl (Nat.le_of_ble_eq_true rfl) dX1_judge_147 ⟨Nat.zero_le _, Nat.zero_le _⟩ (fun r64 σ63 τ63 H locs h63 hP hS => ?_)
                obtain ⟨⟨rfl, rfl⟩, h63⟩ := h63
                refine lv_istore (lv' := [(12, .int r64), (11, .int x61), (10, .int x39), (9, .int x22), (8, .int x14), (7, .int x13), (6, .int x12), (5, .int x9), (0, .ref (ad 31)), (1, .int a1), (2, .ref (ad 1)), (3, .int a3), (4, .int a4)]) hx hb dX1_judge_150 hl (by decide) rfl (fun ls hl => ?_)
                refine lv_iload hx hb dX1_judge_152 (lv_at hl 7 rfl) ?_
                refine lv_iload hx hb dX1_judge_154 (lv_at hl 2 rfl) ?_
                refine jcallS (As := [.int x9, .int x39]) (rest := []) ⟨hx, hb, hml, hown, hts⟩ hK hP hA hS hZ (c_X0_left l D cI cL ad zz hJ σ47 τ x9 (x9.toInt) rfl x39 (x39.toInt) rfl) cw_RX1_123 ⟨Nat.le_of_ble_eq_true rfl, Nat.le_of_ble_eq_true rfl⟩ rfl rfl rfl hl.1 rfl (Nat.le_of_ble_eq_true rfl) dX1_judge_156 ⟨Nat.zero_le _, Nat.zero_le _⟩ (fun r66 σ65 τ65 H locs h65 hP hS => ?_)
                obtain ⟨⟨rfl, rfl⟩, h65⟩ := h65
                refine lv_istore (lv' := [(13, .int r66), (12, .int r64), (11, .int x61), (10, .int x39), (9, .int x22), (8, .int x14), (7, .int x13), (6, .int x12), (5, .int x9), (0, .ref (ad 31)), (1, .int a1), (2, .ref (ad 1)), (3, .int a3), (4, .int a4)]) hx hb dX1_judge_159 hl (by decide) rfl (fun ls hl => ?_)
                refine lv_iload hx hb dX1_judge_161 (lv_at hl 5 rfl) ?_
                refine lv_istore (lv' := [(14, .int x14), (13, .int r66), (12, .int r64), (11, .int x61), (10, .int x39), (9, .int x22), (8, .int x14), (7, .int x13), (6, .int x12), (5, .int x9), (0, .ref (ad 31)), (1, .int a1), (2, .ref (ad 1)), (3, .int a3), (4, .int a4)]) hx hb dX1_judge_163 hl (by decide) rfl (fun ls hl => ?_)
                have lp67 : ∀ (n68 : Nat) (x69 : Int32) (σ73 : Nat → Nat → Int32) (H : Heap) (locs : List Loc) (ls : Array Slot), (-x69.toInt + 3000000000 : Int) < n68 → 0 ≤ x69.toInt → (∀ i : Nat, (i < 24 ∨ 25 < i) ∧ (i < 29 ∨ 30 < i) ∧ (i < 34 ∨ 35 < i) → σ73 i = σ47 i) → jH D cI cL ad σ73 τ H → va_S (jA ad) s.heap H locs → lv_has ls 18 [(14, .int x69), (13, .int r66), (12, .int r64), (11, .int x61), (10, .int x39), (9, .int x22), (8, .int x14), (7, .int x13), (6, .int x12), (5, .int x9), (0, .ref (ad 31)), (1, .int a1), (2, .ref (ad 1)), (3, .int a3), (4, .int a4)] → W p l e ({ frames := 3, cells := 0, slots := 0, locals := 76 }) s m args below meth c H locs 0 0 Q (F0 m 165 ls []) := by
                  intro n68
                  induction n68 with
                  | zero => intro x69 σ73 H locs ls h75 h76; have gx69 := jrg (rfl : x69.toInt = x69.toInt); exact absurd h75 (by omega)
                  | succ n68 ihlp67 =>
                    intro x69 σ73 H locs ls h75 h76 f77 hP hS hl
                    have gx69 := jrg (rfl : x69.toInt = x69.toInt)
                    refine lv_iload hx hb dX1_judge_165 (lv_at hl 0 rfl) ?_
                    refine lv_iload hx hb dX1_judge_167 (lv_at hl 5 rfl) ?_
                    refine lv_icmp_gt (tgt := 310) hx hb dX1_judge_169 (by decide) (fun c78 => ?_) (fun c78 => ?_)
                    · have kc78 := jlt c78 rfl rfl
                      obtain ⟨x79, ex79⟩ : ∃ y : Int32, y = x39 + 1 := ⟨_, rfl⟩
                      have tx79 : x79.toInt = x39.toInt + 1 := (jadd ex79 rfl jz_1 (by omega) (by omega)).trans (by omega)
                      refine lv_iinc (v := x79) (lv' := [(10, .int x79), (14, .int x69), (13, .int r66), (12, .int r64), (11, .int x61), (9, .int x22), (8, .int x14), (7, .int x13), (6, .int x12), (5, .int x9), (0, .ref (ad 31)), (1, .int a1), (2, .ref (ad 1)), (3, .int a3), (4, .int a4)]) hx hb dX1_judge_310 hl (k := 4) rfl (by rw [ex79]; rfl) (by decide) rfl (fun ls hl => ?_)
                      refine lv_goto (tgt := 113) hx hb dX1_judge_313 (by decide) ?_
                      exact ihlp37 x79 σ73 _ _ ls (by have h90 := tx79; omega) (by have h90 := tx79; omega) (by have h90 := tx79; omega) (fun i hi => ((f77 i hi).trans (f52 i hi)))    hP hS (lv_sub hl [0, 5, 6, 7, 8, 9, 10, 11, 12, 13, 14] rfl)
                    · have kc78 := jnlt c78 rfl rfl
                      refine lv_aload_n hx hb dX1_judge_172 rfl (lv_at hl 10 rfl) ?_
                      refine va_get (D := D) hx hb hts inlX1 hown hK hP 31 (jc_31 cI cL ad σ73 τ) rfl 0 (by decide) (hts _ kw_5_10) (fun _ h9 => h9) rfl dX1_judge_173 ?_
                      refine lv_iload hx hb dX1_judge_176 (lv_at hl 4 rfl) ?_
                      refine lv_aload_n hx hb dX1_judge_178 rfl (lv_at hl 12 rfl) ?_
                      refine lv_iload hx hb dX1_judge_179 (lv_at hl 0 rfl) ?_
                      refine jald hx hb hK hP (jc_1 cI cL ad σ73 τ) (jin rfl (by omega) (by omega)) dX1_judge_181 ?_
                      refine lv_topi (fun x80 ex80 => ?_)
                      refine lv_iload hx hb dX1_judge_182 (lv_at hl 2 rfl) ?_
                      refine jcallV (As := [.int x39, .int x80, .int r64]) (rest := []) ⟨hx, hb, hml, hown, hts⟩ hK hP hA hS hZ (c_X5_runsOf_26 l D cI cL ad zz hJ σ73 τ x39 (x39.toInt) rfl x80 (x80.toInt) rfl r64 (r64.toInt) rfl) cw_RX1_139 (jc_26 cI cL ad σ73 τ) rfl ⟨Nat.le_of_ble_eq_true rfl, Nat.le_of_ble_eq_true rfl⟩ rfl rfl rfl hl.1 rfl (Nat.le_of_ble_eq_true rfl) dX1_judge_184 ⟨Nat.zero_le _, Nat.zero_le _⟩ (fun r82 σ81 τ81 H locs h81 hP hS => ?_)
                      obtain ⟨⟨rfl, rfl⟩, h81⟩ := h81
                      refine lv_istore (lv' := [(15, .int r82), (14, .int x69), (13, .int r66), (12, .int r64), (11, .int x61), (10, .int x39), (9, .int x22), (8, .int x14), (7, .int x13), (6, .int x12), (5, .int x9), (0, .ref (ad 31)), (1, .int a1), (2, .ref (ad 1)), (3, .int a3), (4, .int a4)]) hx hb dX1_judge_187 hl (by decide) rfl (fun ls hl => ?_)
                      refine lv_aload_n hx hb dX1_judge_189 rfl (lv_at hl 11 rfl) ?_
                      refine va_get (D := D) hx hb hts inlX1 hown hK hP 31 (jc_31 cI cL ad σ73 τ) rfl 0 (by decide) (hts _ kw_5_10) (fun _ h9 => h9) rfl dX1_judge_190 ?_
                      refine lv_iload hx hb dX1_judge_193 (lv_at hl 5 rfl) ?_
                      refine lv_aload_n hx hb dX1_judge_195 rfl (lv_at hl 13 rfl) ?_
                      refine lv_iload hx hb dX1_judge_196 (lv_at hl 1 rfl) ?_
                      refine jald hx hb hK hP (jc_1 cI cL ad σ73 τ) (jin rfl (by omega) (by omega)) dX1_judge_198 ?_
                      refine lv_topi (fun x83 ex83 => ?_)
                      refine lv_iload hx hb dX1_judge_199 (lv_at hl 3 rfl) ?_
                      refine lv_iload hx hb dX1_judge_201 (lv_at hl 2 rfl) ?_
                      refine lv_aload_n hx hb dX1_judge_203 rfl (lv_at hl 11 rfl) ?_
                      refine va_get (D := D) hx hb hts inlX1 hown hK hP 31 (jc_31 cI cL ad σ73 τ) rfl 10 (by decide) (hts _ kw_28_9) (fun _ h9 => h9) rfl dX1_judge_204 ?_
                      have m84 : σ73 31 10 = (σ 31 10) := ((congrFun (f77 31 (by decide)) 10).trans ((congrFun (f52 31 (by decide)) 10).trans ((congrFun (jnp 31 eσ36 (by decide)) 10).trans (congrFun (f31 31 (by decide)) 10))))
                      refine jtopr m84 ?_
                      refine lv_iload hx hb dX1_judge_207 (lv_at hl 9 rfl) ?_
                      have g85 := jrg (rfl : (σ 31 10).toInt = (σ 31 10).toInt)
                      refine lv_iadd hx hb dX1_judge_209 ?_
                      refine lv_topi (fun x86 ex86 => ?_)
                      have gx86 := jrg (rfl : x86.toInt = x86.toInt)
                      refine lv_iload hx hb dX1_judge_210 (lv_at hl 1 rfl) ?_
                      have I87 : jI22 σ73 := jI22_fr ((congrFun (f77 22 (by decide)) 0).trans ((congrFun (f52 22 (by decide)) 0).trans ((congrFun (jnp 22 eσ36 (by decide)) 0).trans (congrFun (f31 22 (by decide)) 0)))) ((f77 23 (by decide)).trans ((f52 23 (by decide)).trans ((jnp 23 eσ36 (by decide)).trans (f31 23 (by decide))))) hI22
                      refine jcallV (As := [.int x39, .int x83, .int r64, .int r66, .int x86, .int x69]) (rest := []) ⟨hx, hb, hml, hown, hts⟩ hK hP hA hS hZ (c_X5_outOf_26 l D cI cL ad zz hJ σ73 τ x39 (x39.toInt) rfl x83 (x83.toInt) rfl r64 (r64.toInt) rfl r66 (r66.toInt) rfl x86 (x86.toInt) rfl x69 (x69.toInt) rfl I87) cw_RX1_142 (jc_26 cI cL ad σ73 τ) rfl ⟨Nat.le_of_ble_eq_true rfl, Nat.le_of_ble_eq_true rfl⟩ rfl rfl rfl hl.1 rfl (Nat.le_of_ble_eq_true rfl) dX1_judge_212 ⟨Nat.zero_le _, Nat.zero_le _⟩ (fun r89 σ88 τ88 H locs h88 hP hS => ?_)
                      obtain ⟨rfl, f90, h88⟩ := h88
                      refine lv_istore (lv' := [(16, .int r89), (15, .int r82), (14, .int x69), (13, .int r66), (12, .int r64), (11, .int x61), (10, .int x39), (9, .int x22), (8, .int x14), (7, .int x13), (6, .int x12), (5, .int x9), (0, .ref (ad 31)), (1, .int a1), (2, .ref (ad 1)), (3, .int a3), (4, .int a4)]) hx hb dX1_judge_215 hl (by decide) rfl (fun ls hl => ?_)
                      refine lv_aload_n hx hb dX1_judge_217 rfl (lv_at hl 12 rfl) ?_
                      refine va_get (D := D) hx hb hts inlX1 hown hK hP 31 (jc_31 cI cL ad σ88 τ) rfl 1 (by decide) (hts _ kw_5_11) (fun _ h9 => h9) rfl dX1_judge_218 ?_
                      refine lv_iload hx hb dX1_judge_221 (lv_at hl 1 rfl) ?_
                      refine lv_iload hx hb dX1_judge_223 (lv_at hl 0 rfl) ?_
                      refine lv_aload_n hx hb dX1_judge_225 rfl (lv_at hl 12 rfl) ?_
                      refine va_get (D := D) hx hb hts inlX1 hown hK hP 31 (jc_31 cI cL ad σ88 τ) rfl 4 (by decide) (hts _ kw_5_5) (fun _ h9 => h9) rfl dX1_judge_226 ?_
                      refine lv_iload hx hb dX1_judge_229 (lv_at hl 5 rfl) ?_
                      refine lv_iload hx hb dX1_judge_231 (lv_at hl 2 rfl) ?_
                      have g92 := jrg (rfl : x69.toInt = x69.toInt)
                      refine lv_iadd hx hb dX1_judge_233 ?_
                      refine lv_topi (fun x93 ex93 => ?_)
                      have tx93 : x93.toInt = 9 * x59.toInt + x69.toInt := (jadd ex93 tx61 rfl (by omega) (by omega)).trans (by omega)
                      refine lv_iconst (v := 1) hx hb dX1_judge_234 (by decide) ?_
                      refine lv_iadd hx hb dX1_judge_235 ?_
                      refine lv_topi (fun x94 ex94 => ?_)
                      have tx94 : x94.toInt = 9 * x59.toInt + x69.toInt + 1 := (jadd ex94 tx93 jz_1 (by omega) (by omega)).trans (by omega)
                      refine jald hx hb hK hP (jc_34 cI cL ad σ88 τ) (jin tx94 (by omega) (by omega)) dX1_judge_236 ?_
                      refine lv_topi (fun x95 ex95 => ?_)
                      refine lv_aload_n hx hb dX1_judge_237 rfl (lv_at hl 12 rfl) ?_
                      refine va_get (D := D) hx hb hts inlX1 hown hK hP 31 (jc_31 cI cL ad σ88 τ) rfl 4 (by decide) (hts _ kw_5_5) (fun _ h9 => h9) rfl dX1_judge_238 ?_
                      refine lv_iload hx hb dX1_judge_241 (lv_at hl 5 rfl) ?_
                      refine lv_iload hx hb dX1_judge_243 (lv_at hl 2 rfl) ?_
                      refine lv_iadd hx hb dX1_judge_245 ?_
                      refine lv_topi (fun x96 ex96 => ?_)
                      have tx96 : x96.toInt = 9 * x59.toInt + x69.toInt := (jadd ex96 tx61 rfl (by omega) (by omega)).trans (by omega)
                      refine jald hx hb hK hP (jc_34 cI cL ad σ88 τ) (jin tx96 (by omega) (by omega)) dX1_judge_246 ?_
                      refine lv_topi (fun x97 ex97 => ?_)
                      refine jcallV (As := [.int r82, .int r89, .int x95, .int x97]) (rest := []) ⟨hx, hb, hml, hown, hts⟩ hK hP hA hS hZ (c_X6_meanOf_16 l D cI cL ad zz hJ σ88 τ r82 (r82.toInt) rfl r89 (r89.toInt) rfl x95 (x95.toInt) rfl x97 (x97.toInt) rfl) cw_RX1_146 (jc_16 cI cL ad σ88 τ) rfl ⟨Nat.le_of_ble_eq_true rfl, Nat.le_of_ble_eq_true rfl⟩ rfl rfl rfl hl.1 rfl (Nat.le_of_ble_eq_true rfl) dX1_judge_247 ⟨Nat.zero_le _, Nat.zero_le _⟩ (fun r99 σ98 τ98 H locs h98 hP hS => ?_)
                      obtain ⟨⟨rfl, rfl⟩, h98⟩ := h98
                      refine lv_istore (lv' := [(17, .int r99), (16, .int r89), (15, .int r82), (14, .int x69), (13, .int r66), (12, .int r64), (11, .int x61), (10, .int x39), (9, .int x22), (8, .int x14), (7, .int x13), (6, .int x12), (5, .int x9), (0, .ref (ad 31)), (1, .int a1), (2, .ref (ad 1)), (3, .int a3), (4, .int a4)]) hx hb dX1_judge_250 hl (by decide) rfl (fun ls hl => ?_)
                      refine lv_aload_n hx hb dX1_judge_252 rfl (lv_at hl 13 rfl) ?_
                      refine va_get (D := D) hx hb hts inlX1 hown hK hP 31 (jc_31 cI cL ad σ88 τ) rfl 5 (by decide) (hts _ kw_5_6) (fun _ h9 => h9) rfl dX1_judge_253 ?_
                      refine lv_iload hx hb dX1_judge_256 (lv_at hl 10 rfl) ?_
                      refine lv_iload hx hb dX1_judge_258 (lv_at hl 3 rfl) ?_
                      refine lv_iadd hx hb dX1_judge_260 ?_
                      refine lv_topi (fun x100 ex100 => ?_)
                      have tx100 : x100.toInt = 9 * A1 + x69.toInt := (jadd ex100 tx13 rfl (by omega) (by omega)).trans (by omega)
                      refine jald hx hb hK hP (jc_35 cI cL ad σ88 τ) (jin tx100 (by omega) (by omega)) dX1_judge_261 ?_
                      refine lv_topi (fun x101 ex101 => ?_)
                      refine lv_if_lt (tgt := 280) hx hb dX1_judge_262 (by decide) (fun c102 => ?_) (fun c102 => ?_)
                      · have kc102 := jlt c102 rfl jz_0
                        refine lv_aload_n hx hb dX1_judge_280 rfl (lv_at hl 13 rfl) ?_
                        refine va_get (D := D) hx hb hts inlX1 hown hK hP 31 (jc_31 cI cL ad σ88 τ) rfl 4 (by decide) (hts _ kw_5_5) (fun _ h9 => h9) rfl dX1_judge_281 ?_
                        refine lv_iload hx hb dX1_judge_284 (lv_at hl 10 rfl) ?_
                        refine lv_iload hx hb dX1_judge_286 (lv_at hl 3 rfl) ?_
                        refine lv_iadd hx hb dX1_judge_288 ?_
                        refine lv_topi (fun x103 ex103 => ?_)
                        have tx103 : x103.toInt = 9 * A1 + x69.toInt := (jadd ex103 tx13 rfl (by omega) (by omega)).trans (by omega)
                        refine lv_iload hx hb dX1_judge_289 (lv_at hl 0 rfl) ?_
                        refine jast hx hb hK hP hJ hA hS (jc_34 cI cL ad σ88 τ) (ja_34 cI cL ad σ88 τ _ _) (jin tx103 (by omega) (by omega)) dX1_judge_291 (fun σ104 H locs eσ104 hP hS => ?_)
                        refine lv_aload_n hx hb dX1_judge_292 rfl (lv_at hl 13 rfl) ?_
                        refine va_get (D := D) hx hb hts inlX1 hown hK hP 31 (jc_31 cI cL ad σ104 τ) rfl 5 (by decide) (hts _ kw_5_6) (fun _ h9 => h9) rfl dX1_judge_293 ?_
                        refine lv_iload hx hb dX1_judge_296 (lv_at hl 10 rfl) ?_
                        refine lv_iload hx hb dX1_judge_298 (lv_at hl 3 rfl) ?_
                        refine lv_iadd hx hb dX1_judge_300 ?_
                        refine lv_topi (fun x105 ex105 => ?_)
                        have tx105 : x105.toInt = 9 * A1 + x69.toInt := (jadd ex105 tx13 rfl (by omega) (by omega)).trans (by omega)
                        refine lv_iload hx hb dX1_judge_301 (lv_at hl 7 rfl) ?_
                        refine jast hx hb hK hP hJ hA hS (jc_35 cI cL ad σ104 τ) (ja_35 cI cL ad σ104 τ _ _) (jin tx105 (by omega) (by omega)) dX1_judge_303 (fun σ106 H locs eσ106 hP hS => ?_)
                        obtain ⟨x107, ex107⟩ : ∃ y : Int32, y = x69 + 1 := ⟨_, rfl⟩
                        have tx107 : x107.toInt = x69.toInt + 1 := (jadd ex107 rfl jz_1 (by omega) (by omega)).trans (by omega)
                        refine lv_iinc (v := x107) (lv' := [(14, .int x107), (17, .int r99), (16, .int r89), (15, .int r82), (13, .int r66), (12, .int r64), (11, .int x61), (10, .int x39), (9, .int x22), (8, .int x14), (7, .int x13), (6, .int x12), (5, .int x9), (0, .ref (ad 31)), (1, .int a1), (2, .ref (ad 1)), (3, .int a3), (4, .int a4)]) hx hb dX1_judge_304 hl (k := 3) rfl (by rw [ex107]; rfl) (by decide) rfl (fun ls hl => ?_)
                        refine lv_goto (tgt := 165) hx hb dX1_judge_307 (by decide) ?_
                        exact ihlp67 x107 σ106 _ _ ls (by have h90 := tx107; omega) (by have h90 := tx107; omega) (fun i hi => ((jnp i eσ106 (imp_97 i hi)).trans ((jnp i eσ104 (imp_95 i hi)).trans ((f90 i (imp_98 i hi)).trans (f77 i hi)))))    hP hS (lv_sub hl [0, 4, 5, 6, 7, 8, 9, 10, 11, 12, 13, 14, 15, 16, 17] rfl)
                      · have kc102 := jnlt c102 rfl jz_0
                        refine lv_iload hx hb dX1_judge_265 (lv_at hl 0 rfl) ?_
                        refine lv_aload_n hx hb dX1_judge_267 rfl (lv_at hl 13 rfl) ?_
                        refine va_get (D := D) hx hb hts inlX1 hown hK hP 31 (jc_31 cI cL ad σ88 τ) rfl 4 (by decide) (hts _ kw_5_5) (fun _ h9 => h9) rfl dX1_judge_268 ?_
                        refine lv_iload hx hb dX1_judge_271 (lv_at hl 10 rfl) ?_
                        refine lv_iload hx hb dX1_judge_273 (lv_at hl 3 rfl) ?_
                        refine lv_iadd hx hb dX1_judge_275 ?_
                        refine lv_topi (fun x108 ex108 => ?_)
                        have tx108 : x108.toInt = 9 * A1 + x69.toInt := (jadd ex108 tx13 rfl (by omega) (by omega)).trans (by omega)
                        refine jald hx hb hK hP (jc_34 cI cL ad σ88 τ) (jin tx108 (by omega) (by omega)) dX1_judge_276 ?_
                        refine lv_topi (fun x109 ex109 => ?_)
                        refine lv_icmp_ge (tgt := 304) hx hb dX1_judge_277 (by decide) (fun c110 => ?_) (fun c110 => ?_)
                        · have kc110 := jle c110 rfl rfl
                          obtain ⟨x111, ex111⟩ : ∃ y : Int32, y = x69 + 1 := ⟨_, rfl⟩
                          have tx111 : x111.toInt = x69.toInt + 1 := (jadd ex111 rfl jz_1 (by omega) (by omega)).trans (by omega)
                          refine lv_iinc (v := x111) (lv' := [(14, .int x111), (17, .int r99), (16, .int r89), (15, .int r82), (13, .int r66), (12, .int r64), (11, .int x61), (10, .int x39), (9, .int x22), (8, .int x14), (7, .int x13), (6, .int x12), (5, .int x9), (0, .ref (ad 31)), (1, .int a1), (2, .ref (ad 1)), (3, .int a3), (4, .int a4)]) hx hb dX1_judge_304 hl (k := 3) rfl (by rw [ex111]; rfl) (by decide) rfl (fun ls hl => ?_)
                          refine lv_goto (tgt := 165) hx hb dX1_judge_307 (by decide) ?_
                          exact ihlp67 x111 σ88 _ _ ls (by have h90 := tx111; omega) (by have h90 := tx111; omega) (fun i hi => ((f90 i (imp_98 i hi)).trans (f77 i hi)))    hP hS (lv_sub hl [0, 4, 5, 6, 7, 8, 9, 10, 11, 12, 13, 14, 15, 16, 17] rfl)
                        · have kc110 := jnle c110 rfl rfl
                          refine lv_aload_n hx hb dX1_judge_280 rfl (lv_at hl 13 rfl) ?_
                          refine va_get (D := D) hx hb hts inlX1 hown hK hP 31 (jc_31 cI cL ad σ88 τ) rfl 4 (by decide) (hts _ kw_5_5) (fun _ h9 => h9) rfl dX1_judge_281 ?_
                          refine lv_iload hx hb dX1_judge_284 (lv_at hl 10 rfl) ?_
                          refine lv_iload hx hb dX1_judge_286 (lv_at hl 3 rfl) ?_
                          refine lv_iadd hx hb dX1_judge_288 ?_
                          refine lv_topi (fun x112 ex112 => ?_)
                          have tx112 : x112.toInt = 9 * A1 + x69.toInt := (jadd ex112 tx13 rfl (by omega) (by omega)).trans (by omega)
                          refine lv_iload hx hb dX1_judge_289 (lv_at hl 0 rfl) ?_
                          refine jast hx hb hK hP hJ hA hS (jc_34 cI cL ad σ88 τ) (ja_34 cI cL ad σ88 τ _ _) (jin tx112 (by omega) (by omega)) dX1_judge_291 (fun σ113 H locs eσ113 hP hS => ?_)
                          refine lv_aload_n hx hb dX1_judge_292 rfl (lv_at hl 13 rfl) ?_
                          refine va_get (D := D) hx hb hts inlX1 hown hK hP 31 (jc_31 cI cL ad σ113 τ) rfl 5 (by decide) (hts _ kw_5_6) (fun _ h9 => h9) rfl dX1_judge_293 ?_
                          refine lv_iload hx hb dX1_judge_296 (lv_at hl 10 rfl) ?_
                          refine lv_iload hx hb dX1_judge_298 (lv_at hl 3 rfl) ?_
                          refine lv_iadd hx hb dX1_judge_300 ?_
                          refine lv_topi (fun x114 ex114 => ?_)
                          have tx114 : x114.toInt = 9 * A1 + x69.toInt := (jadd ex114 tx13 rfl (by omega) (by omega)).trans (by omega)
                          refine lv_iload hx hb dX1_judge_301 (lv_at hl 7 rfl) ?_
                          refine jast hx hb hK hP hJ hA hS (jc_35 cI cL ad σ113 τ) (ja_35 cI cL ad σ113 τ _ _) (jin tx114 (by omega) (by omega)) dX1_judge_303 (fun σ115 H locs eσ115 hP hS => ?_)
                          obtain ⟨x116, ex116⟩ : ∃ y : Int32, y = x69 + 1 := ⟨_, rfl⟩
                          have tx116 : x116.toInt = x69.toInt + 1 := (jadd ex116 rfl jz_1 (by omega) (by omega)).trans (by omega)
                          refine lv_iinc (v := x116) (lv' := [(14, .int x116), (17, .int r99), (16, .int r89), (15, .int r82), (13, .int r66), (12, .int r64), (11, .int x61), (10, .int x39), (9, .int x22), (8, .int x14), (7, .int x13), (6, .int x12), (5, .int x9), (0, .ref (ad 31)), (1, .int a1), (2, .ref (ad 1)), (3, .int a3), (4, .int a4)]) hx hb dX1_judge_304 hl (k := 3) rfl (by rw [ex116]; rfl) (by decide) rfl (fun ls hl => ?_)
                          refine lv_goto (tgt := 165) hx hb dX1_judge_307 (by decide) ?_
                          exact ihlp67 x116 σ115 _ _ ls (by have h90 := tx116; omega) (by have h90 := tx116; omega) (fun i hi => ((jnp i eσ115 (imp_97 i hi)).trans ((jnp i eσ113 (imp_95 i hi)).trans ((f90 i (imp_98 i hi)).trans (f77 i hi)))))    hP hS (lv_sub hl [0, 4, 5, 6, 7, 8, 9, 10, 11, 12, 13, 14, 15, 16, 17] rfl)
                exact lp67 3000000001 x14 σ47 _ _ ls (by omega) (by omega) (fun _ _ => rfl)   hP hS hl
              · have kc62 := jnle c62 jz_0 tx61
                refine lv_goto (tgt := 310) hx hb dX1_judge_140 (by decide) ?_
                obtain ⟨x117, ex117⟩ : ∃ y : Int32, y = x39 + 1 := ⟨_, rfl⟩
                have tx117 : x117.toInt = x39.toInt + 1 := (jadd ex117 rfl jz_1 (by omega) (by omega)).trans (by omega)
                refine lv_iinc (v := x117) (lv' := [(10, .int x117), (11, .int x61), (9, .int x22), (8, .int x14), (7, .int x13), (6, .int x12), (5, .int x9), (0, .ref (ad 31)), (1, .int a1), (2, .ref (ad 1)), (3, .int a3), (4, .int a4)]) hx hb dX1_judge_310 hl (k := 1) rfl (by rw [ex117]; rfl) (by decide) rfl (fun ls hl => ?_)
                refine lv_goto (tgt := 113) hx hb dX1_judge_313 (by decide) ?_
                exact ihlp37 x117 σ47 _ _ ls (by have h90 := tx117; omega) (by have h90 := tx117; omega) (by have h90 := tx117; omega) (fun i hi => (f52 i hi))    hP hS (lv_sub hl [0, 2, 3, 4, 5, 6, 7, 8, 9, 10, 11] rfl)
        exact lp37 1000000 0 σ36 _ _ ls (by have h90 := jz_0; omega) (by have h90 := jz_0; omega) (by have h90 := jz_0; omega) (fun _ _ => rfl)   hP hS hl
      · have kc32 := jnlt c32 rfl rfl
        refine lv_aload_n hx hb dX1_judge_66 rfl (lv_at hl 6 rfl) ?_
        refine va_get (D := D) hx hb hts inlX1 hown hK hP 31 (jc_31 cI cL ad σ27 τ) rfl 4 (by decide) (hts _ kw_5_5) (fun _ h9 => h9) rfl dX1_judge_67 ?_
        refine lv_iload hx hb dX1_judge_70 (lv_at hl 3 rfl) ?_
        refine lv_iload hx hb dX1_judge_72 (lv_at hl 0 rfl) ?_
        have g118 := jrg (rfl : x26.toInt = x26.toInt)
        refine lv_iadd hx hb dX1_judge_74 ?_
        refine lv_topi (fun x119 ex119 => ?_)
        have tx119 : x119.toInt = 9 * A1 + x26.toInt := (jadd ex119 tx13 rfl (by omega) (by omega)).trans (by omega)
        refine lv_iconst (v := 0) hx hb dX1_judge_75 (by decide) ?_
        refine jast hx hb hK hP hJ hA hS (jc_34 cI cL ad σ27 τ) (ja_34 cI cL ad σ27 τ _ _) (jin tx119 (by omega) (by omega)) dX1_judge_76 (fun σ120 H locs eσ120 hP hS => ?_)
        refine lv_aload_n hx hb dX1_judge_77 rfl (lv_at hl 6 rfl) ?_
        refine va_get (D := D) hx hb hts inlX1 hown hK hP 31 (jc_31 cI cL ad σ120 τ) rfl 5 (by decide) (hts _ kw_5_6) (fun _ h9 => h9) rfl dX1_judge_78 ?_
        refine lv_iload hx hb dX1_judge_81 (lv_at hl 3 rfl) ?_
        refine lv_iload hx hb dX1_judge_83 (lv_at hl 0 rfl) ?_
        refine lv_iadd hx hb dX1_judge_85 ?_
        refine lv_topi (fun x121 ex121 => ?_)
        have tx121 : x121.toInt = 9 * A1 + x26.toInt := (jadd ex121 tx13 rfl (by omega) (by omega)).trans (by omega)
        refine lv_iconst (v := (-1)) hx hb dX1_judge_86 (by decide) ?_
        refine jast hx hb hK hP hJ hA hS (jc_35 cI cL ad σ120 τ) (ja_35 cI cL ad σ120 τ _ _) (jin tx121 (by omega) (by omega)) dX1_judge_87 (fun σ122 H locs eσ122 hP hS => ?_)
        obtain ⟨x123, ex123⟩ : ∃ y : Int32, y = x26 + 1 := ⟨_, rfl⟩
        have tx123 : x123.toInt = x26.toInt + 1 := (jadd ex123 rfl jz_1 (by omega) (by omega)).trans (by omega)
        refine lv_iinc (v := x123) (lv' := [(10, .int x123), (9, .int x22), (8, .int x14), (7, .int x13), (6, .int x12), (5, .int x9), (0, .ref (ad 31)), (1, .int a1), (2, .ref (ad 1)), (3, .int a3), (4, .int a4)]) hx hb dX1_judge_88 hl (k := 0) rfl (by rw [ex123]; rfl) (by decide) rfl (fun ls hl => ?_)
        refine lv_goto (tgt := 59) hx hb dX1_judge_91 (by decide) ?_
        exact ihlp24 x123 σ122 _ _ ls (by have h90 := tx123; omega) (by have h90 := tx123; omega) (fun i hi => ((jnp i eσ122 (imp_99 i hi)).trans ((jnp i eσ120 (imp_100 i hi)).trans (f31 i hi))))    hP hS (lv_sub hl [0, 1, 2, 3, 4, 5, 6, 7, 8, 9, 10] rfl)
  exact lp24 3000000001 x14 σ _ _ ls (by omega) (by omega) (fun _ _ => rfl)   hP hS hl
set_option maxHeartbeats 4000000 in
set_option maxRecDepth 100000 in
theorem c_X1_seekFor_31_v1 (l : Launch) (D : va_G) (cI cL : ClassId) (ad zz : Nat → Nat) (hJ : jD ad) (σ : Nat → Nat → Int32) (τ : Nat → Nat → Int64) (a2 : Int32) (A2 : Int) (t2 : a2.toInt = A2) (a3 : Int32) (A3 : Int) (t3 : a3.toInt = A3) (a4 : Int32) (A4 : Int) (t4 : a4.toInt = A4) (a5 : Int32) (A5 : Int) (t5 : a5.toInt = A5) (hI16 : jI16 σ) (hI22 : jI22 σ) (hI31 : jI31 σ) : jMv l yX1_seekFor cX1_seekFor 7 none ({ frames := 4, cells := 0, slots := 0, locals := 113 }) D cI cL ad zz [.ref (ad 31), .ref (ad 1), .int a2, .int a3, .int a4, .int a5] σ τ (fun σ' τ' => τ = τ' ∧ (∀ i : Nat, (i < 24 ∨ 25 < i) ∧ (i < 29 ∨ 37 < i) → σ' i = σ i) ∧ (∀ k : Nat, (k < 8 ∨ 8 < k) ∧ (k < 9 ∨ 9 < k) ∧ (k < 10 ∨ 10 < k) ∧ (k < 11 ∨ 11 < k) ∧ (k < 12 ∨ 12 < k) → σ' 31 k = σ 31 k) ∧ (jI31 σ') ∧ True) := by
  refine jMv.of hJ (by decide +kernel) rfl (Nat.le_of_ble_eq_true rfl) ?_
  intro p e s m args below meth c Q ls hC hret hl hP
  obtain ⟨hx, hb, hr, hml, hown, hts, hK, -, hlocks, hZ⟩ := hC
  have hown : s.vm.findClass RX1 = some m.cls := hown
  have hS : va_S (jA ad) s.heap s.heap [] := va_S.rf
  have hA : ∀ q, jA ad q → jA ad q := fun _ h => h
  have hl : lv_has ls 7 [(0, .ref (ad 31)), (1, .ref (ad 1)), (2, .int a2), (3, .int a3), (4, .int a4), (5, .int a5)] := hl
  have g2 := jrg t2
  have g3 := jrg t3
  have g4 := jrg t4
  have g5 := jrg t5
  obtain ⟨i1, w2, w3⟩ : (0 ≤ (σ 31 8).toInt ∧ (σ 31 8).toInt ≤ 350) ∧ (∀ k : Nat, k < 1400 → (-1) ≤ (σ 33 k).toInt ∧ (σ 33 k).toInt ≤ 350) ∧ (∀ k : Nat, k < 1024 → 0 ≤ (σ 36 k).toInt ∧ (σ 36 k).toInt ≤ 349) := id hI31
  refine lv_aload_n hx hb dX1_seekFor_0 rfl (lv_at hl 0 rfl) ?_
  refine lv_iload_n hx hb dX1_seekFor_1 rfl (lv_at hl 2 rfl) ?_
  refine lv_iload_n hx hb dX1_seekFor_2 rfl (lv_at hl 3 rfl) ?_
  refine jcallVv (As := [.int a2, .int a3]) (rest := []) ⟨hx, hb, hml, hown, hts⟩ hK hP hA hS hZ (c_X1_grow_31 l D cI cL ad zz hJ σ τ a2 (A2) t2 a3 (A3) t3 hI31) cw_RX1_54 (jc_31 cI cL ad σ τ) rfl ⟨Nat.le_of_ble_eq_true rfl, Nat.le_of_ble_eq_true rfl⟩ rfl rfl rfl hl.1 rfl (Nat.le_of_ble_eq_true rfl) dX1_seekFor_3 ⟨Nat.zero_le _, Nat.zero_le _⟩ (fun σ4 τ4 H locs h4 hP hS => ?_)
  obtain ⟨rfl, f6, f7, I8, h4⟩ := h4
  obtain ⟨i10, w11, w12⟩ : (0 ≤ (σ4 31 8).toInt ∧ (σ4 31 8).toInt ≤ 350) ∧ (∀ k : Nat, k < 1400 → (-1) ≤ (σ4 33 k).toInt ∧ (σ4 33 k).toInt ≤ 350) ∧ (∀ k : Nat, k < 1024 → 0 ≤ (σ4 36 k).toInt ∧ (σ4 36 k).toInt ≤ 349) := id I8
  refine lv_aload_n hx hb dX1_seekFor_6 rfl (lv_at hl 0 rfl) ?_
  refine va_get (D := D) hx hb hts inlX1 hown hK hP 31 (jc_31 cI cL ad σ4 τ) rfl 8 (by decide) (hts _ kw_27_22) (fun _ h9 => h9) rfl dX1_seekFor_7 ?_
  refine lv_iconst (v := 1) hx hb dX1_seekFor_10 (by decide) ?_
  have g13 := jrg (rfl : (σ4 31 8).toInt = (σ4 31 8).toInt)
  refine lv_isub hx hb dX1_seekFor_11 ?_
  refine lv_topi (fun x14 ex14 => ?_)
  have tx14 : x14.toInt = (σ4 31 8).toInt - 1 := (jsub ex14 rfl jz_1 (by omega) (by omega)).trans (by omega)
  refine lv_istore (lv' := [(6, .int x14), (0, .ref (ad 31)), (1, .ref (ad 1)), (2, .int a2), (3, .int a3), (4, .int a4), (5, .int a5)]) hx hb dX1_seekFor_12 hl (by decide) rfl (fun ls hl => ?_)
  have lp15 : ∀ (n16 : Nat) (x17 : Int32) (σ18 : Nat → Nat → Int32) (H : Heap) (locs : List Loc) (ls : Array Slot), (x17.toInt + 1 : Int) < n16 → (-1) ≤ x17.toInt → x17.toInt ≤ 349 → (∀ i : Nat, (i < 24 ∨ 25 < i) ∧ (i < 29 ∨ 30 < i) ∧ (i < 34 ∨ 35 < i) → σ18 i = σ4 i) → jH D cI cL ad σ18 τ H → va_S (jA ad) s.heap H locs → lv_has ls 7 [(6, .int x17), (0, .ref (ad 31)), (1, .ref (ad 1)), (2, .int a2), (3, .int a3), (4, .int a4), (5, .int a5)] → W p l e ({ frames := 4, cells := 0, slots := 0, locals := 113 }) s m args below meth c H locs 0 0 Q (F0 m 14 ls []) := by
    intro n16
    induction n16 with
    | zero => intro x17 σ18 H locs ls h20 h21 h22; exact absurd h20 (by omega)
    | succ n16 ihlp15 =>
      intro x17 σ18 H locs ls h20 h21 h22 f23 hP hS hl
      refine lv_iload hx hb dX1_seekFor_14 (lv_at hl 0 rfl) ?_
      refine lv_if_lt (tgt := 36) hx hb dX1_seekFor_16 (by decide) (fun c24 => ?_) (fun c24 => ?_)
      · have kc24 := jlt c24 rfl jz_0
        have I25 : jI31 σ18 := jI31_fr (congrFun (f23 31 (by decide)) 8) (f23 33 (by decide)) (f23 36 (by decide)) I8
        exact hret σ18 τ _ _ _ _ ⟨rfl, (fun i hi => ((f23 i (imp_101 i hi)).trans (f6 i (imp_102 i hi)))), (fun i hi => ((congrFun (f23 31 (by decide)) i).trans (f7 i hi))), I25, trivial⟩ hP hS dX1_seekFor_36
      · have kc24 := jnlt c24 rfl jz_0
        refine lv_aload_n hx hb dX1_seekFor_19 rfl (lv_at hl 1 rfl) ?_
        refine lv_iload hx hb dX1_seekFor_20 (lv_at hl 0 rfl) ?_
        refine lv_aload_n hx hb dX1_seekFor_22 rfl (lv_at hl 2 rfl) ?_
        refine lv_iload hx hb dX1_seekFor_23 (lv_at hl 5 rfl) ?_
        refine lv_iload hx hb dX1_seekFor_25 (lv_at hl 6 rfl) ?_
        have I26 : jI16 σ18 := jI16_fr ((congrFun (f23 16 (by decide)) 0).trans (congrFun (f6 16 (by decide)) 0)) ((congrFun (f23 16 (by decide)) 1).trans (congrFun (f6 16 (by decide)) 1)) ((congrFun (f23 16 (by decide)) 2).trans (congrFun (f6 16 (by decide)) 2)) ((f23 17 (by decide)).trans (f6 17 (by decide))) hI16
        have I27 : jI22 σ18 := jI22_fr ((congrFun (f23 22 (by decide)) 0).trans (congrFun (f6 22 (by decide)) 0)) ((f23 23 (by decide)).trans (f6 23 (by decide))) hI22
        have I28 : jI31 σ18 := jI31_fr (congrFun (f23 31 (by decide)) 8) (f23 33 (by decide)) (f23 36 (by decide)) I8
        refine jcallVv (As := [.int x17, .ref (ad 1), .int a4, .int a5]) (rest := []) ⟨hx, hb, hml, hown, hts⟩ hK hP hA hS hZ (c_X1_judge_31_v1 l D cI cL ad zz hJ σ18 τ x17 (x17.toInt) rfl a4 (A4) t4 a5 (A5) t5 I26 I27 I28 (by omega)) cw_RX1_61 (jc_31 cI cL ad σ18 τ) rfl ⟨Nat.le_of_ble_eq_true rfl, Nat.le_of_ble_eq_true rfl⟩ rfl rfl rfl hl.1 rfl (Nat.le_of_ble_eq_true rfl) dX1_seekFor_27 ⟨Nat.zero_le _, Nat.zero_le _⟩ (fun σ29 τ29 H locs h29 hP hS => ?_)
        obtain ⟨rfl, f31, h29⟩ := h29
        obtain ⟨x33, ex33⟩ : ∃ y : Int32, y = x17 + (-1) := ⟨_, rfl⟩
        have tx33 : x33.toInt = x17.toInt - 1 := (jadd ex33 rfl jz_m1 (by omega) (by omega)).trans (by omega)
        refine lv_iinc (v := x33) (lv' := [(6, .int x33), (0, .ref (ad 31)), (1, .ref (ad 1)), (2, .int a2), (3, .int a3), (4, .int a4), (5, .int a5)]) hx hb dX1_seekFor_30 hl (k := 0) rfl (by rw [ex33]; rfl) (by decide) rfl (fun ls hl => ?_)
        refine lv_goto (tgt := 14) hx hb dX1_seekFor_33 (by decide) ?_
        exact ihlp15 x33 σ29 _ _ ls (by have h90 := tx33; omega) (by have h90 := tx33; omega) (by have h90 := tx33; omega) (fun i hi => ((f31 i hi).trans (f23 i hi)))    hP hS (lv_sub hl [0, 1, 2, 3, 4, 5, 6] rfl)
  exact lp15 1000000 x14 σ4 _ _ ls (by have h90 := tx14; omega) (by have h90 := tx14; omega) (by have h90 := tx14; omega) (fun _ _ => rfl)   hP hS hl
set_option maxHeartbeats 4000000 in
set_option maxRecDepth 100000 in
theorem c_X1_seek_31 (l : Launch) (D : va_G) (cI cL : ClassId) (ad zz : Nat → Nat) (hJ : jD ad) (σ : Nat → Nat → Int32) (τ : Nat → Nat → Int64) (a1 : Int32) (A1 : Int) (t1 : a1.toInt = A1) (a2 : Int32) (A2 : Int) (t2 : a2.toInt = A2) (a3 : Int32) (A3 : Int) (t3 : a3.toInt = A3) (hI16 : jI16 σ) (hI22 : jI22 σ) (hI31 : jI31 σ) : jMv l yX1_seek cX1_seek 4 none ({ frames := 5, cells := 0, slots := 0, locals := 139 }) D cI cL ad zz [.ref (ad 31), .int a1, .int a2, .int a3] σ τ (fun σ' τ' => τ = τ' ∧ (∀ i : Nat, (i < 24 ∨ 25 < i) ∧ (i < 29 ∨ 37 < i) → σ' i = σ i) ∧ (∀ k : Nat, (k < 8 ∨ 8 < k) ∧ (k < 9 ∨ 9 < k) ∧ (k < 10 ∨ 10 < k) ∧ (k < 11 ∨ 11 < k) ∧ (k < 12 ∨ 12 < k) → σ' 31 k = σ 31 k) ∧ (jI31 σ') ∧ True) := by
  refine jMv.of hJ (by decide +kernel) rfl (Nat.le_of_ble_eq_true rfl) ?_
  intro p e s m args below meth c Q ls hC hret hl hP
  obtain ⟨hx, hb, hr, hml, hown, hts, hK, -, hlocks, hZ⟩ := hC
  have hown : s.vm.findClass RX1 = some m.cls := hown
  have hS : va_S (jA ad) s.heap s.heap [] := va_S.rf
  have hA : ∀ q, jA ad q → jA ad q := fun _ h => h
  have hl : lv_has ls 4 [(0, .ref (ad 31)), (1, .int a1), (2, .int a2), (3, .int a3)] := hl
  have g1 := jrg t1
  have g2 := jrg t2
  have g3 := jrg t3
  obtain ⟨i1, i2, i3, w4⟩ : (1 ≤ (σ 16 0).toInt ∧ (σ 16 0).toInt ≤ 8) ∧ (1 ≤ (σ 16 1).toInt ∧ (σ 16 1).toInt ≤ 12) ∧ (0 ≤ (σ 16 2).toInt ∧ (σ 16 2).toInt ≤ 999) ∧ (∀ k : Nat, k < 8 → 0 ≤ (σ 17 k).toInt ∧ (σ 17 k).toInt ≤ 3) := id hI16
  refine lv_aload_n hx hb dX1_seek_0 rfl (lv_at hl 0 rfl) ?_
  refine lv_aload_n hx hb dX1_seek_1 rfl (lv_at hl 0 rfl) ?_
  refine va_get (D := D) hx hb hts inlX1 hown hK hP 31 (jc_31 cI cL ad σ τ) rfl 1 (by decide) (hts _ kw_5_11) (fun _ h9 => h9) rfl dX1_seek_2 ?_
  refine va_get (D := D) hx hb hts inlX6 hown hK hP 16 (jc_16 cI cL ad σ τ) rfl 3 (by decide) (hts _ kw_27_16) (fun _ h9 => h9) rfl dX1_seek_5 ?_
  refine lv_iload_n hx hb dX1_seek_8 rfl (lv_at hl 1 rfl) ?_
  refine lv_iload_n hx hb dX1_seek_9 rfl (lv_at hl 2 rfl) ?_
  refine lv_iload_n hx hb dX1_seek_10 rfl (lv_at hl 3 rfl) ?_
  refine lv_aload_n hx hb dX1_seek_11 rfl (lv_at hl 0 rfl) ?_
  refine va_get (D := D) hx hb hts inlX1 hown hK hP 31 (jc_31 cI cL ad σ τ) rfl 1 (by decide) (hts _ kw_5_11) (fun _ h9 => h9) rfl dX1_seek_12 ?_
  refine va_get (D := D) hx hb hts inlX6 hown hK hP 16 (jc_16 cI cL ad σ τ) rfl 0 (by decide) (hts _ kw_27_17) (fun _ h9 => h9) rfl dX1_seek_15 ?_
  refine lv_iconst (v := 1) hx hb dX1_seek_18 (by decide) ?_
  have g5 := jrg (rfl : (σ 16 0).toInt = (σ 16 0).toInt)
  refine lv_isub hx hb dX1_seek_19 ?_
  refine lv_topi (fun x6 ex6 => ?_)
  have tx6 : x6.toInt = (σ 16 0).toInt - 1 := (jsub ex6 rfl jz_1 (by omega) (by omega)).trans (by omega)
  refine jcallVv (As := [.ref (ad 17), .int a1, .int a2, .int a3, .int x6]) (rest := []) ⟨hx, hb, hml, hown, hts⟩ hK hP hA hS hZ (c_X1_seekFor_31 l D cI cL ad zz hJ σ τ a1 (A1) t1 a2 (A2) t2 a3 (A3) t3 x6 ((σ 16 0).toInt - 1) tx6 hI16 hI22 hI31) cw_RX1_50 (jc_31 cI cL ad σ τ) rfl ⟨Nat.le_of_ble_eq_true rfl, Nat.le_of_ble_eq_true rfl⟩ rfl rfl rfl hl.1 rfl (Nat.le_of_ble_eq_true rfl) dX1_seek_20 ⟨Nat.zero_le _, Nat.zero_le _⟩ (fun σ7 τ7 H locs h7 hP hS => ?_)
  obtain ⟨rfl, f9, f10, I11, h7⟩ := h7
  exact hret σ7 τ _ _ _ _ ⟨rfl, (fun i hi => (f9 i hi)), (fun i hi => (f10 i hi)), I11, trivial⟩ hP hS dX1_seek_23
